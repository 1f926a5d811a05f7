def ok_vessel (nv np : Nat) (A : Nat → Nat → Int32) (a : Int32) (b : Int32) : Prop := qRg a 0 4 ∧ qRg b 1 200 ∧ ¬ nv = 8
set_option maxRecDepth 100000 in
set_option maxHeartbeats 0 in
theorem mm_vessel (ro : UInt32 → Nat × (Nat → Int32)) (nv np : Nat) (W : qW) (L : qLog) (I : Nat → Nat → Int32) (G : Nat → Nat → Int64) (A : Nat → Nat → Int32) (B : Nat → Nat → Int64) (K : Int) (hR : mRS nv np A W L I G A B) (hp : MPa nv np A) (hW : wInv nv 10000 K A W) (hK0 : 0 ≤ K) (hK : K ≤ 199000000) (hn : L.1 < 900000000) (a : Int32) (b : Int32) : zWp ro 141 0 [(0, .ref 52), (1, .int a), (2, .int b)] [] (hS I G A B) 0 0 (fun r h1 => ∃ I2 G2 A2 B2, h1 = hS I2 G2 A2 B2 ∧ KQ fHn pHn I G A B I2 G2 A2 B2 ∧ ((¬ ok_vessel nv np A a b ∧ mRS nv np A W L I2 G2 A2 B2 ∧ r = some (.int (-1))) ∨ (ok_vessel nv np A a b ∧ MPa (nv + 1) np (updA (updA (updA (updA (updA (updA (updA A 53 (upd (A 53) nv a)) 54 (upd ((updA A 53 (upd (A 53) nv a)) 54) nv b)) 55 (upd ((updA (updA A 53 (upd (A 53) nv a)) 54 (upd ((updA A 53 (upd (A 53) nv a)) 54) nv b)) 55) nv (if a = 0 ∨ a = 2 then 0 else b))) 56 (upd ((updA (updA (updA A 53 (upd (A 53) nv a)) 54 (upd ((updA A 53 (upd (A 53) nv a)) 54) nv b)) 55 (upd ((updA (updA A 53 (upd (A 53) nv a)) 54 (upd ((updA A 53 (upd (A 53) nv a)) 54) nv b)) 55) nv (if a = 0 ∨ a = 2 then 0 else b))) 56) nv 0)) 57 (upd ((updA (updA (updA (updA A 53 (upd (A 53) nv a)) 54 (upd ((updA A 53 (upd (A 53) nv a)) 54) nv b)) 55 (upd ((updA (updA A 53 (upd (A 53) nv a)) 54 (upd ((updA A 53 (upd (A 53) nv a)) 54) nv b)) 55) nv (if a = 0 ∨ a = 2 then 0 else b))) 56 (upd ((updA (updA (updA A 53 (upd (A 53) nv a)) 54 (upd ((updA A 53 (upd (A 53) nv a)) 54) nv b)) 55 (upd ((updA (updA A 53 (upd (A 53) nv a)) 54 (upd ((updA A 53 (upd (A 53) nv a)) 54) nv b)) 55) nv (if a = 0 ∨ a = 2 then 0 else b))) 56) nv 0)) 57) nv (-1))) 58 (upd ((updA (updA (updA (updA (updA A 53 (upd (A 53) nv a)) 54 (upd ((updA A 53 (upd (A 53) nv a)) 54) nv b)) 55 (upd ((updA (updA A 53 (upd (A 53) nv a)) 54 (upd ((updA A 53 (upd (A 53) nv a)) 54) nv b)) 55) nv (if a = 0 ∨ a = 2 then 0 else b))) 56 (upd ((updA (updA (updA A 53 (upd (A 53) nv a)) 54 (upd ((updA A 53 (upd (A 53) nv a)) 54) nv b)) 55 (upd ((updA (updA A 53 (upd (A 53) nv a)) 54 (upd ((updA A 53 (upd (A 53) nv a)) 54) nv b)) 55) nv (if a = 0 ∨ a = 2 then 0 else b))) 56) nv 0)) 57 (upd ((updA (updA (updA (updA A 53 (upd (A 53) nv a)) 54 (upd ((updA A 53 (upd (A 53) nv a)) 54) nv b)) 55 (upd ((updA (updA A 53 (upd (A 53) nv a)) 54 (upd ((updA A 53 (upd (A 53) nv a)) 54) nv b)) 55) nv (if a = 0 ∨ a = 2 then 0 else b))) 56 (upd ((updA (updA (updA A 53 (upd (A 53) nv a)) 54 (upd ((updA A 53 (upd (A 53) nv a)) 54) nv b)) 55 (upd ((updA (updA A 53 (upd (A 53) nv a)) 54 (upd ((updA A 53 (upd (A 53) nv a)) 54) nv b)) 55) nv (if a = 0 ∨ a = 2 then 0 else b))) 56) nv 0)) 57) nv (-1))) 58) nv (-1))) 59 (upd ((updA (updA (updA (updA (updA (updA A 53 (upd (A 53) nv a)) 54 (upd ((updA A 53 (upd (A 53) nv a)) 54) nv b)) 55 (upd ((updA (updA A 53 (upd (A 53) nv a)) 54 (upd ((updA A 53 (upd (A 53) nv a)) 54) nv b)) 55) nv (if a = 0 ∨ a = 2 then 0 else b))) 56 (upd ((updA (updA (updA A 53 (upd (A 53) nv a)) 54 (upd ((updA A 53 (upd (A 53) nv a)) 54) nv b)) 55 (upd ((updA (updA A 53 (upd (A 53) nv a)) 54 (upd ((updA A 53 (upd (A 53) nv a)) 54) nv b)) 55) nv (if a = 0 ∨ a = 2 then 0 else b))) 56) nv 0)) 57 (upd ((updA (updA (updA (updA A 53 (upd (A 53) nv a)) 54 (upd ((updA A 53 (upd (A 53) nv a)) 54) nv b)) 55 (upd ((updA (updA A 53 (upd (A 53) nv a)) 54 (upd ((updA A 53 (upd (A 53) nv a)) 54) nv b)) 55) nv (if a = 0 ∨ a = 2 then 0 else b))) 56 (upd ((updA (updA (updA A 53 (upd (A 53) nv a)) 54 (upd ((updA A 53 (upd (A 53) nv a)) 54) nv b)) 55 (upd ((updA (updA A 53 (upd (A 53) nv a)) 54 (upd ((updA A 53 (upd (A 53) nv a)) 54) nv b)) 55) nv (if a = 0 ∨ a = 2 then 0 else b))) 56) nv 0)) 57) nv (-1))) 58 (upd ((updA (updA (updA (updA (updA A 53 (upd (A 53) nv a)) 54 (upd ((updA A 53 (upd (A 53) nv a)) 54) nv b)) 55 (upd ((updA (updA A 53 (upd (A 53) nv a)) 54 (upd ((updA A 53 (upd (A 53) nv a)) 54) nv b)) 55) nv (if a = 0 ∨ a = 2 then 0 else b))) 56 (upd ((updA (updA (updA A 53 (upd (A 53) nv a)) 54 (upd ((updA A 53 (upd (A 53) nv a)) 54) nv b)) 55 (upd ((updA (updA A 53 (upd (A 53) nv a)) 54 (upd ((updA A 53 (upd (A 53) nv a)) 54) nv b)) 55) nv (if a = 0 ∨ a = 2 then 0 else b))) 56) nv 0)) 57 (upd ((updA (updA (updA (updA A 53 (upd (A 53) nv a)) 54 (upd ((updA A 53 (upd (A 53) nv a)) 54) nv b)) 55 (upd ((updA (updA A 53 (upd (A 53) nv a)) 54 (upd ((updA A 53 (upd (A 53) nv a)) 54) nv b)) 55) nv (if a = 0 ∨ a = 2 then 0 else b))) 56 (upd ((updA (updA (updA A 53 (upd (A 53) nv a)) 54 (upd ((updA A 53 (upd (A 53) nv a)) 54) nv b)) 55 (upd ((updA (updA A 53 (upd (A 53) nv a)) 54 (upd ((updA A 53 (upd (A 53) nv a)) 54) nv b)) 55) nv (if a = 0 ∨ a = 2 then 0 else b))) 56) nv 0)) 57) nv (-1))) 58) nv (-1))) 59) nv (-1))) ∧ wInv (nv + 1) 10000 (K + 1000) (updA (updA (updA (updA (updA (updA (updA A 53 (upd (A 53) nv a)) 54 (upd ((updA A 53 (upd (A 53) nv a)) 54) nv b)) 55 (upd ((updA (updA A 53 (upd (A 53) nv a)) 54 (upd ((updA A 53 (upd (A 53) nv a)) 54) nv b)) 55) nv (if a = 0 ∨ a = 2 then 0 else b))) 56 (upd ((updA (updA (updA A 53 (upd (A 53) nv a)) 54 (upd ((updA A 53 (upd (A 53) nv a)) 54) nv b)) 55 (upd ((updA (updA A 53 (upd (A 53) nv a)) 54 (upd ((updA A 53 (upd (A 53) nv a)) 54) nv b)) 55) nv (if a = 0 ∨ a = 2 then 0 else b))) 56) nv 0)) 57 (upd ((updA (updA (updA (updA A 53 (upd (A 53) nv a)) 54 (upd ((updA A 53 (upd (A 53) nv a)) 54) nv b)) 55 (upd ((updA (updA A 53 (upd (A 53) nv a)) 54 (upd ((updA A 53 (upd (A 53) nv a)) 54) nv b)) 55) nv (if a = 0 ∨ a = 2 then 0 else b))) 56 (upd ((updA (updA (updA A 53 (upd (A 53) nv a)) 54 (upd ((updA A 53 (upd (A 53) nv a)) 54) nv b)) 55 (upd ((updA (updA A 53 (upd (A 53) nv a)) 54 (upd ((updA A 53 (upd (A 53) nv a)) 54) nv b)) 55) nv (if a = 0 ∨ a = 2 then 0 else b))) 56) nv 0)) 57) nv (-1))) 58 (upd ((updA (updA (updA (updA (updA A 53 (upd (A 53) nv a)) 54 (upd ((updA A 53 (upd (A 53) nv a)) 54) nv b)) 55 (upd ((updA (updA A 53 (upd (A 53) nv a)) 54 (upd ((updA A 53 (upd (A 53) nv a)) 54) nv b)) 55) nv (if a = 0 ∨ a = 2 then 0 else b))) 56 (upd ((updA (updA (updA A 53 (upd (A 53) nv a)) 54 (upd ((updA A 53 (upd (A 53) nv a)) 54) nv b)) 55 (upd ((updA (updA A 53 (upd (A 53) nv a)) 54 (upd ((updA A 53 (upd (A 53) nv a)) 54) nv b)) 55) nv (if a = 0 ∨ a = 2 then 0 else b))) 56) nv 0)) 57 (upd ((updA (updA (updA (updA A 53 (upd (A 53) nv a)) 54 (upd ((updA A 53 (upd (A 53) nv a)) 54) nv b)) 55 (upd ((updA (updA A 53 (upd (A 53) nv a)) 54 (upd ((updA A 53 (upd (A 53) nv a)) 54) nv b)) 55) nv (if a = 0 ∨ a = 2 then 0 else b))) 56 (upd ((updA (updA (updA A 53 (upd (A 53) nv a)) 54 (upd ((updA A 53 (upd (A 53) nv a)) 54) nv b)) 55 (upd ((updA (updA A 53 (upd (A 53) nv a)) 54 (upd ((updA A 53 (upd (A 53) nv a)) 54) nv b)) 55) nv (if a = 0 ∨ a = 2 then 0 else b))) 56) nv 0)) 57) nv (-1))) 58) nv (-1))) 59 (upd ((updA (updA (updA (updA (updA (updA A 53 (upd (A 53) nv a)) 54 (upd ((updA A 53 (upd (A 53) nv a)) 54) nv b)) 55 (upd ((updA (updA A 53 (upd (A 53) nv a)) 54 (upd ((updA A 53 (upd (A 53) nv a)) 54) nv b)) 55) nv (if a = 0 ∨ a = 2 then 0 else b))) 56 (upd ((updA (updA (updA A 53 (upd (A 53) nv a)) 54 (upd ((updA A 53 (upd (A 53) nv a)) 54) nv b)) 55 (upd ((updA (updA A 53 (upd (A 53) nv a)) 54 (upd ((updA A 53 (upd (A 53) nv a)) 54) nv b)) 55) nv (if a = 0 ∨ a = 2 then 0 else b))) 56) nv 0)) 57 (upd ((updA (updA (updA (updA A 53 (upd (A 53) nv a)) 54 (upd ((updA A 53 (upd (A 53) nv a)) 54) nv b)) 55 (upd ((updA (updA A 53 (upd (A 53) nv a)) 54 (upd ((updA A 53 (upd (A 53) nv a)) 54) nv b)) 55) nv (if a = 0 ∨ a = 2 then 0 else b))) 56 (upd ((updA (updA (updA A 53 (upd (A 53) nv a)) 54 (upd ((updA A 53 (upd (A 53) nv a)) 54) nv b)) 55 (upd ((updA (updA A 53 (upd (A 53) nv a)) 54 (upd ((updA A 53 (upd (A 53) nv a)) 54) nv b)) 55) nv (if a = 0 ∨ a = 2 then 0 else b))) 56) nv 0)) 57) nv (-1))) 58 (upd ((updA (updA (updA (updA (updA A 53 (upd (A 53) nv a)) 54 (upd ((updA A 53 (upd (A 53) nv a)) 54) nv b)) 55 (upd ((updA (updA A 53 (upd (A 53) nv a)) 54 (upd ((updA A 53 (upd (A 53) nv a)) 54) nv b)) 55) nv (if a = 0 ∨ a = 2 then 0 else b))) 56 (upd ((updA (updA (updA A 53 (upd (A 53) nv a)) 54 (upd ((updA A 53 (upd (A 53) nv a)) 54) nv b)) 55 (upd ((updA (updA A 53 (upd (A 53) nv a)) 54 (upd ((updA A 53 (upd (A 53) nv a)) 54) nv b)) 55) nv (if a = 0 ∨ a = 2 then 0 else b))) 56) nv 0)) 57 (upd ((updA (updA (updA (updA A 53 (upd (A 53) nv a)) 54 (upd ((updA A 53 (upd (A 53) nv a)) 54) nv b)) 55 (upd ((updA (updA A 53 (upd (A 53) nv a)) 54 (upd ((updA A 53 (upd (A 53) nv a)) 54) nv b)) 55) nv (if a = 0 ∨ a = 2 then 0 else b))) 56 (upd ((updA (updA (updA A 53 (upd (A 53) nv a)) 54 (upd ((updA A 53 (upd (A 53) nv a)) 54) nv b)) 55 (upd ((updA (updA A 53 (upd (A 53) nv a)) 54 (upd ((updA A 53 (upd (A 53) nv a)) 54) nv b)) 55) nv (if a = 0 ∨ a = 2 then 0 else b))) 56) nv 0)) 57) nv (-1))) 58) nv (-1))) 59) nv (-1))) W ∧ mRS (nv + 1) np (updA (updA (updA (updA (updA (updA (updA A 53 (upd (A 53) nv a)) 54 (upd ((updA A 53 (upd (A 53) nv a)) 54) nv b)) 55 (upd ((updA (updA A 53 (upd (A 53) nv a)) 54 (upd ((updA A 53 (upd (A 53) nv a)) 54) nv b)) 55) nv (if a = 0 ∨ a = 2 then 0 else b))) 56 (upd ((updA (updA (updA A 53 (upd (A 53) nv a)) 54 (upd ((updA A 53 (upd (A 53) nv a)) 54) nv b)) 55 (upd ((updA (updA A 53 (upd (A 53) nv a)) 54 (upd ((updA A 53 (upd (A 53) nv a)) 54) nv b)) 55) nv (if a = 0 ∨ a = 2 then 0 else b))) 56) nv 0)) 57 (upd ((updA (updA (updA (updA A 53 (upd (A 53) nv a)) 54 (upd ((updA A 53 (upd (A 53) nv a)) 54) nv b)) 55 (upd ((updA (updA A 53 (upd (A 53) nv a)) 54 (upd ((updA A 53 (upd (A 53) nv a)) 54) nv b)) 55) nv (if a = 0 ∨ a = 2 then 0 else b))) 56 (upd ((updA (updA (updA A 53 (upd (A 53) nv a)) 54 (upd ((updA A 53 (upd (A 53) nv a)) 54) nv b)) 55 (upd ((updA (updA A 53 (upd (A 53) nv a)) 54 (upd ((updA A 53 (upd (A 53) nv a)) 54) nv b)) 55) nv (if a = 0 ∨ a = 2 then 0 else b))) 56) nv 0)) 57) nv (-1))) 58 (upd ((updA (updA (updA (updA (updA A 53 (upd (A 53) nv a)) 54 (upd ((updA A 53 (upd (A 53) nv a)) 54) nv b)) 55 (upd ((updA (updA A 53 (upd (A 53) nv a)) 54 (upd ((updA A 53 (upd (A 53) nv a)) 54) nv b)) 55) nv (if a = 0 ∨ a = 2 then 0 else b))) 56 (upd ((updA (updA (updA A 53 (upd (A 53) nv a)) 54 (upd ((updA A 53 (upd (A 53) nv a)) 54) nv b)) 55 (upd ((updA (updA A 53 (upd (A 53) nv a)) 54 (upd ((updA A 53 (upd (A 53) nv a)) 54) nv b)) 55) nv (if a = 0 ∨ a = 2 then 0 else b))) 56) nv 0)) 57 (upd ((updA (updA (updA (updA A 53 (upd (A 53) nv a)) 54 (upd ((updA A 53 (upd (A 53) nv a)) 54) nv b)) 55 (upd ((updA (updA A 53 (upd (A 53) nv a)) 54 (upd ((updA A 53 (upd (A 53) nv a)) 54) nv b)) 55) nv (if a = 0 ∨ a = 2 then 0 else b))) 56 (upd ((updA (updA (updA A 53 (upd (A 53) nv a)) 54 (upd ((updA A 53 (upd (A 53) nv a)) 54) nv b)) 55 (upd ((updA (updA A 53 (upd (A 53) nv a)) 54 (upd ((updA A 53 (upd (A 53) nv a)) 54) nv b)) 55) nv (if a = 0 ∨ a = 2 then 0 else b))) 56) nv 0)) 57) nv (-1))) 58) nv (-1))) 59 (upd ((updA (updA (updA (updA (updA (updA A 53 (upd (A 53) nv a)) 54 (upd ((updA A 53 (upd (A 53) nv a)) 54) nv b)) 55 (upd ((updA (updA A 53 (upd (A 53) nv a)) 54 (upd ((updA A 53 (upd (A 53) nv a)) 54) nv b)) 55) nv (if a = 0 ∨ a = 2 then 0 else b))) 56 (upd ((updA (updA (updA A 53 (upd (A 53) nv a)) 54 (upd ((updA A 53 (upd (A 53) nv a)) 54) nv b)) 55 (upd ((updA (updA A 53 (upd (A 53) nv a)) 54 (upd ((updA A 53 (upd (A 53) nv a)) 54) nv b)) 55) nv (if a = 0 ∨ a = 2 then 0 else b))) 56) nv 0)) 57 (upd ((updA (updA (updA (updA A 53 (upd (A 53) nv a)) 54 (upd ((updA A 53 (upd (A 53) nv a)) 54) nv b)) 55 (upd ((updA (updA A 53 (upd (A 53) nv a)) 54 (upd ((updA A 53 (upd (A 53) nv a)) 54) nv b)) 55) nv (if a = 0 ∨ a = 2 then 0 else b))) 56 (upd ((updA (updA (updA A 53 (upd (A 53) nv a)) 54 (upd ((updA A 53 (upd (A 53) nv a)) 54) nv b)) 55 (upd ((updA (updA A 53 (upd (A 53) nv a)) 54 (upd ((updA A 53 (upd (A 53) nv a)) 54) nv b)) 55) nv (if a = 0 ∨ a = 2 then 0 else b))) 56) nv 0)) 57) nv (-1))) 58 (upd ((updA (updA (updA (updA (updA A 53 (upd (A 53) nv a)) 54 (upd ((updA A 53 (upd (A 53) nv a)) 54) nv b)) 55 (upd ((updA (updA A 53 (upd (A 53) nv a)) 54 (upd ((updA A 53 (upd (A 53) nv a)) 54) nv b)) 55) nv (if a = 0 ∨ a = 2 then 0 else b))) 56 (upd ((updA (updA (updA A 53 (upd (A 53) nv a)) 54 (upd ((updA A 53 (upd (A 53) nv a)) 54) nv b)) 55 (upd ((updA (updA A 53 (upd (A 53) nv a)) 54 (upd ((updA A 53 (upd (A 53) nv a)) 54) nv b)) 55) nv (if a = 0 ∨ a = 2 then 0 else b))) 56) nv 0)) 57 (upd ((updA (updA (updA (updA A 53 (upd (A 53) nv a)) 54 (upd ((updA A 53 (upd (A 53) nv a)) 54) nv b)) 55 (upd ((updA (updA A 53 (upd (A 53) nv a)) 54 (upd ((updA A 53 (upd (A 53) nv a)) 54) nv b)) 55) nv (if a = 0 ∨ a = 2 then 0 else b))) 56 (upd ((updA (updA (updA A 53 (upd (A 53) nv a)) 54 (upd ((updA A 53 (upd (A 53) nv a)) 54) nv b)) 55 (upd ((updA (updA A 53 (upd (A 53) nv a)) 54 (upd ((updA A 53 (upd (A 53) nv a)) 54) nv b)) 55) nv (if a = 0 ∨ a = 2 then 0 else b))) 56) nv 0)) 57) nv (-1))) 58) nv (-1))) 59) nv (-1))) (wMom (nv + 1) (updA (updA (updA (updA (updA (updA (updA A 53 (upd (A 53) nv a)) 54 (upd ((updA A 53 (upd (A 53) nv a)) 54) nv b)) 55 (upd ((updA (updA A 53 (upd (A 53) nv a)) 54 (upd ((updA A 53 (upd (A 53) nv a)) 54) nv b)) 55) nv (if a = 0 ∨ a = 2 then 0 else b))) 56 (upd ((updA (updA (updA A 53 (upd (A 53) nv a)) 54 (upd ((updA A 53 (upd (A 53) nv a)) 54) nv b)) 55 (upd ((updA (updA A 53 (upd (A 53) nv a)) 54 (upd ((updA A 53 (upd (A 53) nv a)) 54) nv b)) 55) nv (if a = 0 ∨ a = 2 then 0 else b))) 56) nv 0)) 57 (upd ((updA (updA (updA (updA A 53 (upd (A 53) nv a)) 54 (upd ((updA A 53 (upd (A 53) nv a)) 54) nv b)) 55 (upd ((updA (updA A 53 (upd (A 53) nv a)) 54 (upd ((updA A 53 (upd (A 53) nv a)) 54) nv b)) 55) nv (if a = 0 ∨ a = 2 then 0 else b))) 56 (upd ((updA (updA (updA A 53 (upd (A 53) nv a)) 54 (upd ((updA A 53 (upd (A 53) nv a)) 54) nv b)) 55 (upd ((updA (updA A 53 (upd (A 53) nv a)) 54 (upd ((updA A 53 (upd (A 53) nv a)) 54) nv b)) 55) nv (if a = 0 ∨ a = 2 then 0 else b))) 56) nv 0)) 57) nv (-1))) 58 (upd ((updA (updA (updA (updA (updA A 53 (upd (A 53) nv a)) 54 (upd ((updA A 53 (upd (A 53) nv a)) 54) nv b)) 55 (upd ((updA (updA A 53 (upd (A 53) nv a)) 54 (upd ((updA A 53 (upd (A 53) nv a)) 54) nv b)) 55) nv (if a = 0 ∨ a = 2 then 0 else b))) 56 (upd ((updA (updA (updA A 53 (upd (A 53) nv a)) 54 (upd ((updA A 53 (upd (A 53) nv a)) 54) nv b)) 55 (upd ((updA (updA A 53 (upd (A 53) nv a)) 54 (upd ((updA A 53 (upd (A 53) nv a)) 54) nv b)) 55) nv (if a = 0 ∨ a = 2 then 0 else b))) 56) nv 0)) 57 (upd ((updA (updA (updA (updA A 53 (upd (A 53) nv a)) 54 (upd ((updA A 53 (upd (A 53) nv a)) 54) nv b)) 55 (upd ((updA (updA A 53 (upd (A 53) nv a)) 54 (upd ((updA A 53 (upd (A 53) nv a)) 54) nv b)) 55) nv (if a = 0 ∨ a = 2 then 0 else b))) 56 (upd ((updA (updA (updA A 53 (upd (A 53) nv a)) 54 (upd ((updA A 53 (upd (A 53) nv a)) 54) nv b)) 55 (upd ((updA (updA A 53 (upd (A 53) nv a)) 54 (upd ((updA A 53 (upd (A 53) nv a)) 54) nv b)) 55) nv (if a = 0 ∨ a = 2 then 0 else b))) 56) nv 0)) 57) nv (-1))) 58) nv (-1))) 59 (upd ((updA (updA (updA (updA (updA (updA A 53 (upd (A 53) nv a)) 54 (upd ((updA A 53 (upd (A 53) nv a)) 54) nv b)) 55 (upd ((updA (updA A 53 (upd (A 53) nv a)) 54 (upd ((updA A 53 (upd (A 53) nv a)) 54) nv b)) 55) nv (if a = 0 ∨ a = 2 then 0 else b))) 56 (upd ((updA (updA (updA A 53 (upd (A 53) nv a)) 54 (upd ((updA A 53 (upd (A 53) nv a)) 54) nv b)) 55 (upd ((updA (updA A 53 (upd (A 53) nv a)) 54 (upd ((updA A 53 (upd (A 53) nv a)) 54) nv b)) 55) nv (if a = 0 ∨ a = 2 then 0 else b))) 56) nv 0)) 57 (upd ((updA (updA (updA (updA A 53 (upd (A 53) nv a)) 54 (upd ((updA A 53 (upd (A 53) nv a)) 54) nv b)) 55 (upd ((updA (updA A 53 (upd (A 53) nv a)) 54 (upd ((updA A 53 (upd (A 53) nv a)) 54) nv b)) 55) nv (if a = 0 ∨ a = 2 then 0 else b))) 56 (upd ((updA (updA (updA A 53 (upd (A 53) nv a)) 54 (upd ((updA A 53 (upd (A 53) nv a)) 54) nv b)) 55 (upd ((updA (updA A 53 (upd (A 53) nv a)) 54 (upd ((updA A 53 (upd (A 53) nv a)) 54) nv b)) 55) nv (if a = 0 ∨ a = 2 then 0 else b))) 56) nv 0)) 57) nv (-1))) 58 (upd ((updA (updA (updA (updA (updA A 53 (upd (A 53) nv a)) 54 (upd ((updA A 53 (upd (A 53) nv a)) 54) nv b)) 55 (upd ((updA (updA A 53 (upd (A 53) nv a)) 54 (upd ((updA A 53 (upd (A 53) nv a)) 54) nv b)) 55) nv (if a = 0 ∨ a = 2 then 0 else b))) 56 (upd ((updA (updA (updA A 53 (upd (A 53) nv a)) 54 (upd ((updA A 53 (upd (A 53) nv a)) 54) nv b)) 55 (upd ((updA (updA A 53 (upd (A 53) nv a)) 54 (upd ((updA A 53 (upd (A 53) nv a)) 54) nv b)) 55) nv (if a = 0 ∨ a = 2 then 0 else b))) 56) nv 0)) 57 (upd ((updA (updA (updA (updA A 53 (upd (A 53) nv a)) 54 (upd ((updA A 53 (upd (A 53) nv a)) 54) nv b)) 55 (upd ((updA (updA A 53 (upd (A 53) nv a)) 54 (upd ((updA A 53 (upd (A 53) nv a)) 54) nv b)) 55) nv (if a = 0 ∨ a = 2 then 0 else b))) 56 (upd ((updA (updA (updA A 53 (upd (A 53) nv a)) 54 (upd ((updA A 53 (upd (A 53) nv a)) 54) nv b)) 55 (upd ((updA (updA A 53 (upd (A 53) nv a)) 54 (upd ((updA A 53 (upd (A 53) nv a)) 54) nv b)) 55) nv (if a = 0 ∨ a = 2 then 0 else b))) 56) nv 0)) 57) nv (-1))) 58) nv (-1))) 59) nv (-1))) W) (qNotes (I 52 22) W.2.1 W.1 (I 52 41) L (wEv (nv + 1) (updA (updA (updA (updA (updA (updA (updA A 53 (upd (A 53) nv a)) 54 (upd ((updA A 53 (upd (A 53) nv a)) 54) nv b)) 55 (upd ((updA (updA A 53 (upd (A 53) nv a)) 54 (upd ((updA A 53 (upd (A 53) nv a)) 54) nv b)) 55) nv (if a = 0 ∨ a = 2 then 0 else b))) 56 (upd ((updA (updA (updA A 53 (upd (A 53) nv a)) 54 (upd ((updA A 53 (upd (A 53) nv a)) 54) nv b)) 55 (upd ((updA (updA A 53 (upd (A 53) nv a)) 54 (upd ((updA A 53 (upd (A 53) nv a)) 54) nv b)) 55) nv (if a = 0 ∨ a = 2 then 0 else b))) 56) nv 0)) 57 (upd ((updA (updA (updA (updA A 53 (upd (A 53) nv a)) 54 (upd ((updA A 53 (upd (A 53) nv a)) 54) nv b)) 55 (upd ((updA (updA A 53 (upd (A 53) nv a)) 54 (upd ((updA A 53 (upd (A 53) nv a)) 54) nv b)) 55) nv (if a = 0 ∨ a = 2 then 0 else b))) 56 (upd ((updA (updA (updA A 53 (upd (A 53) nv a)) 54 (upd ((updA A 53 (upd (A 53) nv a)) 54) nv b)) 55 (upd ((updA (updA A 53 (upd (A 53) nv a)) 54 (upd ((updA A 53 (upd (A 53) nv a)) 54) nv b)) 55) nv (if a = 0 ∨ a = 2 then 0 else b))) 56) nv 0)) 57) nv (-1))) 58 (upd ((updA (updA (updA (updA (updA A 53 (upd (A 53) nv a)) 54 (upd ((updA A 53 (upd (A 53) nv a)) 54) nv b)) 55 (upd ((updA (updA A 53 (upd (A 53) nv a)) 54 (upd ((updA A 53 (upd (A 53) nv a)) 54) nv b)) 55) nv (if a = 0 ∨ a = 2 then 0 else b))) 56 (upd ((updA (updA (updA A 53 (upd (A 53) nv a)) 54 (upd ((updA A 53 (upd (A 53) nv a)) 54) nv b)) 55 (upd ((updA (updA A 53 (upd (A 53) nv a)) 54 (upd ((updA A 53 (upd (A 53) nv a)) 54) nv b)) 55) nv (if a = 0 ∨ a = 2 then 0 else b))) 56) nv 0)) 57 (upd ((updA (updA (updA (updA A 53 (upd (A 53) nv a)) 54 (upd ((updA A 53 (upd (A 53) nv a)) 54) nv b)) 55 (upd ((updA (updA A 53 (upd (A 53) nv a)) 54 (upd ((updA A 53 (upd (A 53) nv a)) 54) nv b)) 55) nv (if a = 0 ∨ a = 2 then 0 else b))) 56 (upd ((updA (updA (updA A 53 (upd (A 53) nv a)) 54 (upd ((updA A 53 (upd (A 53) nv a)) 54) nv b)) 55 (upd ((updA (updA A 53 (upd (A 53) nv a)) 54 (upd ((updA A 53 (upd (A 53) nv a)) 54) nv b)) 55) nv (if a = 0 ∨ a = 2 then 0 else b))) 56) nv 0)) 57) nv (-1))) 58) nv (-1))) 59 (upd ((updA (updA (updA (updA (updA (updA A 53 (upd (A 53) nv a)) 54 (upd ((updA A 53 (upd (A 53) nv a)) 54) nv b)) 55 (upd ((updA (updA A 53 (upd (A 53) nv a)) 54 (upd ((updA A 53 (upd (A 53) nv a)) 54) nv b)) 55) nv (if a = 0 ∨ a = 2 then 0 else b))) 56 (upd ((updA (updA (updA A 53 (upd (A 53) nv a)) 54 (upd ((updA A 53 (upd (A 53) nv a)) 54) nv b)) 55 (upd ((updA (updA A 53 (upd (A 53) nv a)) 54 (upd ((updA A 53 (upd (A 53) nv a)) 54) nv b)) 55) nv (if a = 0 ∨ a = 2 then 0 else b))) 56) nv 0)) 57 (upd ((updA (updA (updA (updA A 53 (upd (A 53) nv a)) 54 (upd ((updA A 53 (upd (A 53) nv a)) 54) nv b)) 55 (upd ((updA (updA A 53 (upd (A 53) nv a)) 54 (upd ((updA A 53 (upd (A 53) nv a)) 54) nv b)) 55) nv (if a = 0 ∨ a = 2 then 0 else b))) 56 (upd ((updA (updA (updA A 53 (upd (A 53) nv a)) 54 (upd ((updA A 53 (upd (A 53) nv a)) 54) nv b)) 55 (upd ((updA (updA A 53 (upd (A 53) nv a)) 54 (upd ((updA A 53 (upd (A 53) nv a)) 54) nv b)) 55) nv (if a = 0 ∨ a = 2 then 0 else b))) 56) nv 0)) 57) nv (-1))) 58 (upd ((updA (updA (updA (updA (updA A 53 (upd (A 53) nv a)) 54 (upd ((updA A 53 (upd (A 53) nv a)) 54) nv b)) 55 (upd ((updA (updA A 53 (upd (A 53) nv a)) 54 (upd ((updA A 53 (upd (A 53) nv a)) 54) nv b)) 55) nv (if a = 0 ∨ a = 2 then 0 else b))) 56 (upd ((updA (updA (updA A 53 (upd (A 53) nv a)) 54 (upd ((updA A 53 (upd (A 53) nv a)) 54) nv b)) 55 (upd ((updA (updA A 53 (upd (A 53) nv a)) 54 (upd ((updA A 53 (upd (A 53) nv a)) 54) nv b)) 55) nv (if a = 0 ∨ a = 2 then 0 else b))) 56) nv 0)) 57 (upd ((updA (updA (updA (updA A 53 (upd (A 53) nv a)) 54 (upd ((updA A 53 (upd (A 53) nv a)) 54) nv b)) 55 (upd ((updA (updA A 53 (upd (A 53) nv a)) 54 (upd ((updA A 53 (upd (A 53) nv a)) 54) nv b)) 55) nv (if a = 0 ∨ a = 2 then 0 else b))) 56 (upd ((updA (updA (updA A 53 (upd (A 53) nv a)) 54 (upd ((updA A 53 (upd (A 53) nv a)) 54) nv b)) 55 (upd ((updA (updA A 53 (upd (A 53) nv a)) 54 (upd ((updA A 53 (upd (A 53) nv a)) 54) nv b)) 55) nv (if a = 0 ∨ a = 2 then 0 else b))) 56) nv 0)) 57) nv (-1))) 58) nv (-1))) 59) nv (-1))) W)) I2 G2 A2 B2 ∧ r = some (.int (nI nv))))) := by
  have h8 := hp.1
  have h14 := hp.2.1
  refine zw_iload_n 1 f141_0 rfl rfl ?_
  refine zw_iconst 0 2 f141_1 rfl (by decide +kernel) ?_
  refine zw_iconst 4 3 f141_2 rfl (by decide +kernel) ?_
  refine zw_static_i 6 0 0 [.int a, .int 0, .int 4] [] [(0, .int a), (1, .int 0), (2, .int 4)] f141_3 rfl k141_117_99 rfl (by decide +kernel) (Nat.le_of_ble_eq_true rfl) (Nat.le_of_ble_eq_true rfl) rfl rfl (by decide +kernel) (by decide +kernel) rfl (Nat.le_of_ble_eq_true rfl) rfl ?_
  refine zw_iload_n 1 f120_0 rfl rfl ?_
  refine zw_iload_n 2 f120_1 rfl rfl ?_
  refine zw_ic_lt 5 14 f120_2 (by decide +kernel) rfl (fun hc1 => ?_) (fun hc1 => ?_)
  · refine zw_iconst 0 15 f120_14 rfl (by decide +kernel) ?_
    refine zw_zreturn f120_15 r120 u120 (by decide +kernel) ⟨_, rfl, ?_⟩
    refine zw_if_eq_t 20 f141_6 (by decide +kernel) (by decide +kernel) ?_
    refine zw_aload_n 21 f141_20 rfl rfl ?_
    refine zw_iconst 1 22 f141_21 rfl (by decide +kernel) ?_
    refine zw_virtual_i 25 0 0 [.ref 52, .int 1] [(0, .ref 52), (1, .int 1)] f141_22 rfl n141_209 k141_209_12 rfl (hb_52 _ _ _ _) (by decide +kernel) (Nat.le_of_ble_eq_true rfl) rfl rfl (by decide +kernel) (by decide +kernel) rfl (Nat.le_of_ble_eq_true rfl) rfl ?_
    refine zw_aload_n 1 f121_0 rfl rfl ?_
    refine zw_iload_n 2 f121_1 rfl rfl ?_
    refine zw_put _ 5 f121_2 rfl g121_111_12 (hb_52 _ _ _ _) rfl (Nat.le_of_ble_eq_true rfl) (by decide +kernel) (hi_52_27 _ _ _ _ _) ?_
    refine zw_iconst (-1) 6 f121_5 rfl (by decide +kernel) ?_
    refine zw_ireturn f121_6 r121 u121 ⟨_, rfl, ?_⟩
    refine zw_ireturn f141_25 r141 u141 ?_
    exact ⟨_, _, _, _, rfl, (KQ.i rfl KQ.rf), Or.inl ⟨(fun q => (fun q => q.1 hc1) q.1), (hR.k (pf := fun k j => decide (k = 52 ∧ j = 27)) (pa := fun _ => false) (KQ.i rfl KQ.rf) f27_R (fun _ _ _ => rfl)), rfl⟩⟩
  · refine zw_iload_n 6 f120_5 rfl rfl ?_
    refine zw_iload_n 7 f120_6 rfl rfl ?_
    refine zw_ic_gt 10 14 f120_7 (by decide +kernel) rfl (fun hc2 => ?_) (fun hc2 => ?_)
    · refine zw_iconst 0 15 f120_14 rfl (by decide +kernel) ?_
      refine zw_zreturn f120_15 r120 u120 (by decide +kernel) ⟨_, rfl, ?_⟩
      refine zw_if_eq_t 20 f141_6 (by decide +kernel) (by decide +kernel) ?_
      refine zw_aload_n 21 f141_20 rfl rfl ?_
      refine zw_iconst 1 22 f141_21 rfl (by decide +kernel) ?_
      refine zw_virtual_i 25 0 0 [.ref 52, .int 1] [(0, .ref 52), (1, .int 1)] f141_22 rfl n141_209 k141_209_12 rfl (hb_52 _ _ _ _) (by decide +kernel) (Nat.le_of_ble_eq_true rfl) rfl rfl (by decide +kernel) (by decide +kernel) rfl (Nat.le_of_ble_eq_true rfl) rfl ?_
      refine zw_aload_n 1 f121_0 rfl rfl ?_
      refine zw_iload_n 2 f121_1 rfl rfl ?_
      refine zw_put _ 5 f121_2 rfl g121_111_12 (hb_52 _ _ _ _) rfl (Nat.le_of_ble_eq_true rfl) (by decide +kernel) (hi_52_27 _ _ _ _ _) ?_
      refine zw_iconst (-1) 6 f121_5 rfl (by decide +kernel) ?_
      refine zw_ireturn f121_6 r121 u121 ⟨_, rfl, ?_⟩
      refine zw_ireturn f141_25 r141 u141 ?_
      exact ⟨_, _, _, _, rfl, (KQ.i rfl KQ.rf), Or.inl ⟨(fun q => (fun q => q.2 hc2) q.1), (hR.k (pf := fun k j => decide (k = 52 ∧ j = 27)) (pa := fun _ => false) (KQ.i rfl KQ.rf) f27_R (fun _ _ _ => rfl)), rfl⟩⟩
    · refine zw_iconst 1 11 f120_10 rfl (by decide +kernel) ?_
      refine zw_goto 15 f120_11 (by decide +kernel) ?_
      refine zw_zreturn f120_15 r120 u120 (by decide +kernel) ⟨_, rfl, ?_⟩
      refine zw_if_eq_f 9 20 f141_6 (by decide +kernel) rfl (by decide +kernel) ?_
      refine zw_iload_n 10 f141_9 rfl rfl ?_
      refine zw_iconst 1 11 f141_10 rfl (by decide +kernel) ?_
      refine zw_sipush 200 14 f141_11 rfl (by decide +kernel) ?_
      refine zw_static_i 17 0 0 [.int b, .int 1, .int 200] [] [(0, .int b), (1, .int 1), (2, .int 200)] f141_14 rfl k141_117_99 rfl (by decide +kernel) (Nat.le_of_ble_eq_true rfl) (Nat.le_of_ble_eq_true rfl) rfl rfl (by decide +kernel) (by decide +kernel) rfl (Nat.le_of_ble_eq_true rfl) rfl ?_
      refine zw_iload_n 1 f120_0 rfl rfl ?_
      refine zw_iload_n 2 f120_1 rfl rfl ?_
      refine zw_ic_lt 5 14 f120_2 (by decide +kernel) rfl (fun hc3 => ?_) (fun hc3 => ?_)
      · refine zw_iconst 0 15 f120_14 rfl (by decide +kernel) ?_
        refine zw_zreturn f120_15 r120 u120 (by decide +kernel) ⟨_, rfl, ?_⟩
        refine zw_if_ne_f 20 26 f141_17 (by decide +kernel) rfl (by decide +kernel) ?_
        refine zw_aload_n 21 f141_20 rfl rfl ?_
        refine zw_iconst 1 22 f141_21 rfl (by decide +kernel) ?_
        refine zw_virtual_i 25 0 0 [.ref 52, .int 1] [(0, .ref 52), (1, .int 1)] f141_22 rfl n141_209 k141_209_12 rfl (hb_52 _ _ _ _) (by decide +kernel) (Nat.le_of_ble_eq_true rfl) rfl rfl (by decide +kernel) (by decide +kernel) rfl (Nat.le_of_ble_eq_true rfl) rfl ?_
        refine zw_aload_n 1 f121_0 rfl rfl ?_
        refine zw_iload_n 2 f121_1 rfl rfl ?_
        refine zw_put _ 5 f121_2 rfl g121_111_12 (hb_52 _ _ _ _) rfl (Nat.le_of_ble_eq_true rfl) (by decide +kernel) (hi_52_27 _ _ _ _ _) ?_
        refine zw_iconst (-1) 6 f121_5 rfl (by decide +kernel) ?_
        refine zw_ireturn f121_6 r121 u121 ⟨_, rfl, ?_⟩
        refine zw_ireturn f141_25 r141 u141 ?_
        exact ⟨_, _, _, _, rfl, (KQ.i rfl KQ.rf), Or.inl ⟨(fun q => (fun q => q.1 hc3) q.2.1), (hR.k (pf := fun k j => decide (k = 52 ∧ j = 27)) (pa := fun _ => false) (KQ.i rfl KQ.rf) f27_R (fun _ _ _ => rfl)), rfl⟩⟩
      · refine zw_iload_n 6 f120_5 rfl rfl ?_
        refine zw_iload_n 7 f120_6 rfl rfl ?_
        refine zw_ic_gt 10 14 f120_7 (by decide +kernel) rfl (fun hc4 => ?_) (fun hc4 => ?_)
        · refine zw_iconst 0 15 f120_14 rfl (by decide +kernel) ?_
          refine zw_zreturn f120_15 r120 u120 (by decide +kernel) ⟨_, rfl, ?_⟩
          refine zw_if_ne_f 20 26 f141_17 (by decide +kernel) rfl (by decide +kernel) ?_
          refine zw_aload_n 21 f141_20 rfl rfl ?_
          refine zw_iconst 1 22 f141_21 rfl (by decide +kernel) ?_
          refine zw_virtual_i 25 0 0 [.ref 52, .int 1] [(0, .ref 52), (1, .int 1)] f141_22 rfl n141_209 k141_209_12 rfl (hb_52 _ _ _ _) (by decide +kernel) (Nat.le_of_ble_eq_true rfl) rfl rfl (by decide +kernel) (by decide +kernel) rfl (Nat.le_of_ble_eq_true rfl) rfl ?_
          refine zw_aload_n 1 f121_0 rfl rfl ?_
          refine zw_iload_n 2 f121_1 rfl rfl ?_
          refine zw_put _ 5 f121_2 rfl g121_111_12 (hb_52 _ _ _ _) rfl (Nat.le_of_ble_eq_true rfl) (by decide +kernel) (hi_52_27 _ _ _ _ _) ?_
          refine zw_iconst (-1) 6 f121_5 rfl (by decide +kernel) ?_
          refine zw_ireturn f121_6 r121 u121 ⟨_, rfl, ?_⟩
          refine zw_ireturn f141_25 r141 u141 ?_
          exact ⟨_, _, _, _, rfl, (KQ.i rfl KQ.rf), Or.inl ⟨(fun q => (fun q => q.2 hc4) q.2.1), (hR.k (pf := fun k j => decide (k = 52 ∧ j = 27)) (pa := fun _ => false) (KQ.i rfl KQ.rf) f27_R (fun _ _ _ => rfl)), rfl⟩⟩
        · refine zw_iconst 1 11 f120_10 rfl (by decide +kernel) ?_
          refine zw_goto 15 f120_11 (by decide +kernel) ?_
          refine zw_zreturn f120_15 r120 u120 (by decide +kernel) ⟨_, rfl, ?_⟩
          refine zw_if_ne_t 26 f141_17 (by decide +kernel) (by decide +kernel) ?_
          refine zw_aload_n 27 f141_26 rfl rfl ?_
          refine zw_getI (nI nv) 30 f141_27 rfl g141_114_12 (hb_52 _ _ _ _) rfl hR.1.1 ?_
          refine zw_bipush 8 32 f141_30 rfl (by decide +kernel) ?_
          refine zw_ic_ne 35 41 f141_32 (by decide +kernel) rfl (fun hc5 => ?_) (fun hc5 => ?_)
          · have hl8 : nv < 8 := nI_l8 h8 hc5
            refine zw_aload_n 42 f141_41 rfl rfl ?_
            refine zw_getI (nI nv) 45 f141_42 rfl g141_114_12 (hb_52 _ _ _ _) rfl hR.1.1 ?_
            refine zw_istore_n _ 46 f141_45 rfl (by decide +kernel) rfl ?_
            refine zw_aload_n 47 f141_46 rfl (zl1_ne rfl rfl rfl) ?_
            refine zw_dup 48 f141_47 rfl rfl ?_
            refine zw_getI (nI nv) 51 f141_48 rfl g141_114_12 (hb_52 _ _ _ _) rfl hR.1.1 ?_
            refine zw_iconst 1 52 f141_51 rfl (by decide +kernel) ?_
            refine zw_iadd (nI (nv + 1)) 53 f141_52 rfl (nI_add _ 1) ?_
            refine zw_put _ 56 f141_53 rfl g141_114_12 (hb_52 _ _ _ _) rfl (Nat.le_of_ble_eq_true rfl) (by decide +kernel) (hi_52_0 _ _ _ _ _) ?_
            refine zw_aload_n 57 f141_56 rfl (zl1_ne rfl rfl rfl) ?_
            refine zw_getfield 60 f141_57 rfl g141_7_12 (hb_52 _ _ _ _) rfl ?_
            refine zw_iload_n 61 f141_60 rfl zl1_eq ?_
            refine zw_iload_n 62 f141_61 rfl (zl1_ne rfl rfl rfl) ?_
            refine zw_ast nv _ 63 f141_62 rfl (hb_53 _ _ _ _) (nI_clamp (by omega)) (nI_pos (by omega)) (by omega) (ha_53 _ _ _ _ _) ?_
            refine zw_aload_n 64 f141_63 rfl (zl1_ne rfl rfl rfl) ?_
            refine zw_getfield 67 f141_64 rfl g141_13_12 (hb_52 _ _ _ _) rfl ?_
            refine zw_iload_n 68 f141_67 rfl zl1_eq ?_
            refine zw_iload_n 69 f141_68 rfl (zl1_ne rfl rfl rfl) ?_
            refine zw_ast nv _ 70 f141_69 rfl (hb_54 _ _ _ _) (nI_clamp (by omega)) (nI_pos (by omega)) (by omega) (ha_54 _ _ _ _ _) ?_
            refine zw_aload_n 71 f141_70 rfl (zl1_ne rfl rfl rfl) ?_
            refine zw_getfield 74 f141_71 rfl g141_16_12 (hb_52 _ _ _ _) rfl ?_
            refine zw_iload_n 75 f141_74 rfl zl1_eq ?_
            refine zw_iload_n 76 f141_75 rfl (zl1_ne rfl rfl rfl) ?_
            refine zw_if_eq 79 84 f141_76 (by decide +kernel) rfl (fun hc6 => ?_) (fun hc6 => ?_)
            · refine zw_iconst 0 85 f141_84 rfl (by decide +kernel) ?_
              refine zw_goto 89 f141_85 (by decide +kernel) ?_
              refine zw_ast nv _ 90 f141_89 rfl (hb_55 _ _ _ _) (nI_clamp (by omega)) (nI_pos (by omega)) (by omega) (ha_55 _ _ _ _ _) ?_
              refine zw_aload_n 91 f141_90 rfl (zl1_ne rfl rfl rfl) ?_
              refine zw_getfield 94 f141_91 rfl g141_19_12 (hb_52 _ _ _ _) rfl ?_
              refine zw_iload_n 95 f141_94 rfl zl1_eq ?_
              refine zw_iconst 0 96 f141_95 rfl (by decide +kernel) ?_
              refine zw_ast nv _ 97 f141_96 rfl (hb_56 _ _ _ _) (nI_clamp (by omega)) (nI_pos (by omega)) (by omega) (ha_56 _ _ _ _ _) ?_
              refine zw_aload_n 98 f141_97 rfl (zl1_ne rfl rfl rfl) ?_
              refine zw_getfield 101 f141_98 rfl g141_22_12 (hb_52 _ _ _ _) rfl ?_
              refine zw_iload_n 102 f141_101 rfl zl1_eq ?_
              refine zw_iconst (-1) 103 f141_102 rfl (by decide +kernel) ?_
              refine zw_ast nv _ 104 f141_103 rfl (hb_57 _ _ _ _) (nI_clamp (by omega)) (nI_pos (by omega)) (by omega) (ha_57 _ _ _ _ _) ?_
              refine zw_aload_n 105 f141_104 rfl (zl1_ne rfl rfl rfl) ?_
              refine zw_getfield 108 f141_105 rfl g141_25_12 (hb_52 _ _ _ _) rfl ?_
              refine zw_iload_n 109 f141_108 rfl zl1_eq ?_
              refine zw_iconst (-1) 110 f141_109 rfl (by decide +kernel) ?_
              refine zw_ast nv _ 111 f141_110 rfl (hb_58 _ _ _ _) (nI_clamp (by omega)) (nI_pos (by omega)) (by omega) (ha_58 _ _ _ _ _) ?_
              refine zw_aload_n 112 f141_111 rfl (zl1_ne rfl rfl rfl) ?_
              refine zw_getfield 115 f141_112 rfl g141_28_12 (hb_52 _ _ _ _) rfl ?_
              refine zw_iload_n 116 f141_115 rfl zl1_eq ?_
              refine zw_iconst (-1) 117 f141_116 rfl (by decide +kernel) ?_
              refine zw_ast nv _ 118 f141_117 rfl (hb_59 _ _ _ _) (nI_clamp (by omega)) (nI_pos (by omega)) (by omega) (ha_59 _ _ _ _ _) ?_
              refine zw_aload_n 119 f141_118 rfl (zl1_ne rfl rfl rfl) ?_
              refine zw_iload_n 120 f141_119 rfl zl1_eq ?_
              refine zw_virtual_i 123 0 0 [.ref 52, .int (nI nv)] [(0, .ref 52), (1, .int (nI nv))] f141_120 rfl n141_212 k141_212_12 rfl (hb_52 _ _ _ _) (by decide +kernel) (Nat.le_of_ble_eq_true rfl) rfl rfl (by decide +kernel) (by decide +kernel) rfl (Nat.le_of_ble_eq_true rfl) rfl ?_
              have hb := qRg.i (l := 1) (h := 200) (by decide) (by decide) (show qRg b 1 200 from ⟨hc3, hc4⟩)
              have hok : ok_vessel nv np A a b := ⟨⟨hc1, hc2⟩, ⟨hc3, hc4⟩, (fun q => hc5 (by rw [q]; decide))⟩
              have Rz : mRS (nv + 1) np (updA (updA (updA (updA (updA (updA (updA A 53 (upd (A 53) nv a)) 54 (upd ((updA A 53 (upd (A 53) nv a)) 54) nv b)) 55 (upd ((updA (updA A 53 (upd (A 53) nv a)) 54 (upd ((updA A 53 (upd (A 53) nv a)) 54) nv b)) 55) nv 0)) 56 (upd ((updA (updA (updA A 53 (upd (A 53) nv a)) 54 (upd ((updA A 53 (upd (A 53) nv a)) 54) nv b)) 55 (upd ((updA (updA A 53 (upd (A 53) nv a)) 54 (upd ((updA A 53 (upd (A 53) nv a)) 54) nv b)) 55) nv 0)) 56) nv 0)) 57 (upd ((updA (updA (updA (updA A 53 (upd (A 53) nv a)) 54 (upd ((updA A 53 (upd (A 53) nv a)) 54) nv b)) 55 (upd ((updA (updA A 53 (upd (A 53) nv a)) 54 (upd ((updA A 53 (upd (A 53) nv a)) 54) nv b)) 55) nv 0)) 56 (upd ((updA (updA (updA A 53 (upd (A 53) nv a)) 54 (upd ((updA A 53 (upd (A 53) nv a)) 54) nv b)) 55 (upd ((updA (updA A 53 (upd (A 53) nv a)) 54 (upd ((updA A 53 (upd (A 53) nv a)) 54) nv b)) 55) nv 0)) 56) nv 0)) 57) nv (-1))) 58 (upd ((updA (updA (updA (updA (updA A 53 (upd (A 53) nv a)) 54 (upd ((updA A 53 (upd (A 53) nv a)) 54) nv b)) 55 (upd ((updA (updA A 53 (upd (A 53) nv a)) 54 (upd ((updA A 53 (upd (A 53) nv a)) 54) nv b)) 55) nv 0)) 56 (upd ((updA (updA (updA A 53 (upd (A 53) nv a)) 54 (upd ((updA A 53 (upd (A 53) nv a)) 54) nv b)) 55 (upd ((updA (updA A 53 (upd (A 53) nv a)) 54 (upd ((updA A 53 (upd (A 53) nv a)) 54) nv b)) 55) nv 0)) 56) nv 0)) 57 (upd ((updA (updA (updA (updA A 53 (upd (A 53) nv a)) 54 (upd ((updA A 53 (upd (A 53) nv a)) 54) nv b)) 55 (upd ((updA (updA A 53 (upd (A 53) nv a)) 54 (upd ((updA A 53 (upd (A 53) nv a)) 54) nv b)) 55) nv 0)) 56 (upd ((updA (updA (updA A 53 (upd (A 53) nv a)) 54 (upd ((updA A 53 (upd (A 53) nv a)) 54) nv b)) 55 (upd ((updA (updA A 53 (upd (A 53) nv a)) 54 (upd ((updA A 53 (upd (A 53) nv a)) 54) nv b)) 55) nv 0)) 56) nv 0)) 57) nv (-1))) 58) nv (-1))) 59 (upd ((updA (updA (updA (updA (updA (updA A 53 (upd (A 53) nv a)) 54 (upd ((updA A 53 (upd (A 53) nv a)) 54) nv b)) 55 (upd ((updA (updA A 53 (upd (A 53) nv a)) 54 (upd ((updA A 53 (upd (A 53) nv a)) 54) nv b)) 55) nv 0)) 56 (upd ((updA (updA (updA A 53 (upd (A 53) nv a)) 54 (upd ((updA A 53 (upd (A 53) nv a)) 54) nv b)) 55 (upd ((updA (updA A 53 (upd (A 53) nv a)) 54 (upd ((updA A 53 (upd (A 53) nv a)) 54) nv b)) 55) nv 0)) 56) nv 0)) 57 (upd ((updA (updA (updA (updA A 53 (upd (A 53) nv a)) 54 (upd ((updA A 53 (upd (A 53) nv a)) 54) nv b)) 55 (upd ((updA (updA A 53 (upd (A 53) nv a)) 54 (upd ((updA A 53 (upd (A 53) nv a)) 54) nv b)) 55) nv 0)) 56 (upd ((updA (updA (updA A 53 (upd (A 53) nv a)) 54 (upd ((updA A 53 (upd (A 53) nv a)) 54) nv b)) 55 (upd ((updA (updA A 53 (upd (A 53) nv a)) 54 (upd ((updA A 53 (upd (A 53) nv a)) 54) nv b)) 55) nv 0)) 56) nv 0)) 57) nv (-1))) 58 (upd ((updA (updA (updA (updA (updA A 53 (upd (A 53) nv a)) 54 (upd ((updA A 53 (upd (A 53) nv a)) 54) nv b)) 55 (upd ((updA (updA A 53 (upd (A 53) nv a)) 54 (upd ((updA A 53 (upd (A 53) nv a)) 54) nv b)) 55) nv 0)) 56 (upd ((updA (updA (updA A 53 (upd (A 53) nv a)) 54 (upd ((updA A 53 (upd (A 53) nv a)) 54) nv b)) 55 (upd ((updA (updA A 53 (upd (A 53) nv a)) 54 (upd ((updA A 53 (upd (A 53) nv a)) 54) nv b)) 55) nv 0)) 56) nv 0)) 57 (upd ((updA (updA (updA (updA A 53 (upd (A 53) nv a)) 54 (upd ((updA A 53 (upd (A 53) nv a)) 54) nv b)) 55 (upd ((updA (updA A 53 (upd (A 53) nv a)) 54 (upd ((updA A 53 (upd (A 53) nv a)) 54) nv b)) 55) nv 0)) 56 (upd ((updA (updA (updA A 53 (upd (A 53) nv a)) 54 (upd ((updA A 53 (upd (A 53) nv a)) 54) nv b)) 55 (upd ((updA (updA A 53 (upd (A 53) nv a)) 54 (upd ((updA A 53 (upd (A 53) nv a)) 54) nv b)) 55) nv 0)) 56) nv 0)) 57) nv (-1))) 58) nv (-1))) 59) nv (-1))) W L (upd2 I 52 0 (nI (nv + 1))) G (updA (updA (updA (updA (updA (updA (updA A 53 (upd (A 53) nv a)) 54 (upd ((updA A 53 (upd (A 53) nv a)) 54) nv b)) 55 (upd ((updA (updA A 53 (upd (A 53) nv a)) 54 (upd ((updA A 53 (upd (A 53) nv a)) 54) nv b)) 55) nv 0)) 56 (upd ((updA (updA (updA A 53 (upd (A 53) nv a)) 54 (upd ((updA A 53 (upd (A 53) nv a)) 54) nv b)) 55 (upd ((updA (updA A 53 (upd (A 53) nv a)) 54 (upd ((updA A 53 (upd (A 53) nv a)) 54) nv b)) 55) nv 0)) 56) nv 0)) 57 (upd ((updA (updA (updA (updA A 53 (upd (A 53) nv a)) 54 (upd ((updA A 53 (upd (A 53) nv a)) 54) nv b)) 55 (upd ((updA (updA A 53 (upd (A 53) nv a)) 54 (upd ((updA A 53 (upd (A 53) nv a)) 54) nv b)) 55) nv 0)) 56 (upd ((updA (updA (updA A 53 (upd (A 53) nv a)) 54 (upd ((updA A 53 (upd (A 53) nv a)) 54) nv b)) 55 (upd ((updA (updA A 53 (upd (A 53) nv a)) 54 (upd ((updA A 53 (upd (A 53) nv a)) 54) nv b)) 55) nv 0)) 56) nv 0)) 57) nv (-1))) 58 (upd ((updA (updA (updA (updA (updA A 53 (upd (A 53) nv a)) 54 (upd ((updA A 53 (upd (A 53) nv a)) 54) nv b)) 55 (upd ((updA (updA A 53 (upd (A 53) nv a)) 54 (upd ((updA A 53 (upd (A 53) nv a)) 54) nv b)) 55) nv 0)) 56 (upd ((updA (updA (updA A 53 (upd (A 53) nv a)) 54 (upd ((updA A 53 (upd (A 53) nv a)) 54) nv b)) 55 (upd ((updA (updA A 53 (upd (A 53) nv a)) 54 (upd ((updA A 53 (upd (A 53) nv a)) 54) nv b)) 55) nv 0)) 56) nv 0)) 57 (upd ((updA (updA (updA (updA A 53 (upd (A 53) nv a)) 54 (upd ((updA A 53 (upd (A 53) nv a)) 54) nv b)) 55 (upd ((updA (updA A 53 (upd (A 53) nv a)) 54 (upd ((updA A 53 (upd (A 53) nv a)) 54) nv b)) 55) nv 0)) 56 (upd ((updA (updA (updA A 53 (upd (A 53) nv a)) 54 (upd ((updA A 53 (upd (A 53) nv a)) 54) nv b)) 55 (upd ((updA (updA A 53 (upd (A 53) nv a)) 54 (upd ((updA A 53 (upd (A 53) nv a)) 54) nv b)) 55) nv 0)) 56) nv 0)) 57) nv (-1))) 58) nv (-1))) 59 (upd ((updA (updA (updA (updA (updA (updA A 53 (upd (A 53) nv a)) 54 (upd ((updA A 53 (upd (A 53) nv a)) 54) nv b)) 55 (upd ((updA (updA A 53 (upd (A 53) nv a)) 54 (upd ((updA A 53 (upd (A 53) nv a)) 54) nv b)) 55) nv 0)) 56 (upd ((updA (updA (updA A 53 (upd (A 53) nv a)) 54 (upd ((updA A 53 (upd (A 53) nv a)) 54) nv b)) 55 (upd ((updA (updA A 53 (upd (A 53) nv a)) 54 (upd ((updA A 53 (upd (A 53) nv a)) 54) nv b)) 55) nv 0)) 56) nv 0)) 57 (upd ((updA (updA (updA (updA A 53 (upd (A 53) nv a)) 54 (upd ((updA A 53 (upd (A 53) nv a)) 54) nv b)) 55 (upd ((updA (updA A 53 (upd (A 53) nv a)) 54 (upd ((updA A 53 (upd (A 53) nv a)) 54) nv b)) 55) nv 0)) 56 (upd ((updA (updA (updA A 53 (upd (A 53) nv a)) 54 (upd ((updA A 53 (upd (A 53) nv a)) 54) nv b)) 55 (upd ((updA (updA A 53 (upd (A 53) nv a)) 54 (upd ((updA A 53 (upd (A 53) nv a)) 54) nv b)) 55) nv 0)) 56) nv 0)) 57) nv (-1))) 58 (upd ((updA (updA (updA (updA (updA A 53 (upd (A 53) nv a)) 54 (upd ((updA A 53 (upd (A 53) nv a)) 54) nv b)) 55 (upd ((updA (updA A 53 (upd (A 53) nv a)) 54 (upd ((updA A 53 (upd (A 53) nv a)) 54) nv b)) 55) nv 0)) 56 (upd ((updA (updA (updA A 53 (upd (A 53) nv a)) 54 (upd ((updA A 53 (upd (A 53) nv a)) 54) nv b)) 55 (upd ((updA (updA A 53 (upd (A 53) nv a)) 54 (upd ((updA A 53 (upd (A 53) nv a)) 54) nv b)) 55) nv 0)) 56) nv 0)) 57 (upd ((updA (updA (updA (updA A 53 (upd (A 53) nv a)) 54 (upd ((updA A 53 (upd (A 53) nv a)) 54) nv b)) 55 (upd ((updA (updA A 53 (upd (A 53) nv a)) 54 (upd ((updA A 53 (upd (A 53) nv a)) 54) nv b)) 55) nv 0)) 56 (upd ((updA (updA (updA A 53 (upd (A 53) nv a)) 54 (upd ((updA A 53 (upd (A 53) nv a)) 54) nv b)) 55 (upd ((updA (updA A 53 (upd (A 53) nv a)) 54 (upd ((updA A 53 (upd (A 53) nv a)) 54) nv b)) 55) nv 0)) 56) nv 0)) 57) nv (-1))) 58) nv (-1))) 59) nv (-1))) B := ⟨⟨rfl, hR.1.2⟩, PE.rf, hR.2.2.1, hR.2.2.2⟩
              have hv8 := hl8
              have hp2 : MPa (nv + 1) np (updA (updA (updA (updA (updA (updA (updA A 53 (upd (A 53) nv a)) 54 (upd ((updA A 53 (upd (A 53) nv a)) 54) nv b)) 55 (upd ((updA (updA A 53 (upd (A 53) nv a)) 54 (upd ((updA A 53 (upd (A 53) nv a)) 54) nv b)) 55) nv 0)) 56 (upd ((updA (updA (updA A 53 (upd (A 53) nv a)) 54 (upd ((updA A 53 (upd (A 53) nv a)) 54) nv b)) 55 (upd ((updA (updA A 53 (upd (A 53) nv a)) 54 (upd ((updA A 53 (upd (A 53) nv a)) 54) nv b)) 55) nv 0)) 56) nv 0)) 57 (upd ((updA (updA (updA (updA A 53 (upd (A 53) nv a)) 54 (upd ((updA A 53 (upd (A 53) nv a)) 54) nv b)) 55 (upd ((updA (updA A 53 (upd (A 53) nv a)) 54 (upd ((updA A 53 (upd (A 53) nv a)) 54) nv b)) 55) nv 0)) 56 (upd ((updA (updA (updA A 53 (upd (A 53) nv a)) 54 (upd ((updA A 53 (upd (A 53) nv a)) 54) nv b)) 55 (upd ((updA (updA A 53 (upd (A 53) nv a)) 54 (upd ((updA A 53 (upd (A 53) nv a)) 54) nv b)) 55) nv 0)) 56) nv 0)) 57) nv (-1))) 58 (upd ((updA (updA (updA (updA (updA A 53 (upd (A 53) nv a)) 54 (upd ((updA A 53 (upd (A 53) nv a)) 54) nv b)) 55 (upd ((updA (updA A 53 (upd (A 53) nv a)) 54 (upd ((updA A 53 (upd (A 53) nv a)) 54) nv b)) 55) nv 0)) 56 (upd ((updA (updA (updA A 53 (upd (A 53) nv a)) 54 (upd ((updA A 53 (upd (A 53) nv a)) 54) nv b)) 55 (upd ((updA (updA A 53 (upd (A 53) nv a)) 54 (upd ((updA A 53 (upd (A 53) nv a)) 54) nv b)) 55) nv 0)) 56) nv 0)) 57 (upd ((updA (updA (updA (updA A 53 (upd (A 53) nv a)) 54 (upd ((updA A 53 (upd (A 53) nv a)) 54) nv b)) 55 (upd ((updA (updA A 53 (upd (A 53) nv a)) 54 (upd ((updA A 53 (upd (A 53) nv a)) 54) nv b)) 55) nv 0)) 56 (upd ((updA (updA (updA A 53 (upd (A 53) nv a)) 54 (upd ((updA A 53 (upd (A 53) nv a)) 54) nv b)) 55 (upd ((updA (updA A 53 (upd (A 53) nv a)) 54 (upd ((updA A 53 (upd (A 53) nv a)) 54) nv b)) 55) nv 0)) 56) nv 0)) 57) nv (-1))) 58) nv (-1))) 59 (upd ((updA (updA (updA (updA (updA (updA A 53 (upd (A 53) nv a)) 54 (upd ((updA A 53 (upd (A 53) nv a)) 54) nv b)) 55 (upd ((updA (updA A 53 (upd (A 53) nv a)) 54 (upd ((updA A 53 (upd (A 53) nv a)) 54) nv b)) 55) nv 0)) 56 (upd ((updA (updA (updA A 53 (upd (A 53) nv a)) 54 (upd ((updA A 53 (upd (A 53) nv a)) 54) nv b)) 55 (upd ((updA (updA A 53 (upd (A 53) nv a)) 54 (upd ((updA A 53 (upd (A 53) nv a)) 54) nv b)) 55) nv 0)) 56) nv 0)) 57 (upd ((updA (updA (updA (updA A 53 (upd (A 53) nv a)) 54 (upd ((updA A 53 (upd (A 53) nv a)) 54) nv b)) 55 (upd ((updA (updA A 53 (upd (A 53) nv a)) 54 (upd ((updA A 53 (upd (A 53) nv a)) 54) nv b)) 55) nv 0)) 56 (upd ((updA (updA (updA A 53 (upd (A 53) nv a)) 54 (upd ((updA A 53 (upd (A 53) nv a)) 54) nv b)) 55 (upd ((updA (updA A 53 (upd (A 53) nv a)) 54 (upd ((updA A 53 (upd (A 53) nv a)) 54) nv b)) 55) nv 0)) 56) nv 0)) 57) nv (-1))) 58 (upd ((updA (updA (updA (updA (updA A 53 (upd (A 53) nv a)) 54 (upd ((updA A 53 (upd (A 53) nv a)) 54) nv b)) 55 (upd ((updA (updA A 53 (upd (A 53) nv a)) 54 (upd ((updA A 53 (upd (A 53) nv a)) 54) nv b)) 55) nv 0)) 56 (upd ((updA (updA (updA A 53 (upd (A 53) nv a)) 54 (upd ((updA A 53 (upd (A 53) nv a)) 54) nv b)) 55 (upd ((updA (updA A 53 (upd (A 53) nv a)) 54 (upd ((updA A 53 (upd (A 53) nv a)) 54) nv b)) 55) nv 0)) 56) nv 0)) 57 (upd ((updA (updA (updA (updA A 53 (upd (A 53) nv a)) 54 (upd ((updA A 53 (upd (A 53) nv a)) 54) nv b)) 55 (upd ((updA (updA A 53 (upd (A 53) nv a)) 54 (upd ((updA A 53 (upd (A 53) nv a)) 54) nv b)) 55) nv 0)) 56 (upd ((updA (updA (updA A 53 (upd (A 53) nv a)) 54 (upd ((updA A 53 (upd (A 53) nv a)) 54) nv b)) 55 (upd ((updA (updA A 53 (upd (A 53) nv a)) 54 (upd ((updA A 53 (upd (A 53) nv a)) 54) nv b)) 55) nv 0)) 56) nv 0)) 57) nv (-1))) 58) nv (-1))) 59) nv (-1))) := hp.vs (b := b) (hi := 0) hv8 hb (Or.inl rfl) rfl rfl rfl rfl rfl rfl rfl rfl rfl
              have hW2 : wInv (nv + 1) 10000 (K + 1000) (updA (updA (updA (updA (updA (updA (updA A 53 (upd (A 53) nv a)) 54 (upd ((updA A 53 (upd (A 53) nv a)) 54) nv b)) 55 (upd ((updA (updA A 53 (upd (A 53) nv a)) 54 (upd ((updA A 53 (upd (A 53) nv a)) 54) nv b)) 55) nv 0)) 56 (upd ((updA (updA (updA A 53 (upd (A 53) nv a)) 54 (upd ((updA A 53 (upd (A 53) nv a)) 54) nv b)) 55 (upd ((updA (updA A 53 (upd (A 53) nv a)) 54 (upd ((updA A 53 (upd (A 53) nv a)) 54) nv b)) 55) nv 0)) 56) nv 0)) 57 (upd ((updA (updA (updA (updA A 53 (upd (A 53) nv a)) 54 (upd ((updA A 53 (upd (A 53) nv a)) 54) nv b)) 55 (upd ((updA (updA A 53 (upd (A 53) nv a)) 54 (upd ((updA A 53 (upd (A 53) nv a)) 54) nv b)) 55) nv 0)) 56 (upd ((updA (updA (updA A 53 (upd (A 53) nv a)) 54 (upd ((updA A 53 (upd (A 53) nv a)) 54) nv b)) 55 (upd ((updA (updA A 53 (upd (A 53) nv a)) 54 (upd ((updA A 53 (upd (A 53) nv a)) 54) nv b)) 55) nv 0)) 56) nv 0)) 57) nv (-1))) 58 (upd ((updA (updA (updA (updA (updA A 53 (upd (A 53) nv a)) 54 (upd ((updA A 53 (upd (A 53) nv a)) 54) nv b)) 55 (upd ((updA (updA A 53 (upd (A 53) nv a)) 54 (upd ((updA A 53 (upd (A 53) nv a)) 54) nv b)) 55) nv 0)) 56 (upd ((updA (updA (updA A 53 (upd (A 53) nv a)) 54 (upd ((updA A 53 (upd (A 53) nv a)) 54) nv b)) 55 (upd ((updA (updA A 53 (upd (A 53) nv a)) 54 (upd ((updA A 53 (upd (A 53) nv a)) 54) nv b)) 55) nv 0)) 56) nv 0)) 57 (upd ((updA (updA (updA (updA A 53 (upd (A 53) nv a)) 54 (upd ((updA A 53 (upd (A 53) nv a)) 54) nv b)) 55 (upd ((updA (updA A 53 (upd (A 53) nv a)) 54 (upd ((updA A 53 (upd (A 53) nv a)) 54) nv b)) 55) nv 0)) 56 (upd ((updA (updA (updA A 53 (upd (A 53) nv a)) 54 (upd ((updA A 53 (upd (A 53) nv a)) 54) nv b)) 55 (upd ((updA (updA A 53 (upd (A 53) nv a)) 54 (upd ((updA A 53 (upd (A 53) nv a)) 54) nv b)) 55) nv 0)) 56) nv 0)) 57) nv (-1))) 58) nv (-1))) 59 (upd ((updA (updA (updA (updA (updA (updA A 53 (upd (A 53) nv a)) 54 (upd ((updA A 53 (upd (A 53) nv a)) 54) nv b)) 55 (upd ((updA (updA A 53 (upd (A 53) nv a)) 54 (upd ((updA A 53 (upd (A 53) nv a)) 54) nv b)) 55) nv 0)) 56 (upd ((updA (updA (updA A 53 (upd (A 53) nv a)) 54 (upd ((updA A 53 (upd (A 53) nv a)) 54) nv b)) 55 (upd ((updA (updA A 53 (upd (A 53) nv a)) 54 (upd ((updA A 53 (upd (A 53) nv a)) 54) nv b)) 55) nv 0)) 56) nv 0)) 57 (upd ((updA (updA (updA (updA A 53 (upd (A 53) nv a)) 54 (upd ((updA A 53 (upd (A 53) nv a)) 54) nv b)) 55 (upd ((updA (updA A 53 (upd (A 53) nv a)) 54 (upd ((updA A 53 (upd (A 53) nv a)) 54) nv b)) 55) nv 0)) 56 (upd ((updA (updA (updA A 53 (upd (A 53) nv a)) 54 (upd ((updA A 53 (upd (A 53) nv a)) 54) nv b)) 55 (upd ((updA (updA A 53 (upd (A 53) nv a)) 54 (upd ((updA A 53 (upd (A 53) nv a)) 54) nv b)) 55) nv 0)) 56) nv 0)) 57) nv (-1))) 58 (upd ((updA (updA (updA (updA (updA A 53 (upd (A 53) nv a)) 54 (upd ((updA A 53 (upd (A 53) nv a)) 54) nv b)) 55 (upd ((updA (updA A 53 (upd (A 53) nv a)) 54 (upd ((updA A 53 (upd (A 53) nv a)) 54) nv b)) 55) nv 0)) 56 (upd ((updA (updA (updA A 53 (upd (A 53) nv a)) 54 (upd ((updA A 53 (upd (A 53) nv a)) 54) nv b)) 55 (upd ((updA (updA A 53 (upd (A 53) nv a)) 54 (upd ((updA A 53 (upd (A 53) nv a)) 54) nv b)) 55) nv 0)) 56) nv 0)) 57 (upd ((updA (updA (updA (updA A 53 (upd (A 53) nv a)) 54 (upd ((updA A 53 (upd (A 53) nv a)) 54) nv b)) 55 (upd ((updA (updA A 53 (upd (A 53) nv a)) 54 (upd ((updA A 53 (upd (A 53) nv a)) 54) nv b)) 55) nv 0)) 56 (upd ((updA (updA (updA A 53 (upd (A 53) nv a)) 54 (upd ((updA A 53 (upd (A 53) nv a)) 54) nv b)) 55 (upd ((updA (updA A 53 (upd (A 53) nv a)) 54 (upd ((updA A 53 (upd (A 53) nv a)) 54) nv b)) 55) nv 0)) 56) nv 0)) 57) nv (-1))) 58) nv (-1))) 59) nv (-1))) W := (hW.vs (b := b) hb.1 rfl).mo (by omega) (by omega)
              refine zWp.mono (mm_hand ro (nv + 1) np (updA (updA (updA (updA (updA (updA (updA A 53 (upd (A 53) nv a)) 54 (upd ((updA A 53 (upd (A 53) nv a)) 54) nv b)) 55 (upd ((updA (updA A 53 (upd (A 53) nv a)) 54 (upd ((updA A 53 (upd (A 53) nv a)) 54) nv b)) 55) nv 0)) 56 (upd ((updA (updA (updA A 53 (upd (A 53) nv a)) 54 (upd ((updA A 53 (upd (A 53) nv a)) 54) nv b)) 55 (upd ((updA (updA A 53 (upd (A 53) nv a)) 54 (upd ((updA A 53 (upd (A 53) nv a)) 54) nv b)) 55) nv 0)) 56) nv 0)) 57 (upd ((updA (updA (updA (updA A 53 (upd (A 53) nv a)) 54 (upd ((updA A 53 (upd (A 53) nv a)) 54) nv b)) 55 (upd ((updA (updA A 53 (upd (A 53) nv a)) 54 (upd ((updA A 53 (upd (A 53) nv a)) 54) nv b)) 55) nv 0)) 56 (upd ((updA (updA (updA A 53 (upd (A 53) nv a)) 54 (upd ((updA A 53 (upd (A 53) nv a)) 54) nv b)) 55 (upd ((updA (updA A 53 (upd (A 53) nv a)) 54 (upd ((updA A 53 (upd (A 53) nv a)) 54) nv b)) 55) nv 0)) 56) nv 0)) 57) nv (-1))) 58 (upd ((updA (updA (updA (updA (updA A 53 (upd (A 53) nv a)) 54 (upd ((updA A 53 (upd (A 53) nv a)) 54) nv b)) 55 (upd ((updA (updA A 53 (upd (A 53) nv a)) 54 (upd ((updA A 53 (upd (A 53) nv a)) 54) nv b)) 55) nv 0)) 56 (upd ((updA (updA (updA A 53 (upd (A 53) nv a)) 54 (upd ((updA A 53 (upd (A 53) nv a)) 54) nv b)) 55 (upd ((updA (updA A 53 (upd (A 53) nv a)) 54 (upd ((updA A 53 (upd (A 53) nv a)) 54) nv b)) 55) nv 0)) 56) nv 0)) 57 (upd ((updA (updA (updA (updA A 53 (upd (A 53) nv a)) 54 (upd ((updA A 53 (upd (A 53) nv a)) 54) nv b)) 55 (upd ((updA (updA A 53 (upd (A 53) nv a)) 54 (upd ((updA A 53 (upd (A 53) nv a)) 54) nv b)) 55) nv 0)) 56 (upd ((updA (updA (updA A 53 (upd (A 53) nv a)) 54 (upd ((updA A 53 (upd (A 53) nv a)) 54) nv b)) 55 (upd ((updA (updA A 53 (upd (A 53) nv a)) 54 (upd ((updA A 53 (upd (A 53) nv a)) 54) nv b)) 55) nv 0)) 56) nv 0)) 57) nv (-1))) 58) nv (-1))) 59 (upd ((updA (updA (updA (updA (updA (updA A 53 (upd (A 53) nv a)) 54 (upd ((updA A 53 (upd (A 53) nv a)) 54) nv b)) 55 (upd ((updA (updA A 53 (upd (A 53) nv a)) 54 (upd ((updA A 53 (upd (A 53) nv a)) 54) nv b)) 55) nv 0)) 56 (upd ((updA (updA (updA A 53 (upd (A 53) nv a)) 54 (upd ((updA A 53 (upd (A 53) nv a)) 54) nv b)) 55 (upd ((updA (updA A 53 (upd (A 53) nv a)) 54 (upd ((updA A 53 (upd (A 53) nv a)) 54) nv b)) 55) nv 0)) 56) nv 0)) 57 (upd ((updA (updA (updA (updA A 53 (upd (A 53) nv a)) 54 (upd ((updA A 53 (upd (A 53) nv a)) 54) nv b)) 55 (upd ((updA (updA A 53 (upd (A 53) nv a)) 54 (upd ((updA A 53 (upd (A 53) nv a)) 54) nv b)) 55) nv 0)) 56 (upd ((updA (updA (updA A 53 (upd (A 53) nv a)) 54 (upd ((updA A 53 (upd (A 53) nv a)) 54) nv b)) 55 (upd ((updA (updA A 53 (upd (A 53) nv a)) 54 (upd ((updA A 53 (upd (A 53) nv a)) 54) nv b)) 55) nv 0)) 56) nv 0)) 57) nv (-1))) 58 (upd ((updA (updA (updA (updA (updA A 53 (upd (A 53) nv a)) 54 (upd ((updA A 53 (upd (A 53) nv a)) 54) nv b)) 55 (upd ((updA (updA A 53 (upd (A 53) nv a)) 54 (upd ((updA A 53 (upd (A 53) nv a)) 54) nv b)) 55) nv 0)) 56 (upd ((updA (updA (updA A 53 (upd (A 53) nv a)) 54 (upd ((updA A 53 (upd (A 53) nv a)) 54) nv b)) 55 (upd ((updA (updA A 53 (upd (A 53) nv a)) 54 (upd ((updA A 53 (upd (A 53) nv a)) 54) nv b)) 55) nv 0)) 56) nv 0)) 57 (upd ((updA (updA (updA (updA A 53 (upd (A 53) nv a)) 54 (upd ((updA A 53 (upd (A 53) nv a)) 54) nv b)) 55 (upd ((updA (updA A 53 (upd (A 53) nv a)) 54 (upd ((updA A 53 (upd (A 53) nv a)) 54) nv b)) 55) nv 0)) 56 (upd ((updA (updA (updA A 53 (upd (A 53) nv a)) 54 (upd ((updA A 53 (upd (A 53) nv a)) 54) nv b)) 55 (upd ((updA (updA A 53 (upd (A 53) nv a)) 54 (upd ((updA A 53 (upd (A 53) nv a)) 54) nv b)) 55) nv 0)) 56) nv 0)) 57) nv (-1))) 58) nv (-1))) 59) nv (-1))) W L _ _ _ _ (K + 1000) (nI nv) Rz hp2 hW2 (by omega) (by omega)) ?_
              rintro r h1 ⟨I2, G2, A2, B2, rfl, K2, R2, rfl⟩
              refine ⟨_, rfl, ?_⟩
              refine zw_ireturn f141_123 r141 u141 ?_
              exact ⟨_, _, _, _, rfl, (KQ.tr (KQ.a rfl (KQ.a rfl (KQ.a rfl (KQ.a rfl (KQ.a rfl (KQ.a rfl (KQ.a rfl (KQ.i rfl KQ.rf)))))))) K2), Or.inr ⟨hok, by rw [show (if a = 0 ∨ a = 2 then (0 : Int32) else b) = 0 from (if_pos (Or.inl hc6))]; exact ⟨hp2, hW2, R2, rfl⟩⟩⟩
            · refine zw_iload_n 80 f141_79 rfl (zl1_ne rfl rfl rfl) ?_
              refine zw_iconst 2 81 f141_80 rfl (by decide +kernel) ?_
              refine zw_ic_ne 84 88 f141_81 (by decide +kernel) rfl (fun hc7 => ?_) (fun hc7 => ?_)
              · refine zw_iload_n 89 f141_88 rfl (zl1_ne rfl rfl rfl) ?_
                refine zw_ast nv _ 90 f141_89 rfl (hb_55 _ _ _ _) (nI_clamp (by omega)) (nI_pos (by omega)) (by omega) (ha_55 _ _ _ _ _) ?_
                refine zw_aload_n 91 f141_90 rfl (zl1_ne rfl rfl rfl) ?_
                refine zw_getfield 94 f141_91 rfl g141_19_12 (hb_52 _ _ _ _) rfl ?_
                refine zw_iload_n 95 f141_94 rfl zl1_eq ?_
                refine zw_iconst 0 96 f141_95 rfl (by decide +kernel) ?_
                refine zw_ast nv _ 97 f141_96 rfl (hb_56 _ _ _ _) (nI_clamp (by omega)) (nI_pos (by omega)) (by omega) (ha_56 _ _ _ _ _) ?_
                refine zw_aload_n 98 f141_97 rfl (zl1_ne rfl rfl rfl) ?_
                refine zw_getfield 101 f141_98 rfl g141_22_12 (hb_52 _ _ _ _) rfl ?_
                refine zw_iload_n 102 f141_101 rfl zl1_eq ?_
                refine zw_iconst (-1) 103 f141_102 rfl (by decide +kernel) ?_
                refine zw_ast nv _ 104 f141_103 rfl (hb_57 _ _ _ _) (nI_clamp (by omega)) (nI_pos (by omega)) (by omega) (ha_57 _ _ _ _ _) ?_
                refine zw_aload_n 105 f141_104 rfl (zl1_ne rfl rfl rfl) ?_
                refine zw_getfield 108 f141_105 rfl g141_25_12 (hb_52 _ _ _ _) rfl ?_
                refine zw_iload_n 109 f141_108 rfl zl1_eq ?_
                refine zw_iconst (-1) 110 f141_109 rfl (by decide +kernel) ?_
                refine zw_ast nv _ 111 f141_110 rfl (hb_58 _ _ _ _) (nI_clamp (by omega)) (nI_pos (by omega)) (by omega) (ha_58 _ _ _ _ _) ?_
                refine zw_aload_n 112 f141_111 rfl (zl1_ne rfl rfl rfl) ?_
                refine zw_getfield 115 f141_112 rfl g141_28_12 (hb_52 _ _ _ _) rfl ?_
                refine zw_iload_n 116 f141_115 rfl zl1_eq ?_
                refine zw_iconst (-1) 117 f141_116 rfl (by decide +kernel) ?_
                refine zw_ast nv _ 118 f141_117 rfl (hb_59 _ _ _ _) (nI_clamp (by omega)) (nI_pos (by omega)) (by omega) (ha_59 _ _ _ _ _) ?_
                refine zw_aload_n 119 f141_118 rfl (zl1_ne rfl rfl rfl) ?_
                refine zw_iload_n 120 f141_119 rfl zl1_eq ?_
                refine zw_virtual_i 123 0 0 [.ref 52, .int (nI nv)] [(0, .ref 52), (1, .int (nI nv))] f141_120 rfl n141_212 k141_212_12 rfl (hb_52 _ _ _ _) (by decide +kernel) (Nat.le_of_ble_eq_true rfl) rfl rfl (by decide +kernel) (by decide +kernel) rfl (Nat.le_of_ble_eq_true rfl) rfl ?_
                have hb := qRg.i (l := 1) (h := 200) (by decide) (by decide) (show qRg b 1 200 from ⟨hc3, hc4⟩)
                have hok : ok_vessel nv np A a b := ⟨⟨hc1, hc2⟩, ⟨hc3, hc4⟩, (fun q => hc5 (by rw [q]; decide))⟩
                have Rz : mRS (nv + 1) np (updA (updA (updA (updA (updA (updA (updA A 53 (upd (A 53) nv a)) 54 (upd ((updA A 53 (upd (A 53) nv a)) 54) nv b)) 55 (upd ((updA (updA A 53 (upd (A 53) nv a)) 54 (upd ((updA A 53 (upd (A 53) nv a)) 54) nv b)) 55) nv b)) 56 (upd ((updA (updA (updA A 53 (upd (A 53) nv a)) 54 (upd ((updA A 53 (upd (A 53) nv a)) 54) nv b)) 55 (upd ((updA (updA A 53 (upd (A 53) nv a)) 54 (upd ((updA A 53 (upd (A 53) nv a)) 54) nv b)) 55) nv b)) 56) nv 0)) 57 (upd ((updA (updA (updA (updA A 53 (upd (A 53) nv a)) 54 (upd ((updA A 53 (upd (A 53) nv a)) 54) nv b)) 55 (upd ((updA (updA A 53 (upd (A 53) nv a)) 54 (upd ((updA A 53 (upd (A 53) nv a)) 54) nv b)) 55) nv b)) 56 (upd ((updA (updA (updA A 53 (upd (A 53) nv a)) 54 (upd ((updA A 53 (upd (A 53) nv a)) 54) nv b)) 55 (upd ((updA (updA A 53 (upd (A 53) nv a)) 54 (upd ((updA A 53 (upd (A 53) nv a)) 54) nv b)) 55) nv b)) 56) nv 0)) 57) nv (-1))) 58 (upd ((updA (updA (updA (updA (updA A 53 (upd (A 53) nv a)) 54 (upd ((updA A 53 (upd (A 53) nv a)) 54) nv b)) 55 (upd ((updA (updA A 53 (upd (A 53) nv a)) 54 (upd ((updA A 53 (upd (A 53) nv a)) 54) nv b)) 55) nv b)) 56 (upd ((updA (updA (updA A 53 (upd (A 53) nv a)) 54 (upd ((updA A 53 (upd (A 53) nv a)) 54) nv b)) 55 (upd ((updA (updA A 53 (upd (A 53) nv a)) 54 (upd ((updA A 53 (upd (A 53) nv a)) 54) nv b)) 55) nv b)) 56) nv 0)) 57 (upd ((updA (updA (updA (updA A 53 (upd (A 53) nv a)) 54 (upd ((updA A 53 (upd (A 53) nv a)) 54) nv b)) 55 (upd ((updA (updA A 53 (upd (A 53) nv a)) 54 (upd ((updA A 53 (upd (A 53) nv a)) 54) nv b)) 55) nv b)) 56 (upd ((updA (updA (updA A 53 (upd (A 53) nv a)) 54 (upd ((updA A 53 (upd (A 53) nv a)) 54) nv b)) 55 (upd ((updA (updA A 53 (upd (A 53) nv a)) 54 (upd ((updA A 53 (upd (A 53) nv a)) 54) nv b)) 55) nv b)) 56) nv 0)) 57) nv (-1))) 58) nv (-1))) 59 (upd ((updA (updA (updA (updA (updA (updA A 53 (upd (A 53) nv a)) 54 (upd ((updA A 53 (upd (A 53) nv a)) 54) nv b)) 55 (upd ((updA (updA A 53 (upd (A 53) nv a)) 54 (upd ((updA A 53 (upd (A 53) nv a)) 54) nv b)) 55) nv b)) 56 (upd ((updA (updA (updA A 53 (upd (A 53) nv a)) 54 (upd ((updA A 53 (upd (A 53) nv a)) 54) nv b)) 55 (upd ((updA (updA A 53 (upd (A 53) nv a)) 54 (upd ((updA A 53 (upd (A 53) nv a)) 54) nv b)) 55) nv b)) 56) nv 0)) 57 (upd ((updA (updA (updA (updA A 53 (upd (A 53) nv a)) 54 (upd ((updA A 53 (upd (A 53) nv a)) 54) nv b)) 55 (upd ((updA (updA A 53 (upd (A 53) nv a)) 54 (upd ((updA A 53 (upd (A 53) nv a)) 54) nv b)) 55) nv b)) 56 (upd ((updA (updA (updA A 53 (upd (A 53) nv a)) 54 (upd ((updA A 53 (upd (A 53) nv a)) 54) nv b)) 55 (upd ((updA (updA A 53 (upd (A 53) nv a)) 54 (upd ((updA A 53 (upd (A 53) nv a)) 54) nv b)) 55) nv b)) 56) nv 0)) 57) nv (-1))) 58 (upd ((updA (updA (updA (updA (updA A 53 (upd (A 53) nv a)) 54 (upd ((updA A 53 (upd (A 53) nv a)) 54) nv b)) 55 (upd ((updA (updA A 53 (upd (A 53) nv a)) 54 (upd ((updA A 53 (upd (A 53) nv a)) 54) nv b)) 55) nv b)) 56 (upd ((updA (updA (updA A 53 (upd (A 53) nv a)) 54 (upd ((updA A 53 (upd (A 53) nv a)) 54) nv b)) 55 (upd ((updA (updA A 53 (upd (A 53) nv a)) 54 (upd ((updA A 53 (upd (A 53) nv a)) 54) nv b)) 55) nv b)) 56) nv 0)) 57 (upd ((updA (updA (updA (updA A 53 (upd (A 53) nv a)) 54 (upd ((updA A 53 (upd (A 53) nv a)) 54) nv b)) 55 (upd ((updA (updA A 53 (upd (A 53) nv a)) 54 (upd ((updA A 53 (upd (A 53) nv a)) 54) nv b)) 55) nv b)) 56 (upd ((updA (updA (updA A 53 (upd (A 53) nv a)) 54 (upd ((updA A 53 (upd (A 53) nv a)) 54) nv b)) 55 (upd ((updA (updA A 53 (upd (A 53) nv a)) 54 (upd ((updA A 53 (upd (A 53) nv a)) 54) nv b)) 55) nv b)) 56) nv 0)) 57) nv (-1))) 58) nv (-1))) 59) nv (-1))) W L (upd2 I 52 0 (nI (nv + 1))) G (updA (updA (updA (updA (updA (updA (updA A 53 (upd (A 53) nv a)) 54 (upd ((updA A 53 (upd (A 53) nv a)) 54) nv b)) 55 (upd ((updA (updA A 53 (upd (A 53) nv a)) 54 (upd ((updA A 53 (upd (A 53) nv a)) 54) nv b)) 55) nv b)) 56 (upd ((updA (updA (updA A 53 (upd (A 53) nv a)) 54 (upd ((updA A 53 (upd (A 53) nv a)) 54) nv b)) 55 (upd ((updA (updA A 53 (upd (A 53) nv a)) 54 (upd ((updA A 53 (upd (A 53) nv a)) 54) nv b)) 55) nv b)) 56) nv 0)) 57 (upd ((updA (updA (updA (updA A 53 (upd (A 53) nv a)) 54 (upd ((updA A 53 (upd (A 53) nv a)) 54) nv b)) 55 (upd ((updA (updA A 53 (upd (A 53) nv a)) 54 (upd ((updA A 53 (upd (A 53) nv a)) 54) nv b)) 55) nv b)) 56 (upd ((updA (updA (updA A 53 (upd (A 53) nv a)) 54 (upd ((updA A 53 (upd (A 53) nv a)) 54) nv b)) 55 (upd ((updA (updA A 53 (upd (A 53) nv a)) 54 (upd ((updA A 53 (upd (A 53) nv a)) 54) nv b)) 55) nv b)) 56) nv 0)) 57) nv (-1))) 58 (upd ((updA (updA (updA (updA (updA A 53 (upd (A 53) nv a)) 54 (upd ((updA A 53 (upd (A 53) nv a)) 54) nv b)) 55 (upd ((updA (updA A 53 (upd (A 53) nv a)) 54 (upd ((updA A 53 (upd (A 53) nv a)) 54) nv b)) 55) nv b)) 56 (upd ((updA (updA (updA A 53 (upd (A 53) nv a)) 54 (upd ((updA A 53 (upd (A 53) nv a)) 54) nv b)) 55 (upd ((updA (updA A 53 (upd (A 53) nv a)) 54 (upd ((updA A 53 (upd (A 53) nv a)) 54) nv b)) 55) nv b)) 56) nv 0)) 57 (upd ((updA (updA (updA (updA A 53 (upd (A 53) nv a)) 54 (upd ((updA A 53 (upd (A 53) nv a)) 54) nv b)) 55 (upd ((updA (updA A 53 (upd (A 53) nv a)) 54 (upd ((updA A 53 (upd (A 53) nv a)) 54) nv b)) 55) nv b)) 56 (upd ((updA (updA (updA A 53 (upd (A 53) nv a)) 54 (upd ((updA A 53 (upd (A 53) nv a)) 54) nv b)) 55 (upd ((updA (updA A 53 (upd (A 53) nv a)) 54 (upd ((updA A 53 (upd (A 53) nv a)) 54) nv b)) 55) nv b)) 56) nv 0)) 57) nv (-1))) 58) nv (-1))) 59 (upd ((updA (updA (updA (updA (updA (updA A 53 (upd (A 53) nv a)) 54 (upd ((updA A 53 (upd (A 53) nv a)) 54) nv b)) 55 (upd ((updA (updA A 53 (upd (A 53) nv a)) 54 (upd ((updA A 53 (upd (A 53) nv a)) 54) nv b)) 55) nv b)) 56 (upd ((updA (updA (updA A 53 (upd (A 53) nv a)) 54 (upd ((updA A 53 (upd (A 53) nv a)) 54) nv b)) 55 (upd ((updA (updA A 53 (upd (A 53) nv a)) 54 (upd ((updA A 53 (upd (A 53) nv a)) 54) nv b)) 55) nv b)) 56) nv 0)) 57 (upd ((updA (updA (updA (updA A 53 (upd (A 53) nv a)) 54 (upd ((updA A 53 (upd (A 53) nv a)) 54) nv b)) 55 (upd ((updA (updA A 53 (upd (A 53) nv a)) 54 (upd ((updA A 53 (upd (A 53) nv a)) 54) nv b)) 55) nv b)) 56 (upd ((updA (updA (updA A 53 (upd (A 53) nv a)) 54 (upd ((updA A 53 (upd (A 53) nv a)) 54) nv b)) 55 (upd ((updA (updA A 53 (upd (A 53) nv a)) 54 (upd ((updA A 53 (upd (A 53) nv a)) 54) nv b)) 55) nv b)) 56) nv 0)) 57) nv (-1))) 58 (upd ((updA (updA (updA (updA (updA A 53 (upd (A 53) nv a)) 54 (upd ((updA A 53 (upd (A 53) nv a)) 54) nv b)) 55 (upd ((updA (updA A 53 (upd (A 53) nv a)) 54 (upd ((updA A 53 (upd (A 53) nv a)) 54) nv b)) 55) nv b)) 56 (upd ((updA (updA (updA A 53 (upd (A 53) nv a)) 54 (upd ((updA A 53 (upd (A 53) nv a)) 54) nv b)) 55 (upd ((updA (updA A 53 (upd (A 53) nv a)) 54 (upd ((updA A 53 (upd (A 53) nv a)) 54) nv b)) 55) nv b)) 56) nv 0)) 57 (upd ((updA (updA (updA (updA A 53 (upd (A 53) nv a)) 54 (upd ((updA A 53 (upd (A 53) nv a)) 54) nv b)) 55 (upd ((updA (updA A 53 (upd (A 53) nv a)) 54 (upd ((updA A 53 (upd (A 53) nv a)) 54) nv b)) 55) nv b)) 56 (upd ((updA (updA (updA A 53 (upd (A 53) nv a)) 54 (upd ((updA A 53 (upd (A 53) nv a)) 54) nv b)) 55 (upd ((updA (updA A 53 (upd (A 53) nv a)) 54 (upd ((updA A 53 (upd (A 53) nv a)) 54) nv b)) 55) nv b)) 56) nv 0)) 57) nv (-1))) 58) nv (-1))) 59) nv (-1))) B := ⟨⟨rfl, hR.1.2⟩, PE.rf, hR.2.2.1, hR.2.2.2⟩
                have hv8 := hl8
                have hp2 : MPa (nv + 1) np (updA (updA (updA (updA (updA (updA (updA A 53 (upd (A 53) nv a)) 54 (upd ((updA A 53 (upd (A 53) nv a)) 54) nv b)) 55 (upd ((updA (updA A 53 (upd (A 53) nv a)) 54 (upd ((updA A 53 (upd (A 53) nv a)) 54) nv b)) 55) nv b)) 56 (upd ((updA (updA (updA A 53 (upd (A 53) nv a)) 54 (upd ((updA A 53 (upd (A 53) nv a)) 54) nv b)) 55 (upd ((updA (updA A 53 (upd (A 53) nv a)) 54 (upd ((updA A 53 (upd (A 53) nv a)) 54) nv b)) 55) nv b)) 56) nv 0)) 57 (upd ((updA (updA (updA (updA A 53 (upd (A 53) nv a)) 54 (upd ((updA A 53 (upd (A 53) nv a)) 54) nv b)) 55 (upd ((updA (updA A 53 (upd (A 53) nv a)) 54 (upd ((updA A 53 (upd (A 53) nv a)) 54) nv b)) 55) nv b)) 56 (upd ((updA (updA (updA A 53 (upd (A 53) nv a)) 54 (upd ((updA A 53 (upd (A 53) nv a)) 54) nv b)) 55 (upd ((updA (updA A 53 (upd (A 53) nv a)) 54 (upd ((updA A 53 (upd (A 53) nv a)) 54) nv b)) 55) nv b)) 56) nv 0)) 57) nv (-1))) 58 (upd ((updA (updA (updA (updA (updA A 53 (upd (A 53) nv a)) 54 (upd ((updA A 53 (upd (A 53) nv a)) 54) nv b)) 55 (upd ((updA (updA A 53 (upd (A 53) nv a)) 54 (upd ((updA A 53 (upd (A 53) nv a)) 54) nv b)) 55) nv b)) 56 (upd ((updA (updA (updA A 53 (upd (A 53) nv a)) 54 (upd ((updA A 53 (upd (A 53) nv a)) 54) nv b)) 55 (upd ((updA (updA A 53 (upd (A 53) nv a)) 54 (upd ((updA A 53 (upd (A 53) nv a)) 54) nv b)) 55) nv b)) 56) nv 0)) 57 (upd ((updA (updA (updA (updA A 53 (upd (A 53) nv a)) 54 (upd ((updA A 53 (upd (A 53) nv a)) 54) nv b)) 55 (upd ((updA (updA A 53 (upd (A 53) nv a)) 54 (upd ((updA A 53 (upd (A 53) nv a)) 54) nv b)) 55) nv b)) 56 (upd ((updA (updA (updA A 53 (upd (A 53) nv a)) 54 (upd ((updA A 53 (upd (A 53) nv a)) 54) nv b)) 55 (upd ((updA (updA A 53 (upd (A 53) nv a)) 54 (upd ((updA A 53 (upd (A 53) nv a)) 54) nv b)) 55) nv b)) 56) nv 0)) 57) nv (-1))) 58) nv (-1))) 59 (upd ((updA (updA (updA (updA (updA (updA A 53 (upd (A 53) nv a)) 54 (upd ((updA A 53 (upd (A 53) nv a)) 54) nv b)) 55 (upd ((updA (updA A 53 (upd (A 53) nv a)) 54 (upd ((updA A 53 (upd (A 53) nv a)) 54) nv b)) 55) nv b)) 56 (upd ((updA (updA (updA A 53 (upd (A 53) nv a)) 54 (upd ((updA A 53 (upd (A 53) nv a)) 54) nv b)) 55 (upd ((updA (updA A 53 (upd (A 53) nv a)) 54 (upd ((updA A 53 (upd (A 53) nv a)) 54) nv b)) 55) nv b)) 56) nv 0)) 57 (upd ((updA (updA (updA (updA A 53 (upd (A 53) nv a)) 54 (upd ((updA A 53 (upd (A 53) nv a)) 54) nv b)) 55 (upd ((updA (updA A 53 (upd (A 53) nv a)) 54 (upd ((updA A 53 (upd (A 53) nv a)) 54) nv b)) 55) nv b)) 56 (upd ((updA (updA (updA A 53 (upd (A 53) nv a)) 54 (upd ((updA A 53 (upd (A 53) nv a)) 54) nv b)) 55 (upd ((updA (updA A 53 (upd (A 53) nv a)) 54 (upd ((updA A 53 (upd (A 53) nv a)) 54) nv b)) 55) nv b)) 56) nv 0)) 57) nv (-1))) 58 (upd ((updA (updA (updA (updA (updA A 53 (upd (A 53) nv a)) 54 (upd ((updA A 53 (upd (A 53) nv a)) 54) nv b)) 55 (upd ((updA (updA A 53 (upd (A 53) nv a)) 54 (upd ((updA A 53 (upd (A 53) nv a)) 54) nv b)) 55) nv b)) 56 (upd ((updA (updA (updA A 53 (upd (A 53) nv a)) 54 (upd ((updA A 53 (upd (A 53) nv a)) 54) nv b)) 55 (upd ((updA (updA A 53 (upd (A 53) nv a)) 54 (upd ((updA A 53 (upd (A 53) nv a)) 54) nv b)) 55) nv b)) 56) nv 0)) 57 (upd ((updA (updA (updA (updA A 53 (upd (A 53) nv a)) 54 (upd ((updA A 53 (upd (A 53) nv a)) 54) nv b)) 55 (upd ((updA (updA A 53 (upd (A 53) nv a)) 54 (upd ((updA A 53 (upd (A 53) nv a)) 54) nv b)) 55) nv b)) 56 (upd ((updA (updA (updA A 53 (upd (A 53) nv a)) 54 (upd ((updA A 53 (upd (A 53) nv a)) 54) nv b)) 55 (upd ((updA (updA A 53 (upd (A 53) nv a)) 54 (upd ((updA A 53 (upd (A 53) nv a)) 54) nv b)) 55) nv b)) 56) nv 0)) 57) nv (-1))) 58) nv (-1))) 59) nv (-1))) := hp.vs (b := b) (hi := b) hv8 hb (Or.inr rfl) rfl rfl rfl rfl rfl rfl rfl rfl rfl
                have hW2 : wInv (nv + 1) 10000 (K + 1000) (updA (updA (updA (updA (updA (updA (updA A 53 (upd (A 53) nv a)) 54 (upd ((updA A 53 (upd (A 53) nv a)) 54) nv b)) 55 (upd ((updA (updA A 53 (upd (A 53) nv a)) 54 (upd ((updA A 53 (upd (A 53) nv a)) 54) nv b)) 55) nv b)) 56 (upd ((updA (updA (updA A 53 (upd (A 53) nv a)) 54 (upd ((updA A 53 (upd (A 53) nv a)) 54) nv b)) 55 (upd ((updA (updA A 53 (upd (A 53) nv a)) 54 (upd ((updA A 53 (upd (A 53) nv a)) 54) nv b)) 55) nv b)) 56) nv 0)) 57 (upd ((updA (updA (updA (updA A 53 (upd (A 53) nv a)) 54 (upd ((updA A 53 (upd (A 53) nv a)) 54) nv b)) 55 (upd ((updA (updA A 53 (upd (A 53) nv a)) 54 (upd ((updA A 53 (upd (A 53) nv a)) 54) nv b)) 55) nv b)) 56 (upd ((updA (updA (updA A 53 (upd (A 53) nv a)) 54 (upd ((updA A 53 (upd (A 53) nv a)) 54) nv b)) 55 (upd ((updA (updA A 53 (upd (A 53) nv a)) 54 (upd ((updA A 53 (upd (A 53) nv a)) 54) nv b)) 55) nv b)) 56) nv 0)) 57) nv (-1))) 58 (upd ((updA (updA (updA (updA (updA A 53 (upd (A 53) nv a)) 54 (upd ((updA A 53 (upd (A 53) nv a)) 54) nv b)) 55 (upd ((updA (updA A 53 (upd (A 53) nv a)) 54 (upd ((updA A 53 (upd (A 53) nv a)) 54) nv b)) 55) nv b)) 56 (upd ((updA (updA (updA A 53 (upd (A 53) nv a)) 54 (upd ((updA A 53 (upd (A 53) nv a)) 54) nv b)) 55 (upd ((updA (updA A 53 (upd (A 53) nv a)) 54 (upd ((updA A 53 (upd (A 53) nv a)) 54) nv b)) 55) nv b)) 56) nv 0)) 57 (upd ((updA (updA (updA (updA A 53 (upd (A 53) nv a)) 54 (upd ((updA A 53 (upd (A 53) nv a)) 54) nv b)) 55 (upd ((updA (updA A 53 (upd (A 53) nv a)) 54 (upd ((updA A 53 (upd (A 53) nv a)) 54) nv b)) 55) nv b)) 56 (upd ((updA (updA (updA A 53 (upd (A 53) nv a)) 54 (upd ((updA A 53 (upd (A 53) nv a)) 54) nv b)) 55 (upd ((updA (updA A 53 (upd (A 53) nv a)) 54 (upd ((updA A 53 (upd (A 53) nv a)) 54) nv b)) 55) nv b)) 56) nv 0)) 57) nv (-1))) 58) nv (-1))) 59 (upd ((updA (updA (updA (updA (updA (updA A 53 (upd (A 53) nv a)) 54 (upd ((updA A 53 (upd (A 53) nv a)) 54) nv b)) 55 (upd ((updA (updA A 53 (upd (A 53) nv a)) 54 (upd ((updA A 53 (upd (A 53) nv a)) 54) nv b)) 55) nv b)) 56 (upd ((updA (updA (updA A 53 (upd (A 53) nv a)) 54 (upd ((updA A 53 (upd (A 53) nv a)) 54) nv b)) 55 (upd ((updA (updA A 53 (upd (A 53) nv a)) 54 (upd ((updA A 53 (upd (A 53) nv a)) 54) nv b)) 55) nv b)) 56) nv 0)) 57 (upd ((updA (updA (updA (updA A 53 (upd (A 53) nv a)) 54 (upd ((updA A 53 (upd (A 53) nv a)) 54) nv b)) 55 (upd ((updA (updA A 53 (upd (A 53) nv a)) 54 (upd ((updA A 53 (upd (A 53) nv a)) 54) nv b)) 55) nv b)) 56 (upd ((updA (updA (updA A 53 (upd (A 53) nv a)) 54 (upd ((updA A 53 (upd (A 53) nv a)) 54) nv b)) 55 (upd ((updA (updA A 53 (upd (A 53) nv a)) 54 (upd ((updA A 53 (upd (A 53) nv a)) 54) nv b)) 55) nv b)) 56) nv 0)) 57) nv (-1))) 58 (upd ((updA (updA (updA (updA (updA A 53 (upd (A 53) nv a)) 54 (upd ((updA A 53 (upd (A 53) nv a)) 54) nv b)) 55 (upd ((updA (updA A 53 (upd (A 53) nv a)) 54 (upd ((updA A 53 (upd (A 53) nv a)) 54) nv b)) 55) nv b)) 56 (upd ((updA (updA (updA A 53 (upd (A 53) nv a)) 54 (upd ((updA A 53 (upd (A 53) nv a)) 54) nv b)) 55 (upd ((updA (updA A 53 (upd (A 53) nv a)) 54 (upd ((updA A 53 (upd (A 53) nv a)) 54) nv b)) 55) nv b)) 56) nv 0)) 57 (upd ((updA (updA (updA (updA A 53 (upd (A 53) nv a)) 54 (upd ((updA A 53 (upd (A 53) nv a)) 54) nv b)) 55 (upd ((updA (updA A 53 (upd (A 53) nv a)) 54 (upd ((updA A 53 (upd (A 53) nv a)) 54) nv b)) 55) nv b)) 56 (upd ((updA (updA (updA A 53 (upd (A 53) nv a)) 54 (upd ((updA A 53 (upd (A 53) nv a)) 54) nv b)) 55 (upd ((updA (updA A 53 (upd (A 53) nv a)) 54 (upd ((updA A 53 (upd (A 53) nv a)) 54) nv b)) 55) nv b)) 56) nv 0)) 57) nv (-1))) 58) nv (-1))) 59) nv (-1))) W := (hW.vs (b := b) hb.1 rfl).mo (by omega) (by omega)
                refine zWp.mono (mm_hand ro (nv + 1) np (updA (updA (updA (updA (updA (updA (updA A 53 (upd (A 53) nv a)) 54 (upd ((updA A 53 (upd (A 53) nv a)) 54) nv b)) 55 (upd ((updA (updA A 53 (upd (A 53) nv a)) 54 (upd ((updA A 53 (upd (A 53) nv a)) 54) nv b)) 55) nv b)) 56 (upd ((updA (updA (updA A 53 (upd (A 53) nv a)) 54 (upd ((updA A 53 (upd (A 53) nv a)) 54) nv b)) 55 (upd ((updA (updA A 53 (upd (A 53) nv a)) 54 (upd ((updA A 53 (upd (A 53) nv a)) 54) nv b)) 55) nv b)) 56) nv 0)) 57 (upd ((updA (updA (updA (updA A 53 (upd (A 53) nv a)) 54 (upd ((updA A 53 (upd (A 53) nv a)) 54) nv b)) 55 (upd ((updA (updA A 53 (upd (A 53) nv a)) 54 (upd ((updA A 53 (upd (A 53) nv a)) 54) nv b)) 55) nv b)) 56 (upd ((updA (updA (updA A 53 (upd (A 53) nv a)) 54 (upd ((updA A 53 (upd (A 53) nv a)) 54) nv b)) 55 (upd ((updA (updA A 53 (upd (A 53) nv a)) 54 (upd ((updA A 53 (upd (A 53) nv a)) 54) nv b)) 55) nv b)) 56) nv 0)) 57) nv (-1))) 58 (upd ((updA (updA (updA (updA (updA A 53 (upd (A 53) nv a)) 54 (upd ((updA A 53 (upd (A 53) nv a)) 54) nv b)) 55 (upd ((updA (updA A 53 (upd (A 53) nv a)) 54 (upd ((updA A 53 (upd (A 53) nv a)) 54) nv b)) 55) nv b)) 56 (upd ((updA (updA (updA A 53 (upd (A 53) nv a)) 54 (upd ((updA A 53 (upd (A 53) nv a)) 54) nv b)) 55 (upd ((updA (updA A 53 (upd (A 53) nv a)) 54 (upd ((updA A 53 (upd (A 53) nv a)) 54) nv b)) 55) nv b)) 56) nv 0)) 57 (upd ((updA (updA (updA (updA A 53 (upd (A 53) nv a)) 54 (upd ((updA A 53 (upd (A 53) nv a)) 54) nv b)) 55 (upd ((updA (updA A 53 (upd (A 53) nv a)) 54 (upd ((updA A 53 (upd (A 53) nv a)) 54) nv b)) 55) nv b)) 56 (upd ((updA (updA (updA A 53 (upd (A 53) nv a)) 54 (upd ((updA A 53 (upd (A 53) nv a)) 54) nv b)) 55 (upd ((updA (updA A 53 (upd (A 53) nv a)) 54 (upd ((updA A 53 (upd (A 53) nv a)) 54) nv b)) 55) nv b)) 56) nv 0)) 57) nv (-1))) 58) nv (-1))) 59 (upd ((updA (updA (updA (updA (updA (updA A 53 (upd (A 53) nv a)) 54 (upd ((updA A 53 (upd (A 53) nv a)) 54) nv b)) 55 (upd ((updA (updA A 53 (upd (A 53) nv a)) 54 (upd ((updA A 53 (upd (A 53) nv a)) 54) nv b)) 55) nv b)) 56 (upd ((updA (updA (updA A 53 (upd (A 53) nv a)) 54 (upd ((updA A 53 (upd (A 53) nv a)) 54) nv b)) 55 (upd ((updA (updA A 53 (upd (A 53) nv a)) 54 (upd ((updA A 53 (upd (A 53) nv a)) 54) nv b)) 55) nv b)) 56) nv 0)) 57 (upd ((updA (updA (updA (updA A 53 (upd (A 53) nv a)) 54 (upd ((updA A 53 (upd (A 53) nv a)) 54) nv b)) 55 (upd ((updA (updA A 53 (upd (A 53) nv a)) 54 (upd ((updA A 53 (upd (A 53) nv a)) 54) nv b)) 55) nv b)) 56 (upd ((updA (updA (updA A 53 (upd (A 53) nv a)) 54 (upd ((updA A 53 (upd (A 53) nv a)) 54) nv b)) 55 (upd ((updA (updA A 53 (upd (A 53) nv a)) 54 (upd ((updA A 53 (upd (A 53) nv a)) 54) nv b)) 55) nv b)) 56) nv 0)) 57) nv (-1))) 58 (upd ((updA (updA (updA (updA (updA A 53 (upd (A 53) nv a)) 54 (upd ((updA A 53 (upd (A 53) nv a)) 54) nv b)) 55 (upd ((updA (updA A 53 (upd (A 53) nv a)) 54 (upd ((updA A 53 (upd (A 53) nv a)) 54) nv b)) 55) nv b)) 56 (upd ((updA (updA (updA A 53 (upd (A 53) nv a)) 54 (upd ((updA A 53 (upd (A 53) nv a)) 54) nv b)) 55 (upd ((updA (updA A 53 (upd (A 53) nv a)) 54 (upd ((updA A 53 (upd (A 53) nv a)) 54) nv b)) 55) nv b)) 56) nv 0)) 57 (upd ((updA (updA (updA (updA A 53 (upd (A 53) nv a)) 54 (upd ((updA A 53 (upd (A 53) nv a)) 54) nv b)) 55 (upd ((updA (updA A 53 (upd (A 53) nv a)) 54 (upd ((updA A 53 (upd (A 53) nv a)) 54) nv b)) 55) nv b)) 56 (upd ((updA (updA (updA A 53 (upd (A 53) nv a)) 54 (upd ((updA A 53 (upd (A 53) nv a)) 54) nv b)) 55 (upd ((updA (updA A 53 (upd (A 53) nv a)) 54 (upd ((updA A 53 (upd (A 53) nv a)) 54) nv b)) 55) nv b)) 56) nv 0)) 57) nv (-1))) 58) nv (-1))) 59) nv (-1))) W L _ _ _ _ (K + 1000) (nI nv) Rz hp2 hW2 (by omega) (by omega)) ?_
                rintro r h1 ⟨I2, G2, A2, B2, rfl, K2, R2, rfl⟩
                refine ⟨_, rfl, ?_⟩
                refine zw_ireturn f141_123 r141 u141 ?_
                exact ⟨_, _, _, _, rfl, (KQ.tr (KQ.a rfl (KQ.a rfl (KQ.a rfl (KQ.a rfl (KQ.a rfl (KQ.a rfl (KQ.a rfl (KQ.i rfl KQ.rf)))))))) K2), Or.inr ⟨hok, by rw [show (if a = 0 ∨ a = 2 then (0 : Int32) else b) = b from (if_neg (fun q => q.elim hc6 hc7))]; exact ⟨hp2, hW2, R2, rfl⟩⟩⟩
              · refine zw_iconst 0 85 f141_84 rfl (by decide +kernel) ?_
                refine zw_goto 89 f141_85 (by decide +kernel) ?_
                refine zw_ast nv _ 90 f141_89 rfl (hb_55 _ _ _ _) (nI_clamp (by omega)) (nI_pos (by omega)) (by omega) (ha_55 _ _ _ _ _) ?_
                refine zw_aload_n 91 f141_90 rfl (zl1_ne rfl rfl rfl) ?_
                refine zw_getfield 94 f141_91 rfl g141_19_12 (hb_52 _ _ _ _) rfl ?_
                refine zw_iload_n 95 f141_94 rfl zl1_eq ?_
                refine zw_iconst 0 96 f141_95 rfl (by decide +kernel) ?_
                refine zw_ast nv _ 97 f141_96 rfl (hb_56 _ _ _ _) (nI_clamp (by omega)) (nI_pos (by omega)) (by omega) (ha_56 _ _ _ _ _) ?_
                refine zw_aload_n 98 f141_97 rfl (zl1_ne rfl rfl rfl) ?_
                refine zw_getfield 101 f141_98 rfl g141_22_12 (hb_52 _ _ _ _) rfl ?_
                refine zw_iload_n 102 f141_101 rfl zl1_eq ?_
                refine zw_iconst (-1) 103 f141_102 rfl (by decide +kernel) ?_
                refine zw_ast nv _ 104 f141_103 rfl (hb_57 _ _ _ _) (nI_clamp (by omega)) (nI_pos (by omega)) (by omega) (ha_57 _ _ _ _ _) ?_
                refine zw_aload_n 105 f141_104 rfl (zl1_ne rfl rfl rfl) ?_
                refine zw_getfield 108 f141_105 rfl g141_25_12 (hb_52 _ _ _ _) rfl ?_
                refine zw_iload_n 109 f141_108 rfl zl1_eq ?_
                refine zw_iconst (-1) 110 f141_109 rfl (by decide +kernel) ?_
                refine zw_ast nv _ 111 f141_110 rfl (hb_58 _ _ _ _) (nI_clamp (by omega)) (nI_pos (by omega)) (by omega) (ha_58 _ _ _ _ _) ?_
                refine zw_aload_n 112 f141_111 rfl (zl1_ne rfl rfl rfl) ?_
                refine zw_getfield 115 f141_112 rfl g141_28_12 (hb_52 _ _ _ _) rfl ?_
                refine zw_iload_n 116 f141_115 rfl zl1_eq ?_
                refine zw_iconst (-1) 117 f141_116 rfl (by decide +kernel) ?_
                refine zw_ast nv _ 118 f141_117 rfl (hb_59 _ _ _ _) (nI_clamp (by omega)) (nI_pos (by omega)) (by omega) (ha_59 _ _ _ _ _) ?_
                refine zw_aload_n 119 f141_118 rfl (zl1_ne rfl rfl rfl) ?_
                refine zw_iload_n 120 f141_119 rfl zl1_eq ?_
                refine zw_virtual_i 123 0 0 [.ref 52, .int (nI nv)] [(0, .ref 52), (1, .int (nI nv))] f141_120 rfl n141_212 k141_212_12 rfl (hb_52 _ _ _ _) (by decide +kernel) (Nat.le_of_ble_eq_true rfl) rfl rfl (by decide +kernel) (by decide +kernel) rfl (Nat.le_of_ble_eq_true rfl) rfl ?_
                have hb := qRg.i (l := 1) (h := 200) (by decide) (by decide) (show qRg b 1 200 from ⟨hc3, hc4⟩)
                have hok : ok_vessel nv np A a b := ⟨⟨hc1, hc2⟩, ⟨hc3, hc4⟩, (fun q => hc5 (by rw [q]; decide))⟩
                have Rz : mRS (nv + 1) np (updA (updA (updA (updA (updA (updA (updA A 53 (upd (A 53) nv a)) 54 (upd ((updA A 53 (upd (A 53) nv a)) 54) nv b)) 55 (upd ((updA (updA A 53 (upd (A 53) nv a)) 54 (upd ((updA A 53 (upd (A 53) nv a)) 54) nv b)) 55) nv 0)) 56 (upd ((updA (updA (updA A 53 (upd (A 53) nv a)) 54 (upd ((updA A 53 (upd (A 53) nv a)) 54) nv b)) 55 (upd ((updA (updA A 53 (upd (A 53) nv a)) 54 (upd ((updA A 53 (upd (A 53) nv a)) 54) nv b)) 55) nv 0)) 56) nv 0)) 57 (upd ((updA (updA (updA (updA A 53 (upd (A 53) nv a)) 54 (upd ((updA A 53 (upd (A 53) nv a)) 54) nv b)) 55 (upd ((updA (updA A 53 (upd (A 53) nv a)) 54 (upd ((updA A 53 (upd (A 53) nv a)) 54) nv b)) 55) nv 0)) 56 (upd ((updA (updA (updA A 53 (upd (A 53) nv a)) 54 (upd ((updA A 53 (upd (A 53) nv a)) 54) nv b)) 55 (upd ((updA (updA A 53 (upd (A 53) nv a)) 54 (upd ((updA A 53 (upd (A 53) nv a)) 54) nv b)) 55) nv 0)) 56) nv 0)) 57) nv (-1))) 58 (upd ((updA (updA (updA (updA (updA A 53 (upd (A 53) nv a)) 54 (upd ((updA A 53 (upd (A 53) nv a)) 54) nv b)) 55 (upd ((updA (updA A 53 (upd (A 53) nv a)) 54 (upd ((updA A 53 (upd (A 53) nv a)) 54) nv b)) 55) nv 0)) 56 (upd ((updA (updA (updA A 53 (upd (A 53) nv a)) 54 (upd ((updA A 53 (upd (A 53) nv a)) 54) nv b)) 55 (upd ((updA (updA A 53 (upd (A 53) nv a)) 54 (upd ((updA A 53 (upd (A 53) nv a)) 54) nv b)) 55) nv 0)) 56) nv 0)) 57 (upd ((updA (updA (updA (updA A 53 (upd (A 53) nv a)) 54 (upd ((updA A 53 (upd (A 53) nv a)) 54) nv b)) 55 (upd ((updA (updA A 53 (upd (A 53) nv a)) 54 (upd ((updA A 53 (upd (A 53) nv a)) 54) nv b)) 55) nv 0)) 56 (upd ((updA (updA (updA A 53 (upd (A 53) nv a)) 54 (upd ((updA A 53 (upd (A 53) nv a)) 54) nv b)) 55 (upd ((updA (updA A 53 (upd (A 53) nv a)) 54 (upd ((updA A 53 (upd (A 53) nv a)) 54) nv b)) 55) nv 0)) 56) nv 0)) 57) nv (-1))) 58) nv (-1))) 59 (upd ((updA (updA (updA (updA (updA (updA A 53 (upd (A 53) nv a)) 54 (upd ((updA A 53 (upd (A 53) nv a)) 54) nv b)) 55 (upd ((updA (updA A 53 (upd (A 53) nv a)) 54 (upd ((updA A 53 (upd (A 53) nv a)) 54) nv b)) 55) nv 0)) 56 (upd ((updA (updA (updA A 53 (upd (A 53) nv a)) 54 (upd ((updA A 53 (upd (A 53) nv a)) 54) nv b)) 55 (upd ((updA (updA A 53 (upd (A 53) nv a)) 54 (upd ((updA A 53 (upd (A 53) nv a)) 54) nv b)) 55) nv 0)) 56) nv 0)) 57 (upd ((updA (updA (updA (updA A 53 (upd (A 53) nv a)) 54 (upd ((updA A 53 (upd (A 53) nv a)) 54) nv b)) 55 (upd ((updA (updA A 53 (upd (A 53) nv a)) 54 (upd ((updA A 53 (upd (A 53) nv a)) 54) nv b)) 55) nv 0)) 56 (upd ((updA (updA (updA A 53 (upd (A 53) nv a)) 54 (upd ((updA A 53 (upd (A 53) nv a)) 54) nv b)) 55 (upd ((updA (updA A 53 (upd (A 53) nv a)) 54 (upd ((updA A 53 (upd (A 53) nv a)) 54) nv b)) 55) nv 0)) 56) nv 0)) 57) nv (-1))) 58 (upd ((updA (updA (updA (updA (updA A 53 (upd (A 53) nv a)) 54 (upd ((updA A 53 (upd (A 53) nv a)) 54) nv b)) 55 (upd ((updA (updA A 53 (upd (A 53) nv a)) 54 (upd ((updA A 53 (upd (A 53) nv a)) 54) nv b)) 55) nv 0)) 56 (upd ((updA (updA (updA A 53 (upd (A 53) nv a)) 54 (upd ((updA A 53 (upd (A 53) nv a)) 54) nv b)) 55 (upd ((updA (updA A 53 (upd (A 53) nv a)) 54 (upd ((updA A 53 (upd (A 53) nv a)) 54) nv b)) 55) nv 0)) 56) nv 0)) 57 (upd ((updA (updA (updA (updA A 53 (upd (A 53) nv a)) 54 (upd ((updA A 53 (upd (A 53) nv a)) 54) nv b)) 55 (upd ((updA (updA A 53 (upd (A 53) nv a)) 54 (upd ((updA A 53 (upd (A 53) nv a)) 54) nv b)) 55) nv 0)) 56 (upd ((updA (updA (updA A 53 (upd (A 53) nv a)) 54 (upd ((updA A 53 (upd (A 53) nv a)) 54) nv b)) 55 (upd ((updA (updA A 53 (upd (A 53) nv a)) 54 (upd ((updA A 53 (upd (A 53) nv a)) 54) nv b)) 55) nv 0)) 56) nv 0)) 57) nv (-1))) 58) nv (-1))) 59) nv (-1))) W L (upd2 I 52 0 (nI (nv + 1))) G (updA (updA (updA (updA (updA (updA (updA A 53 (upd (A 53) nv a)) 54 (upd ((updA A 53 (upd (A 53) nv a)) 54) nv b)) 55 (upd ((updA (updA A 53 (upd (A 53) nv a)) 54 (upd ((updA A 53 (upd (A 53) nv a)) 54) nv b)) 55) nv 0)) 56 (upd ((updA (updA (updA A 53 (upd (A 53) nv a)) 54 (upd ((updA A 53 (upd (A 53) nv a)) 54) nv b)) 55 (upd ((updA (updA A 53 (upd (A 53) nv a)) 54 (upd ((updA A 53 (upd (A 53) nv a)) 54) nv b)) 55) nv 0)) 56) nv 0)) 57 (upd ((updA (updA (updA (updA A 53 (upd (A 53) nv a)) 54 (upd ((updA A 53 (upd (A 53) nv a)) 54) nv b)) 55 (upd ((updA (updA A 53 (upd (A 53) nv a)) 54 (upd ((updA A 53 (upd (A 53) nv a)) 54) nv b)) 55) nv 0)) 56 (upd ((updA (updA (updA A 53 (upd (A 53) nv a)) 54 (upd ((updA A 53 (upd (A 53) nv a)) 54) nv b)) 55 (upd ((updA (updA A 53 (upd (A 53) nv a)) 54 (upd ((updA A 53 (upd (A 53) nv a)) 54) nv b)) 55) nv 0)) 56) nv 0)) 57) nv (-1))) 58 (upd ((updA (updA (updA (updA (updA A 53 (upd (A 53) nv a)) 54 (upd ((updA A 53 (upd (A 53) nv a)) 54) nv b)) 55 (upd ((updA (updA A 53 (upd (A 53) nv a)) 54 (upd ((updA A 53 (upd (A 53) nv a)) 54) nv b)) 55) nv 0)) 56 (upd ((updA (updA (updA A 53 (upd (A 53) nv a)) 54 (upd ((updA A 53 (upd (A 53) nv a)) 54) nv b)) 55 (upd ((updA (updA A 53 (upd (A 53) nv a)) 54 (upd ((updA A 53 (upd (A 53) nv a)) 54) nv b)) 55) nv 0)) 56) nv 0)) 57 (upd ((updA (updA (updA (updA A 53 (upd (A 53) nv a)) 54 (upd ((updA A 53 (upd (A 53) nv a)) 54) nv b)) 55 (upd ((updA (updA A 53 (upd (A 53) nv a)) 54 (upd ((updA A 53 (upd (A 53) nv a)) 54) nv b)) 55) nv 0)) 56 (upd ((updA (updA (updA A 53 (upd (A 53) nv a)) 54 (upd ((updA A 53 (upd (A 53) nv a)) 54) nv b)) 55 (upd ((updA (updA A 53 (upd (A 53) nv a)) 54 (upd ((updA A 53 (upd (A 53) nv a)) 54) nv b)) 55) nv 0)) 56) nv 0)) 57) nv (-1))) 58) nv (-1))) 59 (upd ((updA (updA (updA (updA (updA (updA A 53 (upd (A 53) nv a)) 54 (upd ((updA A 53 (upd (A 53) nv a)) 54) nv b)) 55 (upd ((updA (updA A 53 (upd (A 53) nv a)) 54 (upd ((updA A 53 (upd (A 53) nv a)) 54) nv b)) 55) nv 0)) 56 (upd ((updA (updA (updA A 53 (upd (A 53) nv a)) 54 (upd ((updA A 53 (upd (A 53) nv a)) 54) nv b)) 55 (upd ((updA (updA A 53 (upd (A 53) nv a)) 54 (upd ((updA A 53 (upd (A 53) nv a)) 54) nv b)) 55) nv 0)) 56) nv 0)) 57 (upd ((updA (updA (updA (updA A 53 (upd (A 53) nv a)) 54 (upd ((updA A 53 (upd (A 53) nv a)) 54) nv b)) 55 (upd ((updA (updA A 53 (upd (A 53) nv a)) 54 (upd ((updA A 53 (upd (A 53) nv a)) 54) nv b)) 55) nv 0)) 56 (upd ((updA (updA (updA A 53 (upd (A 53) nv a)) 54 (upd ((updA A 53 (upd (A 53) nv a)) 54) nv b)) 55 (upd ((updA (updA A 53 (upd (A 53) nv a)) 54 (upd ((updA A 53 (upd (A 53) nv a)) 54) nv b)) 55) nv 0)) 56) nv 0)) 57) nv (-1))) 58 (upd ((updA (updA (updA (updA (updA A 53 (upd (A 53) nv a)) 54 (upd ((updA A 53 (upd (A 53) nv a)) 54) nv b)) 55 (upd ((updA (updA A 53 (upd (A 53) nv a)) 54 (upd ((updA A 53 (upd (A 53) nv a)) 54) nv b)) 55) nv 0)) 56 (upd ((updA (updA (updA A 53 (upd (A 53) nv a)) 54 (upd ((updA A 53 (upd (A 53) nv a)) 54) nv b)) 55 (upd ((updA (updA A 53 (upd (A 53) nv a)) 54 (upd ((updA A 53 (upd (A 53) nv a)) 54) nv b)) 55) nv 0)) 56) nv 0)) 57 (upd ((updA (updA (updA (updA A 53 (upd (A 53) nv a)) 54 (upd ((updA A 53 (upd (A 53) nv a)) 54) nv b)) 55 (upd ((updA (updA A 53 (upd (A 53) nv a)) 54 (upd ((updA A 53 (upd (A 53) nv a)) 54) nv b)) 55) nv 0)) 56 (upd ((updA (updA (updA A 53 (upd (A 53) nv a)) 54 (upd ((updA A 53 (upd (A 53) nv a)) 54) nv b)) 55 (upd ((updA (updA A 53 (upd (A 53) nv a)) 54 (upd ((updA A 53 (upd (A 53) nv a)) 54) nv b)) 55) nv 0)) 56) nv 0)) 57) nv (-1))) 58) nv (-1))) 59) nv (-1))) B := ⟨⟨rfl, hR.1.2⟩, PE.rf, hR.2.2.1, hR.2.2.2⟩
                have hv8 := hl8
                have hp2 : MPa (nv + 1) np (updA (updA (updA (updA (updA (updA (updA A 53 (upd (A 53) nv a)) 54 (upd ((updA A 53 (upd (A 53) nv a)) 54) nv b)) 55 (upd ((updA (updA A 53 (upd (A 53) nv a)) 54 (upd ((updA A 53 (upd (A 53) nv a)) 54) nv b)) 55) nv 0)) 56 (upd ((updA (updA (updA A 53 (upd (A 53) nv a)) 54 (upd ((updA A 53 (upd (A 53) nv a)) 54) nv b)) 55 (upd ((updA (updA A 53 (upd (A 53) nv a)) 54 (upd ((updA A 53 (upd (A 53) nv a)) 54) nv b)) 55) nv 0)) 56) nv 0)) 57 (upd ((updA (updA (updA (updA A 53 (upd (A 53) nv a)) 54 (upd ((updA A 53 (upd (A 53) nv a)) 54) nv b)) 55 (upd ((updA (updA A 53 (upd (A 53) nv a)) 54 (upd ((updA A 53 (upd (A 53) nv a)) 54) nv b)) 55) nv 0)) 56 (upd ((updA (updA (updA A 53 (upd (A 53) nv a)) 54 (upd ((updA A 53 (upd (A 53) nv a)) 54) nv b)) 55 (upd ((updA (updA A 53 (upd (A 53) nv a)) 54 (upd ((updA A 53 (upd (A 53) nv a)) 54) nv b)) 55) nv 0)) 56) nv 0)) 57) nv (-1))) 58 (upd ((updA (updA (updA (updA (updA A 53 (upd (A 53) nv a)) 54 (upd ((updA A 53 (upd (A 53) nv a)) 54) nv b)) 55 (upd ((updA (updA A 53 (upd (A 53) nv a)) 54 (upd ((updA A 53 (upd (A 53) nv a)) 54) nv b)) 55) nv 0)) 56 (upd ((updA (updA (updA A 53 (upd (A 53) nv a)) 54 (upd ((updA A 53 (upd (A 53) nv a)) 54) nv b)) 55 (upd ((updA (updA A 53 (upd (A 53) nv a)) 54 (upd ((updA A 53 (upd (A 53) nv a)) 54) nv b)) 55) nv 0)) 56) nv 0)) 57 (upd ((updA (updA (updA (updA A 53 (upd (A 53) nv a)) 54 (upd ((updA A 53 (upd (A 53) nv a)) 54) nv b)) 55 (upd ((updA (updA A 53 (upd (A 53) nv a)) 54 (upd ((updA A 53 (upd (A 53) nv a)) 54) nv b)) 55) nv 0)) 56 (upd ((updA (updA (updA A 53 (upd (A 53) nv a)) 54 (upd ((updA A 53 (upd (A 53) nv a)) 54) nv b)) 55 (upd ((updA (updA A 53 (upd (A 53) nv a)) 54 (upd ((updA A 53 (upd (A 53) nv a)) 54) nv b)) 55) nv 0)) 56) nv 0)) 57) nv (-1))) 58) nv (-1))) 59 (upd ((updA (updA (updA (updA (updA (updA A 53 (upd (A 53) nv a)) 54 (upd ((updA A 53 (upd (A 53) nv a)) 54) nv b)) 55 (upd ((updA (updA A 53 (upd (A 53) nv a)) 54 (upd ((updA A 53 (upd (A 53) nv a)) 54) nv b)) 55) nv 0)) 56 (upd ((updA (updA (updA A 53 (upd (A 53) nv a)) 54 (upd ((updA A 53 (upd (A 53) nv a)) 54) nv b)) 55 (upd ((updA (updA A 53 (upd (A 53) nv a)) 54 (upd ((updA A 53 (upd (A 53) nv a)) 54) nv b)) 55) nv 0)) 56) nv 0)) 57 (upd ((updA (updA (updA (updA A 53 (upd (A 53) nv a)) 54 (upd ((updA A 53 (upd (A 53) nv a)) 54) nv b)) 55 (upd ((updA (updA A 53 (upd (A 53) nv a)) 54 (upd ((updA A 53 (upd (A 53) nv a)) 54) nv b)) 55) nv 0)) 56 (upd ((updA (updA (updA A 53 (upd (A 53) nv a)) 54 (upd ((updA A 53 (upd (A 53) nv a)) 54) nv b)) 55 (upd ((updA (updA A 53 (upd (A 53) nv a)) 54 (upd ((updA A 53 (upd (A 53) nv a)) 54) nv b)) 55) nv 0)) 56) nv 0)) 57) nv (-1))) 58 (upd ((updA (updA (updA (updA (updA A 53 (upd (A 53) nv a)) 54 (upd ((updA A 53 (upd (A 53) nv a)) 54) nv b)) 55 (upd ((updA (updA A 53 (upd (A 53) nv a)) 54 (upd ((updA A 53 (upd (A 53) nv a)) 54) nv b)) 55) nv 0)) 56 (upd ((updA (updA (updA A 53 (upd (A 53) nv a)) 54 (upd ((updA A 53 (upd (A 53) nv a)) 54) nv b)) 55 (upd ((updA (updA A 53 (upd (A 53) nv a)) 54 (upd ((updA A 53 (upd (A 53) nv a)) 54) nv b)) 55) nv 0)) 56) nv 0)) 57 (upd ((updA (updA (updA (updA A 53 (upd (A 53) nv a)) 54 (upd ((updA A 53 (upd (A 53) nv a)) 54) nv b)) 55 (upd ((updA (updA A 53 (upd (A 53) nv a)) 54 (upd ((updA A 53 (upd (A 53) nv a)) 54) nv b)) 55) nv 0)) 56 (upd ((updA (updA (updA A 53 (upd (A 53) nv a)) 54 (upd ((updA A 53 (upd (A 53) nv a)) 54) nv b)) 55 (upd ((updA (updA A 53 (upd (A 53) nv a)) 54 (upd ((updA A 53 (upd (A 53) nv a)) 54) nv b)) 55) nv 0)) 56) nv 0)) 57) nv (-1))) 58) nv (-1))) 59) nv (-1))) := hp.vs (b := b) (hi := 0) hv8 hb (Or.inl rfl) rfl rfl rfl rfl rfl rfl rfl rfl rfl
                have hW2 : wInv (nv + 1) 10000 (K + 1000) (updA (updA (updA (updA (updA (updA (updA A 53 (upd (A 53) nv a)) 54 (upd ((updA A 53 (upd (A 53) nv a)) 54) nv b)) 55 (upd ((updA (updA A 53 (upd (A 53) nv a)) 54 (upd ((updA A 53 (upd (A 53) nv a)) 54) nv b)) 55) nv 0)) 56 (upd ((updA (updA (updA A 53 (upd (A 53) nv a)) 54 (upd ((updA A 53 (upd (A 53) nv a)) 54) nv b)) 55 (upd ((updA (updA A 53 (upd (A 53) nv a)) 54 (upd ((updA A 53 (upd (A 53) nv a)) 54) nv b)) 55) nv 0)) 56) nv 0)) 57 (upd ((updA (updA (updA (updA A 53 (upd (A 53) nv a)) 54 (upd ((updA A 53 (upd (A 53) nv a)) 54) nv b)) 55 (upd ((updA (updA A 53 (upd (A 53) nv a)) 54 (upd ((updA A 53 (upd (A 53) nv a)) 54) nv b)) 55) nv 0)) 56 (upd ((updA (updA (updA A 53 (upd (A 53) nv a)) 54 (upd ((updA A 53 (upd (A 53) nv a)) 54) nv b)) 55 (upd ((updA (updA A 53 (upd (A 53) nv a)) 54 (upd ((updA A 53 (upd (A 53) nv a)) 54) nv b)) 55) nv 0)) 56) nv 0)) 57) nv (-1))) 58 (upd ((updA (updA (updA (updA (updA A 53 (upd (A 53) nv a)) 54 (upd ((updA A 53 (upd (A 53) nv a)) 54) nv b)) 55 (upd ((updA (updA A 53 (upd (A 53) nv a)) 54 (upd ((updA A 53 (upd (A 53) nv a)) 54) nv b)) 55) nv 0)) 56 (upd ((updA (updA (updA A 53 (upd (A 53) nv a)) 54 (upd ((updA A 53 (upd (A 53) nv a)) 54) nv b)) 55 (upd ((updA (updA A 53 (upd (A 53) nv a)) 54 (upd ((updA A 53 (upd (A 53) nv a)) 54) nv b)) 55) nv 0)) 56) nv 0)) 57 (upd ((updA (updA (updA (updA A 53 (upd (A 53) nv a)) 54 (upd ((updA A 53 (upd (A 53) nv a)) 54) nv b)) 55 (upd ((updA (updA A 53 (upd (A 53) nv a)) 54 (upd ((updA A 53 (upd (A 53) nv a)) 54) nv b)) 55) nv 0)) 56 (upd ((updA (updA (updA A 53 (upd (A 53) nv a)) 54 (upd ((updA A 53 (upd (A 53) nv a)) 54) nv b)) 55 (upd ((updA (updA A 53 (upd (A 53) nv a)) 54 (upd ((updA A 53 (upd (A 53) nv a)) 54) nv b)) 55) nv 0)) 56) nv 0)) 57) nv (-1))) 58) nv (-1))) 59 (upd ((updA (updA (updA (updA (updA (updA A 53 (upd (A 53) nv a)) 54 (upd ((updA A 53 (upd (A 53) nv a)) 54) nv b)) 55 (upd ((updA (updA A 53 (upd (A 53) nv a)) 54 (upd ((updA A 53 (upd (A 53) nv a)) 54) nv b)) 55) nv 0)) 56 (upd ((updA (updA (updA A 53 (upd (A 53) nv a)) 54 (upd ((updA A 53 (upd (A 53) nv a)) 54) nv b)) 55 (upd ((updA (updA A 53 (upd (A 53) nv a)) 54 (upd ((updA A 53 (upd (A 53) nv a)) 54) nv b)) 55) nv 0)) 56) nv 0)) 57 (upd ((updA (updA (updA (updA A 53 (upd (A 53) nv a)) 54 (upd ((updA A 53 (upd (A 53) nv a)) 54) nv b)) 55 (upd ((updA (updA A 53 (upd (A 53) nv a)) 54 (upd ((updA A 53 (upd (A 53) nv a)) 54) nv b)) 55) nv 0)) 56 (upd ((updA (updA (updA A 53 (upd (A 53) nv a)) 54 (upd ((updA A 53 (upd (A 53) nv a)) 54) nv b)) 55 (upd ((updA (updA A 53 (upd (A 53) nv a)) 54 (upd ((updA A 53 (upd (A 53) nv a)) 54) nv b)) 55) nv 0)) 56) nv 0)) 57) nv (-1))) 58 (upd ((updA (updA (updA (updA (updA A 53 (upd (A 53) nv a)) 54 (upd ((updA A 53 (upd (A 53) nv a)) 54) nv b)) 55 (upd ((updA (updA A 53 (upd (A 53) nv a)) 54 (upd ((updA A 53 (upd (A 53) nv a)) 54) nv b)) 55) nv 0)) 56 (upd ((updA (updA (updA A 53 (upd (A 53) nv a)) 54 (upd ((updA A 53 (upd (A 53) nv a)) 54) nv b)) 55 (upd ((updA (updA A 53 (upd (A 53) nv a)) 54 (upd ((updA A 53 (upd (A 53) nv a)) 54) nv b)) 55) nv 0)) 56) nv 0)) 57 (upd ((updA (updA (updA (updA A 53 (upd (A 53) nv a)) 54 (upd ((updA A 53 (upd (A 53) nv a)) 54) nv b)) 55 (upd ((updA (updA A 53 (upd (A 53) nv a)) 54 (upd ((updA A 53 (upd (A 53) nv a)) 54) nv b)) 55) nv 0)) 56 (upd ((updA (updA (updA A 53 (upd (A 53) nv a)) 54 (upd ((updA A 53 (upd (A 53) nv a)) 54) nv b)) 55 (upd ((updA (updA A 53 (upd (A 53) nv a)) 54 (upd ((updA A 53 (upd (A 53) nv a)) 54) nv b)) 55) nv 0)) 56) nv 0)) 57) nv (-1))) 58) nv (-1))) 59) nv (-1))) W := (hW.vs (b := b) hb.1 rfl).mo (by omega) (by omega)
                refine zWp.mono (mm_hand ro (nv + 1) np (updA (updA (updA (updA (updA (updA (updA A 53 (upd (A 53) nv a)) 54 (upd ((updA A 53 (upd (A 53) nv a)) 54) nv b)) 55 (upd ((updA (updA A 53 (upd (A 53) nv a)) 54 (upd ((updA A 53 (upd (A 53) nv a)) 54) nv b)) 55) nv 0)) 56 (upd ((updA (updA (updA A 53 (upd (A 53) nv a)) 54 (upd ((updA A 53 (upd (A 53) nv a)) 54) nv b)) 55 (upd ((updA (updA A 53 (upd (A 53) nv a)) 54 (upd ((updA A 53 (upd (A 53) nv a)) 54) nv b)) 55) nv 0)) 56) nv 0)) 57 (upd ((updA (updA (updA (updA A 53 (upd (A 53) nv a)) 54 (upd ((updA A 53 (upd (A 53) nv a)) 54) nv b)) 55 (upd ((updA (updA A 53 (upd (A 53) nv a)) 54 (upd ((updA A 53 (upd (A 53) nv a)) 54) nv b)) 55) nv 0)) 56 (upd ((updA (updA (updA A 53 (upd (A 53) nv a)) 54 (upd ((updA A 53 (upd (A 53) nv a)) 54) nv b)) 55 (upd ((updA (updA A 53 (upd (A 53) nv a)) 54 (upd ((updA A 53 (upd (A 53) nv a)) 54) nv b)) 55) nv 0)) 56) nv 0)) 57) nv (-1))) 58 (upd ((updA (updA (updA (updA (updA A 53 (upd (A 53) nv a)) 54 (upd ((updA A 53 (upd (A 53) nv a)) 54) nv b)) 55 (upd ((updA (updA A 53 (upd (A 53) nv a)) 54 (upd ((updA A 53 (upd (A 53) nv a)) 54) nv b)) 55) nv 0)) 56 (upd ((updA (updA (updA A 53 (upd (A 53) nv a)) 54 (upd ((updA A 53 (upd (A 53) nv a)) 54) nv b)) 55 (upd ((updA (updA A 53 (upd (A 53) nv a)) 54 (upd ((updA A 53 (upd (A 53) nv a)) 54) nv b)) 55) nv 0)) 56) nv 0)) 57 (upd ((updA (updA (updA (updA A 53 (upd (A 53) nv a)) 54 (upd ((updA A 53 (upd (A 53) nv a)) 54) nv b)) 55 (upd ((updA (updA A 53 (upd (A 53) nv a)) 54 (upd ((updA A 53 (upd (A 53) nv a)) 54) nv b)) 55) nv 0)) 56 (upd ((updA (updA (updA A 53 (upd (A 53) nv a)) 54 (upd ((updA A 53 (upd (A 53) nv a)) 54) nv b)) 55 (upd ((updA (updA A 53 (upd (A 53) nv a)) 54 (upd ((updA A 53 (upd (A 53) nv a)) 54) nv b)) 55) nv 0)) 56) nv 0)) 57) nv (-1))) 58) nv (-1))) 59 (upd ((updA (updA (updA (updA (updA (updA A 53 (upd (A 53) nv a)) 54 (upd ((updA A 53 (upd (A 53) nv a)) 54) nv b)) 55 (upd ((updA (updA A 53 (upd (A 53) nv a)) 54 (upd ((updA A 53 (upd (A 53) nv a)) 54) nv b)) 55) nv 0)) 56 (upd ((updA (updA (updA A 53 (upd (A 53) nv a)) 54 (upd ((updA A 53 (upd (A 53) nv a)) 54) nv b)) 55 (upd ((updA (updA A 53 (upd (A 53) nv a)) 54 (upd ((updA A 53 (upd (A 53) nv a)) 54) nv b)) 55) nv 0)) 56) nv 0)) 57 (upd ((updA (updA (updA (updA A 53 (upd (A 53) nv a)) 54 (upd ((updA A 53 (upd (A 53) nv a)) 54) nv b)) 55 (upd ((updA (updA A 53 (upd (A 53) nv a)) 54 (upd ((updA A 53 (upd (A 53) nv a)) 54) nv b)) 55) nv 0)) 56 (upd ((updA (updA (updA A 53 (upd (A 53) nv a)) 54 (upd ((updA A 53 (upd (A 53) nv a)) 54) nv b)) 55 (upd ((updA (updA A 53 (upd (A 53) nv a)) 54 (upd ((updA A 53 (upd (A 53) nv a)) 54) nv b)) 55) nv 0)) 56) nv 0)) 57) nv (-1))) 58 (upd ((updA (updA (updA (updA (updA A 53 (upd (A 53) nv a)) 54 (upd ((updA A 53 (upd (A 53) nv a)) 54) nv b)) 55 (upd ((updA (updA A 53 (upd (A 53) nv a)) 54 (upd ((updA A 53 (upd (A 53) nv a)) 54) nv b)) 55) nv 0)) 56 (upd ((updA (updA (updA A 53 (upd (A 53) nv a)) 54 (upd ((updA A 53 (upd (A 53) nv a)) 54) nv b)) 55 (upd ((updA (updA A 53 (upd (A 53) nv a)) 54 (upd ((updA A 53 (upd (A 53) nv a)) 54) nv b)) 55) nv 0)) 56) nv 0)) 57 (upd ((updA (updA (updA (updA A 53 (upd (A 53) nv a)) 54 (upd ((updA A 53 (upd (A 53) nv a)) 54) nv b)) 55 (upd ((updA (updA A 53 (upd (A 53) nv a)) 54 (upd ((updA A 53 (upd (A 53) nv a)) 54) nv b)) 55) nv 0)) 56 (upd ((updA (updA (updA A 53 (upd (A 53) nv a)) 54 (upd ((updA A 53 (upd (A 53) nv a)) 54) nv b)) 55 (upd ((updA (updA A 53 (upd (A 53) nv a)) 54 (upd ((updA A 53 (upd (A 53) nv a)) 54) nv b)) 55) nv 0)) 56) nv 0)) 57) nv (-1))) 58) nv (-1))) 59) nv (-1))) W L _ _ _ _ (K + 1000) (nI nv) Rz hp2 hW2 (by omega) (by omega)) ?_
                rintro r h1 ⟨I2, G2, A2, B2, rfl, K2, R2, rfl⟩
                refine ⟨_, rfl, ?_⟩
                refine zw_ireturn f141_123 r141 u141 ?_
                exact ⟨_, _, _, _, rfl, (KQ.tr (KQ.a rfl (KQ.a rfl (KQ.a rfl (KQ.a rfl (KQ.a rfl (KQ.a rfl (KQ.a rfl (KQ.i rfl KQ.rf)))))))) K2), Or.inr ⟨hok, by rw [show (if a = 0 ∨ a = 2 then (0 : Int32) else b) = 0 from (if_pos (Or.inr (Decidable.of_not_not hc7)))]; exact ⟨hp2, hW2, R2, rfl⟩⟩⟩
          · refine zw_aload_n 36 f141_35 rfl rfl ?_
            refine zw_iconst 2 37 f141_36 rfl (by decide +kernel) ?_
            refine zw_virtual_i 40 0 0 [.ref 52, .int 2] [(0, .ref 52), (1, .int 2)] f141_37 rfl n141_209 k141_209_12 rfl (hb_52 _ _ _ _) (by decide +kernel) (Nat.le_of_ble_eq_true rfl) rfl rfl (by decide +kernel) (by decide +kernel) rfl (Nat.le_of_ble_eq_true rfl) rfl ?_
            refine zw_aload_n 1 f121_0 rfl rfl ?_
            refine zw_iload_n 2 f121_1 rfl rfl ?_
            refine zw_put _ 5 f121_2 rfl g121_111_12 (hb_52 _ _ _ _) rfl (Nat.le_of_ble_eq_true rfl) (by decide +kernel) (hi_52_27 _ _ _ _ _) ?_
            refine zw_iconst (-1) 6 f121_5 rfl (by decide +kernel) ?_
            refine zw_ireturn f121_6 r121 u121 ⟨_, rfl, ?_⟩
            refine zw_ireturn f141_40 r141 u141 ?_
            exact ⟨_, _, _, _, rfl, (KQ.i rfl KQ.rf), Or.inl ⟨(fun q => (fun q => q (nI_8 (by omega) (Decidable.of_not_not hc5))) q.2.2), (hR.k (pf := fun k j => decide (k = 52 ∧ j = 27)) (pa := fun _ => false) (KQ.i rfl KQ.rf) f27_R (fun _ _ _ => rfl)), rfl⟩⟩
def ok_marks (nv np : Nat) (A : Nat → Nat → Int32) (a : Int32) (b : Int32) (c : Int32) : Prop := qV nv a ∧ (¬ (A 53 a.toNatClampNeg) = 0 ∧ ¬ (A 53 a.toNatClampNeg) = 2) ∧ qRg b 1 (A 54 a.toNatClampNeg) ∧ ((A 53 a.toNatClampNeg) = 1 ∨ qRg c 0 (b - 1))
set_option maxRecDepth 100000 in
set_option maxHeartbeats 0 in
theorem mm_marks (ro : UInt32 → Nat × (Nat → Int32)) (nv np : Nat) (W : qW) (L : qLog) (I : Nat → Nat → Int32) (G : Nat → Nat → Int64) (A : Nat → Nat → Int32) (B : Nat → Nat → Int64) (K : Int) (hR : mRS nv np A W L I G A B) (hp : MPa nv np A) (hW : wInv nv 10000 K A W) (hK0 : 0 ≤ K) (hK : K ≤ 199000000) (hn : L.1 < 900000000) (a : Int32) (b : Int32) (c : Int32) : zWp ro 142 0 [(0, .ref 52), (1, .int a), (2, .int b), (3, .int c)] [] (hS I G A B) 0 0 (fun r h1 => ∃ I2 G2 A2 B2, h1 = hS I2 G2 A2 B2 ∧ KQ fHn pHn I G A B I2 G2 A2 B2 ∧ ((¬ ok_marks nv np A a b c ∧ mRS nv np A W L I2 G2 A2 B2 ∧ r = some (.int (-1))) ∨ (ok_marks nv np A a b c ∧ MPa nv np (updA (updA A 55 (upd (A 55) a.toNatClampNeg b)) 56 (upd ((updA A 55 (upd (A 55) a.toNatClampNeg b)) 56) a.toNatClampNeg (if (A 53 a.toNatClampNeg) = 1 then 0 else c))) ∧ wInv nv 10000 (K + 1000) (updA (updA A 55 (upd (A 55) a.toNatClampNeg b)) 56 (upd ((updA A 55 (upd (A 55) a.toNatClampNeg b)) 56) a.toNatClampNeg (if (A 53 a.toNatClampNeg) = 1 then 0 else c))) W ∧ mRS nv np (updA (updA A 55 (upd (A 55) a.toNatClampNeg b)) 56 (upd ((updA A 55 (upd (A 55) a.toNatClampNeg b)) 56) a.toNatClampNeg (if (A 53 a.toNatClampNeg) = 1 then 0 else c))) (wMom nv (updA (updA A 55 (upd (A 55) a.toNatClampNeg b)) 56 (upd ((updA A 55 (upd (A 55) a.toNatClampNeg b)) 56) a.toNatClampNeg (if (A 53 a.toNatClampNeg) = 1 then 0 else c))) W) (qNotes (I 52 22) W.2.1 W.1 (I 52 41) L (wEv nv (updA (updA A 55 (upd (A 55) a.toNatClampNeg b)) 56 (upd ((updA A 55 (upd (A 55) a.toNatClampNeg b)) 56) a.toNatClampNeg (if (A 53 a.toNatClampNeg) = 1 then 0 else c))) W)) I2 G2 A2 B2 ∧ r = some (.int 1)))) := by
  have h8 := hp.1
  have h14 := hp.2.1
  refine zw_aload_n 1 f142_0 rfl rfl ?_
  refine zw_iload_n 2 f142_1 rfl rfl ?_
  refine zw_virtual_i 5 0 0 [.ref 52, .int a] [(0, .ref 52), (1, .int a)] f142_2 rfl n142_215 k142_215_12 rfl (hb_52 _ _ _ _) (by decide +kernel) (Nat.le_of_ble_eq_true rfl) rfl rfl (by decide +kernel) (by decide +kernel) rfl (Nat.le_of_ble_eq_true rfl) rfl ?_
  refine zw_iload_n 1 f123_0 rfl rfl ?_
  refine zw_iconst 0 2 f123_1 rfl (by decide +kernel) ?_
  refine zw_aload_n 3 f123_2 rfl rfl ?_
  refine zw_getI (nI nv) 6 f123_3 rfl g123_114_12 (hb_52 _ _ _ _) rfl hR.1.1 ?_
  refine zw_iconst 1 7 f123_6 rfl (by decide +kernel) ?_
  refine zw_isub ((nI nv) - 1) 8 f123_7 rfl rfl ?_
  refine zw_static_i 11 0 0 [.int a, .int 0, .int ((nI nv) - 1)] [] [(0, .int a), (1, .int 0), (2, .int ((nI nv) - 1))] f123_8 rfl k123_117_99 rfl (by decide +kernel) (Nat.le_of_ble_eq_true rfl) (Nat.le_of_ble_eq_true rfl) rfl rfl (by decide +kernel) (by decide +kernel) rfl (Nat.le_of_ble_eq_true rfl) rfl ?_
  refine zw_iload_n 1 f120_0 rfl rfl ?_
  refine zw_iload_n 2 f120_1 rfl rfl ?_
  refine zw_ic_lt 5 14 f120_2 (by decide +kernel) rfl (fun hc1 => ?_) (fun hc1 => ?_)
  · refine zw_iconst 0 15 f120_14 rfl (by decide +kernel) ?_
    refine zw_zreturn f120_15 r120 u120 (by decide +kernel) ⟨_, rfl, ?_⟩
    refine zw_zreturn f123_11 r123 u123 (by decide +kernel) ⟨_, rfl, ?_⟩
    refine zw_if_ne_f 8 14 f142_5 (by decide +kernel) rfl (by decide +kernel) ?_
    refine zw_aload_n 9 f142_8 rfl rfl ?_
    refine zw_iconst 1 10 f142_9 rfl (by decide +kernel) ?_
    refine zw_virtual_i 13 0 0 [.ref 52, .int 1] [(0, .ref 52), (1, .int 1)] f142_10 rfl n142_209 k142_209_12 rfl (hb_52 _ _ _ _) (by decide +kernel) (Nat.le_of_ble_eq_true rfl) rfl rfl (by decide +kernel) (by decide +kernel) rfl (Nat.le_of_ble_eq_true rfl) rfl ?_
    refine zw_aload_n 1 f121_0 rfl rfl ?_
    refine zw_iload_n 2 f121_1 rfl rfl ?_
    refine zw_put _ 5 f121_2 rfl g121_111_12 (hb_52 _ _ _ _) rfl (Nat.le_of_ble_eq_true rfl) (by decide +kernel) (hi_52_27 _ _ _ _ _) ?_
    refine zw_iconst (-1) 6 f121_5 rfl (by decide +kernel) ?_
    refine zw_ireturn f121_6 r121 u121 ⟨_, rfl, ?_⟩
    refine zw_ireturn f142_13 r142 u142 ?_
    exact ⟨_, _, _, _, rfl, (KQ.i rfl KQ.rf), Or.inl ⟨(fun q => (qV.n0 (by omega) hc1) q.1), (hR.k (pf := fun k j => decide (k = 52 ∧ j = 27)) (pa := fun _ => false) (KQ.i rfl KQ.rf) f27_R (fun _ _ _ => rfl)), rfl⟩⟩
  · refine zw_iload_n 6 f120_5 rfl rfl ?_
    refine zw_iload_n 7 f120_6 rfl rfl ?_
    refine zw_ic_gt 10 14 f120_7 (by decide +kernel) rfl (fun hc2 => ?_) (fun hc2 => ?_)
    · refine zw_iconst 0 15 f120_14 rfl (by decide +kernel) ?_
      refine zw_zreturn f120_15 r120 u120 (by decide +kernel) ⟨_, rfl, ?_⟩
      refine zw_zreturn f123_11 r123 u123 (by decide +kernel) ⟨_, rfl, ?_⟩
      refine zw_if_ne_f 8 14 f142_5 (by decide +kernel) rfl (by decide +kernel) ?_
      refine zw_aload_n 9 f142_8 rfl rfl ?_
      refine zw_iconst 1 10 f142_9 rfl (by decide +kernel) ?_
      refine zw_virtual_i 13 0 0 [.ref 52, .int 1] [(0, .ref 52), (1, .int 1)] f142_10 rfl n142_209 k142_209_12 rfl (hb_52 _ _ _ _) (by decide +kernel) (Nat.le_of_ble_eq_true rfl) rfl rfl (by decide +kernel) (by decide +kernel) rfl (Nat.le_of_ble_eq_true rfl) rfl ?_
      refine zw_aload_n 1 f121_0 rfl rfl ?_
      refine zw_iload_n 2 f121_1 rfl rfl ?_
      refine zw_put _ 5 f121_2 rfl g121_111_12 (hb_52 _ _ _ _) rfl (Nat.le_of_ble_eq_true rfl) (by decide +kernel) (hi_52_27 _ _ _ _ _) ?_
      refine zw_iconst (-1) 6 f121_5 rfl (by decide +kernel) ?_
      refine zw_ireturn f121_6 r121 u121 ⟨_, rfl, ?_⟩
      refine zw_ireturn f142_13 r142 u142 ?_
      exact ⟨_, _, _, _, rfl, (KQ.i rfl KQ.rf), Or.inl ⟨(fun q => (qV.n1 (by omega) hc2) q.1), (hR.k (pf := fun k j => decide (k = 52 ∧ j = 27)) (pa := fun _ => false) (KQ.i rfl KQ.rf) f27_R (fun _ _ _ => rfl)), rfl⟩⟩
    · refine zw_iconst 1 11 f120_10 rfl (by decide +kernel) ?_
      refine zw_goto 15 f120_11 (by decide +kernel) ?_
      refine zw_zreturn f120_15 r120 u120 (by decide +kernel) ⟨_, rfl, ?_⟩
      refine zw_zreturn f123_11 r123 u123 (by decide +kernel) ⟨_, rfl, ?_⟩
      refine zw_if_ne_t 14 f142_5 (by decide +kernel) (by decide +kernel) ?_
      refine zw_aload_n 15 f142_14 rfl rfl ?_
      refine zw_getfield 18 f142_15 rfl g142_7_12 (hb_52 _ _ _ _) rfl ?_
      refine zw_iload_n 19 f142_18 rfl rfl ?_
      refine zw_iaload a.toNatClampNeg (A 53 a.toNatClampNeg) 20 f142_19 rfl (hb_53 _ _ _ _) rfl hc1 (zix (by decide) hc1 (show ¬ 8 ≤ a from ix_le hp.1 (by decide) (by decide) hc1 hc2)) rfl ?_
      refine zw_if_eq 23 33 f142_20 (by decide +kernel) rfl (fun hc3 => ?_) (fun hc3 => ?_)
      · refine zw_aload_n 34 f142_33 rfl rfl ?_
        refine zw_iconst 3 35 f142_34 rfl (by decide +kernel) ?_
        refine zw_virtual_i 38 0 0 [.ref 52, .int 3] [(0, .ref 52), (1, .int 3)] f142_35 rfl n142_209 k142_209_12 rfl (hb_52 _ _ _ _) (by decide +kernel) (Nat.le_of_ble_eq_true rfl) rfl rfl (by decide +kernel) (by decide +kernel) rfl (Nat.le_of_ble_eq_true rfl) rfl ?_
        refine zw_aload_n 1 f121_0 rfl rfl ?_
        refine zw_iload_n 2 f121_1 rfl rfl ?_
        refine zw_put _ 5 f121_2 rfl g121_111_12 (hb_52 _ _ _ _) rfl (Nat.le_of_ble_eq_true rfl) (by decide +kernel) (hi_52_27 _ _ _ _ _) ?_
        refine zw_iconst (-1) 6 f121_5 rfl (by decide +kernel) ?_
        refine zw_ireturn f121_6 r121 u121 ⟨_, rfl, ?_⟩
        refine zw_ireturn f142_38 r142 u142 ?_
        exact ⟨_, _, _, _, rfl, (KQ.i rfl KQ.rf), Or.inl ⟨(fun q => (fun q => q.1 hc3) q.2.1), (hR.k (pf := fun k j => decide (k = 52 ∧ j = 27)) (pa := fun _ => false) (KQ.i rfl KQ.rf) f27_R (fun _ _ _ => rfl)), rfl⟩⟩
      · refine zw_aload_n 24 f142_23 rfl rfl ?_
        refine zw_getfield 27 f142_24 rfl g142_7_12 (hb_52 _ _ _ _) rfl ?_
        refine zw_iload_n 28 f142_27 rfl rfl ?_
        refine zw_iaload a.toNatClampNeg (A 53 a.toNatClampNeg) 29 f142_28 rfl (hb_53 _ _ _ _) rfl hc1 (zix (by decide) hc1 (show ¬ 8 ≤ a from ix_le hp.1 (by decide) (by decide) hc1 hc2)) rfl ?_
        refine zw_iconst 2 30 f142_29 rfl (by decide +kernel) ?_
        refine zw_ic_ne 33 39 f142_30 (by decide +kernel) rfl (fun hc4 => ?_) (fun hc4 => ?_)
        · refine zw_iload_n 40 f142_39 rfl rfl ?_
          refine zw_iconst 1 41 f142_40 rfl (by decide +kernel) ?_
          refine zw_aload_n 42 f142_41 rfl rfl ?_
          refine zw_getfield 45 f142_42 rfl g142_13_12 (hb_52 _ _ _ _) rfl ?_
          refine zw_iload_n 46 f142_45 rfl rfl ?_
          refine zw_iaload a.toNatClampNeg (A 54 a.toNatClampNeg) 47 f142_46 rfl (hb_54 _ _ _ _) rfl hc1 (zix (by decide) hc1 (show ¬ 8 ≤ a from ix_le hp.1 (by decide) (by decide) hc1 hc2)) rfl ?_
          refine zw_static_i 50 0 0 [.int b, .int 1, .int (A 54 a.toNatClampNeg)] [] [(0, .int b), (1, .int 1), (2, .int (A 54 a.toNatClampNeg))] f142_47 rfl k142_117_99 rfl (by decide +kernel) (Nat.le_of_ble_eq_true rfl) (Nat.le_of_ble_eq_true rfl) rfl rfl (by decide +kernel) (by decide +kernel) rfl (Nat.le_of_ble_eq_true rfl) rfl ?_
          refine zw_iload_n 1 f120_0 rfl rfl ?_
          refine zw_iload_n 2 f120_1 rfl rfl ?_
          refine zw_ic_lt 5 14 f120_2 (by decide +kernel) rfl (fun hc5 => ?_) (fun hc5 => ?_)
          · refine zw_iconst 0 15 f120_14 rfl (by decide +kernel) ?_
            refine zw_zreturn f120_15 r120 u120 (by decide +kernel) ⟨_, rfl, ?_⟩
            refine zw_if_eq_t 74 f142_50 (by decide +kernel) (by decide +kernel) ?_
            refine zw_aload_n 75 f142_74 rfl rfl ?_
            refine zw_iconst 1 76 f142_75 rfl (by decide +kernel) ?_
            refine zw_virtual_i 79 0 0 [.ref 52, .int 1] [(0, .ref 52), (1, .int 1)] f142_76 rfl n142_209 k142_209_12 rfl (hb_52 _ _ _ _) (by decide +kernel) (Nat.le_of_ble_eq_true rfl) rfl rfl (by decide +kernel) (by decide +kernel) rfl (Nat.le_of_ble_eq_true rfl) rfl ?_
            refine zw_aload_n 1 f121_0 rfl rfl ?_
            refine zw_iload_n 2 f121_1 rfl rfl ?_
            refine zw_put _ 5 f121_2 rfl g121_111_12 (hb_52 _ _ _ _) rfl (Nat.le_of_ble_eq_true rfl) (by decide +kernel) (hi_52_27 _ _ _ _ _) ?_
            refine zw_iconst (-1) 6 f121_5 rfl (by decide +kernel) ?_
            refine zw_ireturn f121_6 r121 u121 ⟨_, rfl, ?_⟩
            refine zw_ireturn f142_79 r142 u142 ?_
            exact ⟨_, _, _, _, rfl, (KQ.i rfl KQ.rf), Or.inl ⟨(fun q => (fun q => q.1 hc5) q.2.2.1), (hR.k (pf := fun k j => decide (k = 52 ∧ j = 27)) (pa := fun _ => false) (KQ.i rfl KQ.rf) f27_R (fun _ _ _ => rfl)), rfl⟩⟩
          · refine zw_iload_n 6 f120_5 rfl rfl ?_
            refine zw_iload_n 7 f120_6 rfl rfl ?_
            refine zw_ic_gt 10 14 f120_7 (by decide +kernel) rfl (fun hc6 => ?_) (fun hc6 => ?_)
            · refine zw_iconst 0 15 f120_14 rfl (by decide +kernel) ?_
              refine zw_zreturn f120_15 r120 u120 (by decide +kernel) ⟨_, rfl, ?_⟩
              refine zw_if_eq_t 74 f142_50 (by decide +kernel) (by decide +kernel) ?_
              refine zw_aload_n 75 f142_74 rfl rfl ?_
              refine zw_iconst 1 76 f142_75 rfl (by decide +kernel) ?_
              refine zw_virtual_i 79 0 0 [.ref 52, .int 1] [(0, .ref 52), (1, .int 1)] f142_76 rfl n142_209 k142_209_12 rfl (hb_52 _ _ _ _) (by decide +kernel) (Nat.le_of_ble_eq_true rfl) rfl rfl (by decide +kernel) (by decide +kernel) rfl (Nat.le_of_ble_eq_true rfl) rfl ?_
              refine zw_aload_n 1 f121_0 rfl rfl ?_
              refine zw_iload_n 2 f121_1 rfl rfl ?_
              refine zw_put _ 5 f121_2 rfl g121_111_12 (hb_52 _ _ _ _) rfl (Nat.le_of_ble_eq_true rfl) (by decide +kernel) (hi_52_27 _ _ _ _ _) ?_
              refine zw_iconst (-1) 6 f121_5 rfl (by decide +kernel) ?_
              refine zw_ireturn f121_6 r121 u121 ⟨_, rfl, ?_⟩
              refine zw_ireturn f142_79 r142 u142 ?_
              exact ⟨_, _, _, _, rfl, (KQ.i rfl KQ.rf), Or.inl ⟨(fun q => (fun q => q.2 hc6) q.2.2.1), (hR.k (pf := fun k j => decide (k = 52 ∧ j = 27)) (pa := fun _ => false) (KQ.i rfl KQ.rf) f27_R (fun _ _ _ => rfl)), rfl⟩⟩
            · refine zw_iconst 1 11 f120_10 rfl (by decide +kernel) ?_
              refine zw_goto 15 f120_11 (by decide +kernel) ?_
              refine zw_zreturn f120_15 r120 u120 (by decide +kernel) ⟨_, rfl, ?_⟩
              refine zw_if_eq_f 53 74 f142_50 (by decide +kernel) rfl (by decide +kernel) ?_
              refine zw_aload_n 54 f142_53 rfl rfl ?_
              refine zw_getfield 57 f142_54 rfl g142_7_12 (hb_52 _ _ _ _) rfl ?_
              refine zw_iload_n 58 f142_57 rfl rfl ?_
              refine zw_iaload a.toNatClampNeg (A 53 a.toNatClampNeg) 59 f142_58 rfl (hb_53 _ _ _ _) rfl hc1 (zix (by decide) hc1 (show ¬ 8 ≤ a from ix_le hp.1 (by decide) (by decide) hc1 hc2)) rfl ?_
              refine zw_iconst 1 60 f142_59 rfl (by decide +kernel) ?_
              refine zw_ic_eq 63 80 f142_60 (by decide +kernel) rfl (fun hc7 => ?_) (fun hc7 => ?_)
              · refine zw_aload_n 81 f142_80 rfl rfl ?_
                refine zw_getfield 84 f142_81 rfl g142_16_12 (hb_52 _ _ _ _) rfl ?_
                refine zw_iload_n 85 f142_84 rfl rfl ?_
                refine zw_iload_n 86 f142_85 rfl rfl ?_
                refine zw_ast a.toNatClampNeg _ 87 f142_86 rfl (hb_55 _ _ _ _) rfl hc1 (zix (by decide) hc1 (show ¬ 8 ≤ a from ix_le hp.1 (by decide) (by decide) hc1 hc2)) (ha_55 _ _ _ _ _) ?_
                refine zw_aload_n 88 f142_87 rfl rfl ?_
                refine zw_getfield 91 f142_88 rfl g142_19_12 (hb_52 _ _ _ _) rfl ?_
                refine zw_iload_n 92 f142_91 rfl rfl ?_
                refine zw_aload_n 93 f142_92 rfl rfl ?_
                refine zw_getfield 96 f142_93 rfl g142_7_12 (hb_52 _ _ _ _) rfl ?_
                refine zw_iload_n 97 f142_96 rfl rfl ?_
                refine zw_iaload a.toNatClampNeg (A 53 a.toNatClampNeg) 98 f142_97 rfl (hb_53 _ _ _ _) rfl hc1 (zix (by decide) hc1 (show ¬ 8 ≤ a from ix_le hp.1 (by decide) (by decide) hc1 hc2)) rfl ?_
                refine zw_iconst 1 99 f142_98 rfl (by decide +kernel) ?_
                refine zw_ic_ne_f 102 106 f142_99 (by decide +kernel) rfl (fun q => q hc7) ?_
                refine zw_iconst 0 103 f142_102 rfl (by decide +kernel) ?_
                refine zw_goto 107 f142_103 (by decide +kernel) ?_
                refine zw_ast a.toNatClampNeg _ 108 f142_107 rfl (hb_56 _ _ _ _) rfl hc1 (zix (by decide) hc1 (show ¬ 8 ≤ a from ix_le hp.1 (by decide) (by decide) hc1 hc2)) (ha_56 _ _ _ _ _) ?_
                refine zw_aload_n 109 f142_108 rfl rfl ?_
                refine zw_iconst 1 110 f142_109 rfl (by decide +kernel) ?_
                refine zw_virtual_i 113 0 0 [.ref 52, .int 1] [(0, .ref 52), (1, .int 1)] f142_110 rfl n142_212 k142_212_12 rfl (hb_52 _ _ _ _) (by decide +kernel) (Nat.le_of_ble_eq_true rfl) rfl rfl (by decide +kernel) (by decide +kernel) rfl (Nat.le_of_ble_eq_true rfl) rfl ?_
                have hok : ok_marks nv np A a b c := ⟨(qV.of (by omega) hc1 hc2), ⟨hc3, hc4⟩, ⟨hc5, hc6⟩, (Or.inl hc7)⟩
                have Rz : mRS nv np (updA (updA A 55 (upd (A 55) a.toNatClampNeg b)) 56 (upd ((updA A 55 (upd (A 55) a.toNatClampNeg b)) 56) a.toNatClampNeg 0)) W L I G (updA (updA A 55 (upd (A 55) a.toNatClampNeg b)) 56 (upd ((updA A 55 (upd (A 55) a.toNatClampNeg b)) 56) a.toNatClampNeg 0)) B := ⟨⟨hR.1.1, hR.1.2⟩, PE.rf, hR.2.2.1, hR.2.2.2⟩
                have hb := qRg.i (l := 1) (by decide) rfl hok.2.2.1
                have hpv := (hp.2.2.1 a.toNatClampNeg hok.1.1).1
                have hc : 0 ≤ (0 : Int32).toInt ∧ (0 : Int32).toInt ≤ b.toInt := by rw [i32_0]; omega
                have hp2 : MPa nv np (updA (updA A 55 (upd (A 55) a.toNatClampNeg b)) 56 (upd ((updA A 55 (upd (A 55) a.toNatClampNeg b)) 56) a.toNatClampNeg 0)) := hp.mk (w := a.toNatClampNeg) (hi := b) (lo := 0) hok.1.1 hb hc rfl rfl (fun k k1 k2 => by unfold updA; rw [if_neg k2, if_neg k1])
                have hW2 : wInv nv 10000 (K + 1000) (updA (updA A 55 (upd (A 55) a.toNatClampNeg b)) 56 (upd ((updA A 55 (upd (A 55) a.toNatClampNeg b)) 56) a.toNatClampNeg 0)) W := (hW.pa rfl).mo (by omega) (by omega)
                refine zWp.mono (mm_hand ro nv np (updA (updA A 55 (upd (A 55) a.toNatClampNeg b)) 56 (upd ((updA A 55 (upd (A 55) a.toNatClampNeg b)) 56) a.toNatClampNeg 0)) W L _ _ _ _ (K + 1000) 1 Rz hp2 hW2 (by omega) (by omega)) ?_
                rintro r h1 ⟨I2, G2, A2, B2, rfl, K2, R2, rfl⟩
                refine ⟨_, rfl, ?_⟩
                refine zw_ireturn f142_113 r142 u142 ?_
                exact ⟨_, _, _, _, rfl, (KQ.tr (KQ.a rfl (KQ.a rfl KQ.rf)) K2), Or.inr ⟨hok, by rw [show (if (A 53 a.toNatClampNeg) = 1 then (0 : Int32) else c) = 0 from if_pos hc7]; exact ⟨hp2, hW2, R2, rfl⟩⟩⟩
              · refine zw_iload_n 64 f142_63 rfl rfl ?_
                refine zw_iconst 0 65 f142_64 rfl (by decide +kernel) ?_
                refine zw_iload_n 66 f142_65 rfl rfl ?_
                refine zw_iconst 1 67 f142_66 rfl (by decide +kernel) ?_
                refine zw_isub (b - 1) 68 f142_67 rfl rfl ?_
                refine zw_static_i 71 0 0 [.int c, .int 0, .int (b - 1)] [] [(0, .int c), (1, .int 0), (2, .int (b - 1))] f142_68 rfl k142_117_99 rfl (by decide +kernel) (Nat.le_of_ble_eq_true rfl) (Nat.le_of_ble_eq_true rfl) rfl rfl (by decide +kernel) (by decide +kernel) rfl (Nat.le_of_ble_eq_true rfl) rfl ?_
                refine zw_iload_n 1 f120_0 rfl rfl ?_
                refine zw_iload_n 2 f120_1 rfl rfl ?_
                refine zw_ic_lt 5 14 f120_2 (by decide +kernel) rfl (fun hc8 => ?_) (fun hc8 => ?_)
                · refine zw_iconst 0 15 f120_14 rfl (by decide +kernel) ?_
                  refine zw_zreturn f120_15 r120 u120 (by decide +kernel) ⟨_, rfl, ?_⟩
                  refine zw_if_ne_f 74 80 f142_71 (by decide +kernel) rfl (by decide +kernel) ?_
                  refine zw_aload_n 75 f142_74 rfl rfl ?_
                  refine zw_iconst 1 76 f142_75 rfl (by decide +kernel) ?_
                  refine zw_virtual_i 79 0 0 [.ref 52, .int 1] [(0, .ref 52), (1, .int 1)] f142_76 rfl n142_209 k142_209_12 rfl (hb_52 _ _ _ _) (by decide +kernel) (Nat.le_of_ble_eq_true rfl) rfl rfl (by decide +kernel) (by decide +kernel) rfl (Nat.le_of_ble_eq_true rfl) rfl ?_
                  refine zw_aload_n 1 f121_0 rfl rfl ?_
                  refine zw_iload_n 2 f121_1 rfl rfl ?_
                  refine zw_put _ 5 f121_2 rfl g121_111_12 (hb_52 _ _ _ _) rfl (Nat.le_of_ble_eq_true rfl) (by decide +kernel) (hi_52_27 _ _ _ _ _) ?_
                  refine zw_iconst (-1) 6 f121_5 rfl (by decide +kernel) ?_
                  refine zw_ireturn f121_6 r121 u121 ⟨_, rfl, ?_⟩
                  refine zw_ireturn f142_79 r142 u142 ?_
                  exact ⟨_, _, _, _, rfl, (KQ.i rfl KQ.rf), Or.inl ⟨(fun q => (fun q => q.elim hc7 (fun q => q.1 hc8)) q.2.2.2), (hR.k (pf := fun k j => decide (k = 52 ∧ j = 27)) (pa := fun _ => false) (KQ.i rfl KQ.rf) f27_R (fun _ _ _ => rfl)), rfl⟩⟩
                · refine zw_iload_n 6 f120_5 rfl rfl ?_
                  refine zw_iload_n 7 f120_6 rfl rfl ?_
                  refine zw_ic_gt 10 14 f120_7 (by decide +kernel) rfl (fun hc9 => ?_) (fun hc9 => ?_)
                  · refine zw_iconst 0 15 f120_14 rfl (by decide +kernel) ?_
                    refine zw_zreturn f120_15 r120 u120 (by decide +kernel) ⟨_, rfl, ?_⟩
                    refine zw_if_ne_f 74 80 f142_71 (by decide +kernel) rfl (by decide +kernel) ?_
                    refine zw_aload_n 75 f142_74 rfl rfl ?_
                    refine zw_iconst 1 76 f142_75 rfl (by decide +kernel) ?_
                    refine zw_virtual_i 79 0 0 [.ref 52, .int 1] [(0, .ref 52), (1, .int 1)] f142_76 rfl n142_209 k142_209_12 rfl (hb_52 _ _ _ _) (by decide +kernel) (Nat.le_of_ble_eq_true rfl) rfl rfl (by decide +kernel) (by decide +kernel) rfl (Nat.le_of_ble_eq_true rfl) rfl ?_
                    refine zw_aload_n 1 f121_0 rfl rfl ?_
                    refine zw_iload_n 2 f121_1 rfl rfl ?_
                    refine zw_put _ 5 f121_2 rfl g121_111_12 (hb_52 _ _ _ _) rfl (Nat.le_of_ble_eq_true rfl) (by decide +kernel) (hi_52_27 _ _ _ _ _) ?_
                    refine zw_iconst (-1) 6 f121_5 rfl (by decide +kernel) ?_
                    refine zw_ireturn f121_6 r121 u121 ⟨_, rfl, ?_⟩
                    refine zw_ireturn f142_79 r142 u142 ?_
                    exact ⟨_, _, _, _, rfl, (KQ.i rfl KQ.rf), Or.inl ⟨(fun q => (fun q => q.elim hc7 (fun q => q.2 hc9)) q.2.2.2), (hR.k (pf := fun k j => decide (k = 52 ∧ j = 27)) (pa := fun _ => false) (KQ.i rfl KQ.rf) f27_R (fun _ _ _ => rfl)), rfl⟩⟩
                  · refine zw_iconst 1 11 f120_10 rfl (by decide +kernel) ?_
                    refine zw_goto 15 f120_11 (by decide +kernel) ?_
                    refine zw_zreturn f120_15 r120 u120 (by decide +kernel) ⟨_, rfl, ?_⟩
                    refine zw_if_ne_t 80 f142_71 (by decide +kernel) (by decide +kernel) ?_
                    refine zw_aload_n 81 f142_80 rfl rfl ?_
                    refine zw_getfield 84 f142_81 rfl g142_16_12 (hb_52 _ _ _ _) rfl ?_
                    refine zw_iload_n 85 f142_84 rfl rfl ?_
                    refine zw_iload_n 86 f142_85 rfl rfl ?_
                    refine zw_ast a.toNatClampNeg _ 87 f142_86 rfl (hb_55 _ _ _ _) rfl hc1 (zix (by decide) hc1 (show ¬ 8 ≤ a from ix_le hp.1 (by decide) (by decide) hc1 hc2)) (ha_55 _ _ _ _ _) ?_
                    refine zw_aload_n 88 f142_87 rfl rfl ?_
                    refine zw_getfield 91 f142_88 rfl g142_19_12 (hb_52 _ _ _ _) rfl ?_
                    refine zw_iload_n 92 f142_91 rfl rfl ?_
                    refine zw_aload_n 93 f142_92 rfl rfl ?_
                    refine zw_getfield 96 f142_93 rfl g142_7_12 (hb_52 _ _ _ _) rfl ?_
                    refine zw_iload_n 97 f142_96 rfl rfl ?_
                    refine zw_iaload a.toNatClampNeg (A 53 a.toNatClampNeg) 98 f142_97 rfl (hb_53 _ _ _ _) rfl hc1 (zix (by decide) hc1 (show ¬ 8 ≤ a from ix_le hp.1 (by decide) (by decide) hc1 hc2)) rfl ?_
                    refine zw_iconst 1 99 f142_98 rfl (by decide +kernel) ?_
                    refine zw_ic_ne_t 106 f142_99 (by decide +kernel) hc7 ?_
                    refine zw_iload_n 107 f142_106 rfl rfl ?_
                    refine zw_ast a.toNatClampNeg _ 108 f142_107 rfl (hb_56 _ _ _ _) rfl hc1 (zix (by decide) hc1 (show ¬ 8 ≤ a from ix_le hp.1 (by decide) (by decide) hc1 hc2)) (ha_56 _ _ _ _ _) ?_
                    refine zw_aload_n 109 f142_108 rfl rfl ?_
                    refine zw_iconst 1 110 f142_109 rfl (by decide +kernel) ?_
                    refine zw_virtual_i 113 0 0 [.ref 52, .int 1] [(0, .ref 52), (1, .int 1)] f142_110 rfl n142_212 k142_212_12 rfl (hb_52 _ _ _ _) (by decide +kernel) (Nat.le_of_ble_eq_true rfl) rfl rfl (by decide +kernel) (by decide +kernel) rfl (Nat.le_of_ble_eq_true rfl) rfl ?_
                    have hok : ok_marks nv np A a b c := ⟨(qV.of (by omega) hc1 hc2), ⟨hc3, hc4⟩, ⟨hc5, hc6⟩, (Or.inr ⟨hc8, hc9⟩)⟩
                    have Rz : mRS nv np (updA (updA A 55 (upd (A 55) a.toNatClampNeg b)) 56 (upd ((updA A 55 (upd (A 55) a.toNatClampNeg b)) 56) a.toNatClampNeg c)) W L I G (updA (updA A 55 (upd (A 55) a.toNatClampNeg b)) 56 (upd ((updA A 55 (upd (A 55) a.toNatClampNeg b)) 56) a.toNatClampNeg c)) B := ⟨⟨hR.1.1, hR.1.2⟩, PE.rf, hR.2.2.1, hR.2.2.2⟩
                    have hb := qRg.i (l := 1) (by decide) rfl hok.2.2.1
                    have hpv := (hp.2.2.1 a.toNatClampNeg hok.1.1).1
                    have hc := qLow (show qRg c 0 (b - 1) from ⟨hc8, hc9⟩) hb.1 (by omega)
                    have hp2 : MPa nv np (updA (updA A 55 (upd (A 55) a.toNatClampNeg b)) 56 (upd ((updA A 55 (upd (A 55) a.toNatClampNeg b)) 56) a.toNatClampNeg c)) := hp.mk (w := a.toNatClampNeg) (hi := b) (lo := c) hok.1.1 hb hc rfl rfl (fun k k1 k2 => by unfold updA; rw [if_neg k2, if_neg k1])
                    have hW2 : wInv nv 10000 (K + 1000) (updA (updA A 55 (upd (A 55) a.toNatClampNeg b)) 56 (upd ((updA A 55 (upd (A 55) a.toNatClampNeg b)) 56) a.toNatClampNeg c)) W := (hW.pa rfl).mo (by omega) (by omega)
                    refine zWp.mono (mm_hand ro nv np (updA (updA A 55 (upd (A 55) a.toNatClampNeg b)) 56 (upd ((updA A 55 (upd (A 55) a.toNatClampNeg b)) 56) a.toNatClampNeg c)) W L _ _ _ _ (K + 1000) 1 Rz hp2 hW2 (by omega) (by omega)) ?_
                    rintro r h1 ⟨I2, G2, A2, B2, rfl, K2, R2, rfl⟩
                    refine ⟨_, rfl, ?_⟩
                    refine zw_ireturn f142_113 r142 u142 ?_
                    exact ⟨_, _, _, _, rfl, (KQ.tr (KQ.a rfl (KQ.a rfl KQ.rf)) K2), Or.inr ⟨hok, by rw [show (if (A 53 a.toNatClampNeg) = 1 then (0 : Int32) else c) = c from if_neg hc7]; exact ⟨hp2, hW2, R2, rfl⟩⟩⟩
        · refine zw_aload_n 34 f142_33 rfl rfl ?_
          refine zw_iconst 3 35 f142_34 rfl (by decide +kernel) ?_
          refine zw_virtual_i 38 0 0 [.ref 52, .int 3] [(0, .ref 52), (1, .int 3)] f142_35 rfl n142_209 k142_209_12 rfl (hb_52 _ _ _ _) (by decide +kernel) (Nat.le_of_ble_eq_true rfl) rfl rfl (by decide +kernel) (by decide +kernel) rfl (Nat.le_of_ble_eq_true rfl) rfl ?_
          refine zw_aload_n 1 f121_0 rfl rfl ?_
          refine zw_iload_n 2 f121_1 rfl rfl ?_
          refine zw_put _ 5 f121_2 rfl g121_111_12 (hb_52 _ _ _ _) rfl (Nat.le_of_ble_eq_true rfl) (by decide +kernel) (hi_52_27 _ _ _ _ _) ?_
          refine zw_iconst (-1) 6 f121_5 rfl (by decide +kernel) ?_
          refine zw_ireturn f121_6 r121 u121 ⟨_, rfl, ?_⟩
          refine zw_ireturn f142_38 r142 u142 ?_
          exact ⟨_, _, _, _, rfl, (KQ.i rfl KQ.rf), Or.inl ⟨(fun q => (fun q => q.2 (Decidable.of_not_not hc4)) q.2.1), (hR.k (pf := fun k j => decide (k = 52 ∧ j = 27)) (pa := fun _ => false) (KQ.i rfl KQ.rf) f27_R (fun _ _ _ => rfl)), rfl⟩⟩
def ok_own (nv np : Nat) (A : Nat → Nat → Int32) (a : Int32) (b : Int32) : Prop := qV nv a ∧ qV np b ∧ ¬ (A 53 a.toNatClampNeg) = 0 ∧ ¬ (A 53 a.toNatClampNeg) = 2 ∧ (¬ (A 53 a.toNatClampNeg) = 1 ∨ (A 60 b.toNatClampNeg) = a)
set_option maxRecDepth 100000 in
set_option maxHeartbeats 0 in
theorem mm_own (ro : UInt32 → Nat × (Nat → Int32)) (nv np : Nat) (W : qW) (L : qLog) (I : Nat → Nat → Int32) (G : Nat → Nat → Int64) (A : Nat → Nat → Int32) (B : Nat → Nat → Int64) (K : Int) (hR : mRS nv np A W L I G A B) (hp : MPa nv np A) (hW : wInv nv 10000 K A W) (hK0 : 0 ≤ K) (hK : K ≤ 199000000) (hn : L.1 < 900000000) (a : Int32) (b : Int32) : zWp ro 143 0 [(0, .ref 52), (1, .int a), (2, .int b)] [] (hS I G A B) 0 0 (fun r h1 => ∃ I2 G2 A2 B2, h1 = hS I2 G2 A2 B2 ∧ KQ fHn pHn I G A B I2 G2 A2 B2 ∧ ((¬ ok_own nv np A a b ∧ mRS nv np A W L I2 G2 A2 B2 ∧ r = some (.int (-1))) ∨ (ok_own nv np A a b ∧ MPa nv np (updA A 57 (upd (A 57) a.toNatClampNeg b)) ∧ wInv nv 10000 (K + 1000) (updA A 57 (upd (A 57) a.toNatClampNeg b)) W ∧ mRS nv np (updA A 57 (upd (A 57) a.toNatClampNeg b)) (wMom nv (updA A 57 (upd (A 57) a.toNatClampNeg b)) W) (qNotes (I 52 22) W.2.1 W.1 (I 52 41) L (wEv nv (updA A 57 (upd (A 57) a.toNatClampNeg b)) W)) I2 G2 A2 B2 ∧ r = some (.int 1)))) := by
  have h8 := hp.1
  have h14 := hp.2.1
  refine zw_aload_n 1 f143_0 rfl rfl ?_
  refine zw_iload_n 2 f143_1 rfl rfl ?_
  refine zw_virtual_i 5 0 0 [.ref 52, .int a] [(0, .ref 52), (1, .int a)] f143_2 rfl n143_215 k143_215_12 rfl (hb_52 _ _ _ _) (by decide +kernel) (Nat.le_of_ble_eq_true rfl) rfl rfl (by decide +kernel) (by decide +kernel) rfl (Nat.le_of_ble_eq_true rfl) rfl ?_
  refine zw_iload_n 1 f123_0 rfl rfl ?_
  refine zw_iconst 0 2 f123_1 rfl (by decide +kernel) ?_
  refine zw_aload_n 3 f123_2 rfl rfl ?_
  refine zw_getI (nI nv) 6 f123_3 rfl g123_114_12 (hb_52 _ _ _ _) rfl hR.1.1 ?_
  refine zw_iconst 1 7 f123_6 rfl (by decide +kernel) ?_
  refine zw_isub ((nI nv) - 1) 8 f123_7 rfl rfl ?_
  refine zw_static_i 11 0 0 [.int a, .int 0, .int ((nI nv) - 1)] [] [(0, .int a), (1, .int 0), (2, .int ((nI nv) - 1))] f123_8 rfl k123_117_99 rfl (by decide +kernel) (Nat.le_of_ble_eq_true rfl) (Nat.le_of_ble_eq_true rfl) rfl rfl (by decide +kernel) (by decide +kernel) rfl (Nat.le_of_ble_eq_true rfl) rfl ?_
  refine zw_iload_n 1 f120_0 rfl rfl ?_
  refine zw_iload_n 2 f120_1 rfl rfl ?_
  refine zw_ic_lt 5 14 f120_2 (by decide +kernel) rfl (fun hc1 => ?_) (fun hc1 => ?_)
  · refine zw_iconst 0 15 f120_14 rfl (by decide +kernel) ?_
    refine zw_zreturn f120_15 r120 u120 (by decide +kernel) ⟨_, rfl, ?_⟩
    refine zw_zreturn f123_11 r123 u123 (by decide +kernel) ⟨_, rfl, ?_⟩
    refine zw_if_eq_t 16 f143_5 (by decide +kernel) (by decide +kernel) ?_
    refine zw_aload_n 17 f143_16 rfl rfl ?_
    refine zw_iconst 1 18 f143_17 rfl (by decide +kernel) ?_
    refine zw_virtual_i 21 0 0 [.ref 52, .int 1] [(0, .ref 52), (1, .int 1)] f143_18 rfl n143_209 k143_209_12 rfl (hb_52 _ _ _ _) (by decide +kernel) (Nat.le_of_ble_eq_true rfl) rfl rfl (by decide +kernel) (by decide +kernel) rfl (Nat.le_of_ble_eq_true rfl) rfl ?_
    refine zw_aload_n 1 f121_0 rfl rfl ?_
    refine zw_iload_n 2 f121_1 rfl rfl ?_
    refine zw_put _ 5 f121_2 rfl g121_111_12 (hb_52 _ _ _ _) rfl (Nat.le_of_ble_eq_true rfl) (by decide +kernel) (hi_52_27 _ _ _ _ _) ?_
    refine zw_iconst (-1) 6 f121_5 rfl (by decide +kernel) ?_
    refine zw_ireturn f121_6 r121 u121 ⟨_, rfl, ?_⟩
    refine zw_ireturn f143_21 r143 u143 ?_
    exact ⟨_, _, _, _, rfl, (KQ.i rfl KQ.rf), Or.inl ⟨(fun q => (qV.n0 (by omega) hc1) q.1), (hR.k (pf := fun k j => decide (k = 52 ∧ j = 27)) (pa := fun _ => false) (KQ.i rfl KQ.rf) f27_R (fun _ _ _ => rfl)), rfl⟩⟩
  · refine zw_iload_n 6 f120_5 rfl rfl ?_
    refine zw_iload_n 7 f120_6 rfl rfl ?_
    refine zw_ic_gt 10 14 f120_7 (by decide +kernel) rfl (fun hc2 => ?_) (fun hc2 => ?_)
    · refine zw_iconst 0 15 f120_14 rfl (by decide +kernel) ?_
      refine zw_zreturn f120_15 r120 u120 (by decide +kernel) ⟨_, rfl, ?_⟩
      refine zw_zreturn f123_11 r123 u123 (by decide +kernel) ⟨_, rfl, ?_⟩
      refine zw_if_eq_t 16 f143_5 (by decide +kernel) (by decide +kernel) ?_
      refine zw_aload_n 17 f143_16 rfl rfl ?_
      refine zw_iconst 1 18 f143_17 rfl (by decide +kernel) ?_
      refine zw_virtual_i 21 0 0 [.ref 52, .int 1] [(0, .ref 52), (1, .int 1)] f143_18 rfl n143_209 k143_209_12 rfl (hb_52 _ _ _ _) (by decide +kernel) (Nat.le_of_ble_eq_true rfl) rfl rfl (by decide +kernel) (by decide +kernel) rfl (Nat.le_of_ble_eq_true rfl) rfl ?_
      refine zw_aload_n 1 f121_0 rfl rfl ?_
      refine zw_iload_n 2 f121_1 rfl rfl ?_
      refine zw_put _ 5 f121_2 rfl g121_111_12 (hb_52 _ _ _ _) rfl (Nat.le_of_ble_eq_true rfl) (by decide +kernel) (hi_52_27 _ _ _ _ _) ?_
      refine zw_iconst (-1) 6 f121_5 rfl (by decide +kernel) ?_
      refine zw_ireturn f121_6 r121 u121 ⟨_, rfl, ?_⟩
      refine zw_ireturn f143_21 r143 u143 ?_
      exact ⟨_, _, _, _, rfl, (KQ.i rfl KQ.rf), Or.inl ⟨(fun q => (qV.n1 (by omega) hc2) q.1), (hR.k (pf := fun k j => decide (k = 52 ∧ j = 27)) (pa := fun _ => false) (KQ.i rfl KQ.rf) f27_R (fun _ _ _ => rfl)), rfl⟩⟩
    · refine zw_iconst 1 11 f120_10 rfl (by decide +kernel) ?_
      refine zw_goto 15 f120_11 (by decide +kernel) ?_
      refine zw_zreturn f120_15 r120 u120 (by decide +kernel) ⟨_, rfl, ?_⟩
      refine zw_zreturn f123_11 r123 u123 (by decide +kernel) ⟨_, rfl, ?_⟩
      refine zw_if_eq_f 8 16 f143_5 (by decide +kernel) rfl (by decide +kernel) ?_
      refine zw_aload_n 9 f143_8 rfl rfl ?_
      refine zw_iload_n 10 f143_9 rfl rfl ?_
      refine zw_virtual_i 13 0 0 [.ref 52, .int b] [(0, .ref 52), (1, .int b)] f143_10 rfl n143_218 k143_218_12 rfl (hb_52 _ _ _ _) (by decide +kernel) (Nat.le_of_ble_eq_true rfl) rfl rfl (by decide +kernel) (by decide +kernel) rfl (Nat.le_of_ble_eq_true rfl) rfl ?_
      refine zw_iload_n 1 f124_0 rfl rfl ?_
      refine zw_iconst 0 2 f124_1 rfl (by decide +kernel) ?_
      refine zw_aload_n 3 f124_2 rfl rfl ?_
      refine zw_getI (nI np) 6 f124_3 rfl g124_121_12 (hb_52 _ _ _ _) rfl hR.1.2 ?_
      refine zw_iconst 1 7 f124_6 rfl (by decide +kernel) ?_
      refine zw_isub ((nI np) - 1) 8 f124_7 rfl rfl ?_
      refine zw_static_i 11 0 0 [.int b, .int 0, .int ((nI np) - 1)] [] [(0, .int b), (1, .int 0), (2, .int ((nI np) - 1))] f124_8 rfl k124_117_99 rfl (by decide +kernel) (Nat.le_of_ble_eq_true rfl) (Nat.le_of_ble_eq_true rfl) rfl rfl (by decide +kernel) (by decide +kernel) rfl (Nat.le_of_ble_eq_true rfl) rfl ?_
      refine zw_iload_n 1 f120_0 rfl rfl ?_
      refine zw_iload_n 2 f120_1 rfl rfl ?_
      refine zw_ic_lt 5 14 f120_2 (by decide +kernel) rfl (fun hc3 => ?_) (fun hc3 => ?_)
      · refine zw_iconst 0 15 f120_14 rfl (by decide +kernel) ?_
        refine zw_zreturn f120_15 r120 u120 (by decide +kernel) ⟨_, rfl, ?_⟩
        refine zw_zreturn f124_11 r124 u124 (by decide +kernel) ⟨_, rfl, ?_⟩
        refine zw_if_ne_f 16 22 f143_13 (by decide +kernel) rfl (by decide +kernel) ?_
        refine zw_aload_n 17 f143_16 rfl rfl ?_
        refine zw_iconst 1 18 f143_17 rfl (by decide +kernel) ?_
        refine zw_virtual_i 21 0 0 [.ref 52, .int 1] [(0, .ref 52), (1, .int 1)] f143_18 rfl n143_209 k143_209_12 rfl (hb_52 _ _ _ _) (by decide +kernel) (Nat.le_of_ble_eq_true rfl) rfl rfl (by decide +kernel) (by decide +kernel) rfl (Nat.le_of_ble_eq_true rfl) rfl ?_
        refine zw_aload_n 1 f121_0 rfl rfl ?_
        refine zw_iload_n 2 f121_1 rfl rfl ?_
        refine zw_put _ 5 f121_2 rfl g121_111_12 (hb_52 _ _ _ _) rfl (Nat.le_of_ble_eq_true rfl) (by decide +kernel) (hi_52_27 _ _ _ _ _) ?_
        refine zw_iconst (-1) 6 f121_5 rfl (by decide +kernel) ?_
        refine zw_ireturn f121_6 r121 u121 ⟨_, rfl, ?_⟩
        refine zw_ireturn f143_21 r143 u143 ?_
        exact ⟨_, _, _, _, rfl, (KQ.i rfl KQ.rf), Or.inl ⟨(fun q => (qV.n0 (by omega) hc3) q.2.1), (hR.k (pf := fun k j => decide (k = 52 ∧ j = 27)) (pa := fun _ => false) (KQ.i rfl KQ.rf) f27_R (fun _ _ _ => rfl)), rfl⟩⟩
      · refine zw_iload_n 6 f120_5 rfl rfl ?_
        refine zw_iload_n 7 f120_6 rfl rfl ?_
        refine zw_ic_gt 10 14 f120_7 (by decide +kernel) rfl (fun hc4 => ?_) (fun hc4 => ?_)
        · refine zw_iconst 0 15 f120_14 rfl (by decide +kernel) ?_
          refine zw_zreturn f120_15 r120 u120 (by decide +kernel) ⟨_, rfl, ?_⟩
          refine zw_zreturn f124_11 r124 u124 (by decide +kernel) ⟨_, rfl, ?_⟩
          refine zw_if_ne_f 16 22 f143_13 (by decide +kernel) rfl (by decide +kernel) ?_
          refine zw_aload_n 17 f143_16 rfl rfl ?_
          refine zw_iconst 1 18 f143_17 rfl (by decide +kernel) ?_
          refine zw_virtual_i 21 0 0 [.ref 52, .int 1] [(0, .ref 52), (1, .int 1)] f143_18 rfl n143_209 k143_209_12 rfl (hb_52 _ _ _ _) (by decide +kernel) (Nat.le_of_ble_eq_true rfl) rfl rfl (by decide +kernel) (by decide +kernel) rfl (Nat.le_of_ble_eq_true rfl) rfl ?_
          refine zw_aload_n 1 f121_0 rfl rfl ?_
          refine zw_iload_n 2 f121_1 rfl rfl ?_
          refine zw_put _ 5 f121_2 rfl g121_111_12 (hb_52 _ _ _ _) rfl (Nat.le_of_ble_eq_true rfl) (by decide +kernel) (hi_52_27 _ _ _ _ _) ?_
          refine zw_iconst (-1) 6 f121_5 rfl (by decide +kernel) ?_
          refine zw_ireturn f121_6 r121 u121 ⟨_, rfl, ?_⟩
          refine zw_ireturn f143_21 r143 u143 ?_
          exact ⟨_, _, _, _, rfl, (KQ.i rfl KQ.rf), Or.inl ⟨(fun q => (qV.n1 (by omega) hc4) q.2.1), (hR.k (pf := fun k j => decide (k = 52 ∧ j = 27)) (pa := fun _ => false) (KQ.i rfl KQ.rf) f27_R (fun _ _ _ => rfl)), rfl⟩⟩
        · refine zw_iconst 1 11 f120_10 rfl (by decide +kernel) ?_
          refine zw_goto 15 f120_11 (by decide +kernel) ?_
          refine zw_zreturn f120_15 r120 u120 (by decide +kernel) ⟨_, rfl, ?_⟩
          refine zw_zreturn f124_11 r124 u124 (by decide +kernel) ⟨_, rfl, ?_⟩
          refine zw_if_ne_t 22 f143_13 (by decide +kernel) (by decide +kernel) ?_
          refine zw_aload_n 23 f143_22 rfl rfl ?_
          refine zw_getfield 26 f143_23 rfl g143_7_12 (hb_52 _ _ _ _) rfl ?_
          refine zw_iload_n 27 f143_26 rfl rfl ?_
          refine zw_iaload a.toNatClampNeg (A 53 a.toNatClampNeg) 28 f143_27 rfl (hb_53 _ _ _ _) rfl hc1 (zix (by decide) hc1 (show ¬ 8 ≤ a from ix_le hp.1 (by decide) (by decide) hc1 hc2)) rfl ?_
          refine zw_if_eq 31 61 f143_28 (by decide +kernel) rfl (fun hc5 => ?_) (fun hc5 => ?_)
          · refine zw_aload_n 62 f143_61 rfl rfl ?_
            refine zw_iconst 3 63 f143_62 rfl (by decide +kernel) ?_
            refine zw_virtual_i 66 0 0 [.ref 52, .int 3] [(0, .ref 52), (1, .int 3)] f143_63 rfl n143_209 k143_209_12 rfl (hb_52 _ _ _ _) (by decide +kernel) (Nat.le_of_ble_eq_true rfl) rfl rfl (by decide +kernel) (by decide +kernel) rfl (Nat.le_of_ble_eq_true rfl) rfl ?_
            refine zw_aload_n 1 f121_0 rfl rfl ?_
            refine zw_iload_n 2 f121_1 rfl rfl ?_
            refine zw_put _ 5 f121_2 rfl g121_111_12 (hb_52 _ _ _ _) rfl (Nat.le_of_ble_eq_true rfl) (by decide +kernel) (hi_52_27 _ _ _ _ _) ?_
            refine zw_iconst (-1) 6 f121_5 rfl (by decide +kernel) ?_
            refine zw_ireturn f121_6 r121 u121 ⟨_, rfl, ?_⟩
            refine zw_ireturn f143_66 r143 u143 ?_
            exact ⟨_, _, _, _, rfl, (KQ.i rfl KQ.rf), Or.inl ⟨(fun q => (fun q => q.1 hc5) q.2.2), (hR.k (pf := fun k j => decide (k = 52 ∧ j = 27)) (pa := fun _ => false) (KQ.i rfl KQ.rf) f27_R (fun _ _ _ => rfl)), rfl⟩⟩
          · refine zw_aload_n 32 f143_31 rfl rfl ?_
            refine zw_getfield 35 f143_32 rfl g143_7_12 (hb_52 _ _ _ _) rfl ?_
            refine zw_iload_n 36 f143_35 rfl rfl ?_
            refine zw_iaload a.toNatClampNeg (A 53 a.toNatClampNeg) 37 f143_36 rfl (hb_53 _ _ _ _) rfl hc1 (zix (by decide) hc1 (show ¬ 8 ≤ a from ix_le hp.1 (by decide) (by decide) hc1 hc2)) rfl ?_
            refine zw_iconst 2 38 f143_37 rfl (by decide +kernel) ?_
            refine zw_ic_eq 41 61 f143_38 (by decide +kernel) rfl (fun hc6 => ?_) (fun hc6 => ?_)
            · refine zw_aload_n 62 f143_61 rfl rfl ?_
              refine zw_iconst 3 63 f143_62 rfl (by decide +kernel) ?_
              refine zw_virtual_i 66 0 0 [.ref 52, .int 3] [(0, .ref 52), (1, .int 3)] f143_63 rfl n143_209 k143_209_12 rfl (hb_52 _ _ _ _) (by decide +kernel) (Nat.le_of_ble_eq_true rfl) rfl rfl (by decide +kernel) (by decide +kernel) rfl (Nat.le_of_ble_eq_true rfl) rfl ?_
              refine zw_aload_n 1 f121_0 rfl rfl ?_
              refine zw_iload_n 2 f121_1 rfl rfl ?_
              refine zw_put _ 5 f121_2 rfl g121_111_12 (hb_52 _ _ _ _) rfl (Nat.le_of_ble_eq_true rfl) (by decide +kernel) (hi_52_27 _ _ _ _ _) ?_
              refine zw_iconst (-1) 6 f121_5 rfl (by decide +kernel) ?_
              refine zw_ireturn f121_6 r121 u121 ⟨_, rfl, ?_⟩
              refine zw_ireturn f143_66 r143 u143 ?_
              exact ⟨_, _, _, _, rfl, (KQ.i rfl KQ.rf), Or.inl ⟨(fun q => (fun q => q.2.1 hc6) q.2.2), (hR.k (pf := fun k j => decide (k = 52 ∧ j = 27)) (pa := fun _ => false) (KQ.i rfl KQ.rf) f27_R (fun _ _ _ => rfl)), rfl⟩⟩
            · refine zw_aload_n 42 f143_41 rfl rfl ?_
              refine zw_getfield 45 f143_42 rfl g143_7_12 (hb_52 _ _ _ _) rfl ?_
              refine zw_iload_n 46 f143_45 rfl rfl ?_
              refine zw_iaload a.toNatClampNeg (A 53 a.toNatClampNeg) 47 f143_46 rfl (hb_53 _ _ _ _) rfl hc1 (zix (by decide) hc1 (show ¬ 8 ≤ a from ix_le hp.1 (by decide) (by decide) hc1 hc2)) rfl ?_
              refine zw_iconst 1 48 f143_47 rfl (by decide +kernel) ?_
              refine zw_ic_ne 51 67 f143_48 (by decide +kernel) rfl (fun hc7 => ?_) (fun hc7 => ?_)
              · refine zw_aload_n 68 f143_67 rfl rfl ?_
                refine zw_getfield 71 f143_68 rfl g143_22_12 (hb_52 _ _ _ _) rfl ?_
                refine zw_iload_n 72 f143_71 rfl rfl ?_
                refine zw_iload_n 73 f143_72 rfl rfl ?_
                refine zw_ast a.toNatClampNeg _ 74 f143_73 rfl (hb_57 _ _ _ _) rfl hc1 (zix (by decide) hc1 (show ¬ 8 ≤ a from ix_le hp.1 (by decide) (by decide) hc1 hc2)) (ha_57 _ _ _ _ _) ?_
                refine zw_aload_n 75 f143_74 rfl rfl ?_
                refine zw_iconst 1 76 f143_75 rfl (by decide +kernel) ?_
                refine zw_virtual_i 79 0 0 [.ref 52, .int 1] [(0, .ref 52), (1, .int 1)] f143_76 rfl n143_212 k143_212_12 rfl (hb_52 _ _ _ _) (by decide +kernel) (Nat.le_of_ble_eq_true rfl) rfl rfl (by decide +kernel) (by decide +kernel) rfl (Nat.le_of_ble_eq_true rfl) rfl ?_
                have hok : ok_own nv np A a b := ⟨(qV.of (by omega) hc1 hc2), (qV.of (by omega) hc3 hc4), ⟨hc5, hc6, Or.inl hc7⟩⟩
                have Rz : mRS nv np (updA A 57 (upd (A 57) a.toNatClampNeg b)) W L I G (updA A 57 (upd (A 57) a.toNatClampNeg b)) B := ⟨⟨hR.1.1, hR.1.2⟩, PE.rf, hR.2.2.1, hR.2.2.2⟩
                have hp2 : MPa nv np (updA A 57 (upd (A 57) a.toNatClampNeg b)) := hp.ow (w := a.toNatClampNeg) (x := b) hok.1.1 (Or.inr ⟨_, Nat.zero_le _, hok.2.1.1, hok.2.1.2⟩) rfl (fun k k1 => by unfold updA; rw [if_neg k1])
                have hW2 : wInv nv 10000 (K + 1000) (updA A 57 (upd (A 57) a.toNatClampNeg b)) W := (hW.pa rfl).mo (by omega) (by omega)
                refine zWp.mono (mm_hand ro nv np (updA A 57 (upd (A 57) a.toNatClampNeg b)) W L _ _ _ _ (K + 1000) 1 Rz hp2 hW2 (by omega) (by omega)) ?_
                rintro r h1 ⟨I2, G2, A2, B2, rfl, K2, R2, rfl⟩
                refine ⟨_, rfl, ?_⟩
                refine zw_ireturn f143_79 r143 u143 ?_
                exact ⟨_, _, _, _, rfl, (KQ.tr (KQ.a rfl KQ.rf) K2), Or.inr ⟨hok, hp2, hW2, R2, rfl⟩⟩
              · refine zw_aload_n 52 f143_51 rfl rfl ?_
                refine zw_getfield 55 f143_52 rfl g143_31_12 (hb_52 _ _ _ _) rfl ?_
                refine zw_iload_n 56 f143_55 rfl rfl ?_
                refine zw_iaload b.toNatClampNeg (A 60 b.toNatClampNeg) 57 f143_56 rfl (hb_60 _ _ _ _) rfl hc3 (zix (by decide) hc3 (show ¬ 14 ≤ b from ix_le hp.2.1 (by decide) (by decide) hc3 hc4)) rfl ?_
                refine zw_iload_n 58 f143_57 rfl rfl ?_
                refine zw_ic_eq 61 67 f143_58 (by decide +kernel) rfl (fun hc8 => ?_) (fun hc8 => ?_)
                · refine zw_aload_n 68 f143_67 rfl rfl ?_
                  refine zw_getfield 71 f143_68 rfl g143_22_12 (hb_52 _ _ _ _) rfl ?_
                  refine zw_iload_n 72 f143_71 rfl rfl ?_
                  refine zw_iload_n 73 f143_72 rfl rfl ?_
                  refine zw_ast a.toNatClampNeg _ 74 f143_73 rfl (hb_57 _ _ _ _) rfl hc1 (zix (by decide) hc1 (show ¬ 8 ≤ a from ix_le hp.1 (by decide) (by decide) hc1 hc2)) (ha_57 _ _ _ _ _) ?_
                  refine zw_aload_n 75 f143_74 rfl rfl ?_
                  refine zw_iconst 1 76 f143_75 rfl (by decide +kernel) ?_
                  refine zw_virtual_i 79 0 0 [.ref 52, .int 1] [(0, .ref 52), (1, .int 1)] f143_76 rfl n143_212 k143_212_12 rfl (hb_52 _ _ _ _) (by decide +kernel) (Nat.le_of_ble_eq_true rfl) rfl rfl (by decide +kernel) (by decide +kernel) rfl (Nat.le_of_ble_eq_true rfl) rfl ?_
                  have hok : ok_own nv np A a b := ⟨(qV.of (by omega) hc1 hc2), (qV.of (by omega) hc3 hc4), ⟨hc5, hc6, Or.inr hc8⟩⟩
                  have Rz : mRS nv np (updA A 57 (upd (A 57) a.toNatClampNeg b)) W L I G (updA A 57 (upd (A 57) a.toNatClampNeg b)) B := ⟨⟨hR.1.1, hR.1.2⟩, PE.rf, hR.2.2.1, hR.2.2.2⟩
                  have hp2 : MPa nv np (updA A 57 (upd (A 57) a.toNatClampNeg b)) := hp.ow (w := a.toNatClampNeg) (x := b) hok.1.1 (Or.inr ⟨_, Nat.zero_le _, hok.2.1.1, hok.2.1.2⟩) rfl (fun k k1 => by unfold updA; rw [if_neg k1])
                  have hW2 : wInv nv 10000 (K + 1000) (updA A 57 (upd (A 57) a.toNatClampNeg b)) W := (hW.pa rfl).mo (by omega) (by omega)
                  refine zWp.mono (mm_hand ro nv np (updA A 57 (upd (A 57) a.toNatClampNeg b)) W L _ _ _ _ (K + 1000) 1 Rz hp2 hW2 (by omega) (by omega)) ?_
                  rintro r h1 ⟨I2, G2, A2, B2, rfl, K2, R2, rfl⟩
                  refine ⟨_, rfl, ?_⟩
                  refine zw_ireturn f143_79 r143 u143 ?_
                  exact ⟨_, _, _, _, rfl, (KQ.tr (KQ.a rfl KQ.rf) K2), Or.inr ⟨hok, hp2, hW2, R2, rfl⟩⟩
                · refine zw_aload_n 62 f143_61 rfl rfl ?_
                  refine zw_iconst 3 63 f143_62 rfl (by decide +kernel) ?_
                  refine zw_virtual_i 66 0 0 [.ref 52, .int 3] [(0, .ref 52), (1, .int 3)] f143_63 rfl n143_209 k143_209_12 rfl (hb_52 _ _ _ _) (by decide +kernel) (Nat.le_of_ble_eq_true rfl) rfl rfl (by decide +kernel) (by decide +kernel) rfl (Nat.le_of_ble_eq_true rfl) rfl ?_
                  refine zw_aload_n 1 f121_0 rfl rfl ?_
                  refine zw_iload_n 2 f121_1 rfl rfl ?_
                  refine zw_put _ 5 f121_2 rfl g121_111_12 (hb_52 _ _ _ _) rfl (Nat.le_of_ble_eq_true rfl) (by decide +kernel) (hi_52_27 _ _ _ _ _) ?_
                  refine zw_iconst (-1) 6 f121_5 rfl (by decide +kernel) ?_
                  refine zw_ireturn f121_6 r121 u121 ⟨_, rfl, ?_⟩
                  refine zw_ireturn f143_66 r143 u143 ?_
                  exact ⟨_, _, _, _, rfl, (KQ.i rfl KQ.rf), Or.inl ⟨(fun q => (fun q => q.2.2.elim (fun z => z (Decidable.of_not_not hc7)) hc8) q.2.2), (hR.k (pf := fun k j => decide (k = 52 ∧ j = 27)) (pa := fun _ => false) (KQ.i rfl KQ.rf) f27_R (fun _ _ _ => rfl)), rfl⟩⟩
def ok_tips (nv np : Nat) (A : Nat → Nat → Int32) (a : Int32) (b : Int32) : Prop := qV nv a ∧ qD nv a b ∧ (A 53 a.toNatClampNeg) = 2
set_option maxRecDepth 100000 in
set_option maxHeartbeats 0 in
theorem mm_tips (ro : UInt32 → Nat × (Nat → Int32)) (nv np : Nat) (W : qW) (L : qLog) (I : Nat → Nat → Int32) (G : Nat → Nat → Int64) (A : Nat → Nat → Int32) (B : Nat → Nat → Int64) (K : Int) (hR : mRS nv np A W L I G A B) (hp : MPa nv np A) (hW : wInv nv 10000 K A W) (hK0 : 0 ≤ K) (hK : K ≤ 199000000) (hn : L.1 < 900000000) (a : Int32) (b : Int32) : zWp ro 145 0 [(0, .ref 52), (1, .int a), (2, .int b)] [] (hS I G A B) 0 0 (fun r h1 => ∃ I2 G2 A2 B2, h1 = hS I2 G2 A2 B2 ∧ KQ fHn pHn I G A B I2 G2 A2 B2 ∧ ((¬ ok_tips nv np A a b ∧ mRS nv np A W L I2 G2 A2 B2 ∧ r = some (.int (-1))) ∨ (ok_tips nv np A a b ∧ MPa nv np (updA A 58 (upd (A 58) a.toNatClampNeg b)) ∧ wInv nv 10000 (K + 1000) (updA A 58 (upd (A 58) a.toNatClampNeg b)) W ∧ mRS nv np (updA A 58 (upd (A 58) a.toNatClampNeg b)) (wMom nv (updA A 58 (upd (A 58) a.toNatClampNeg b)) W) (qNotes (I 52 22) W.2.1 W.1 (I 52 41) L (wEv nv (updA A 58 (upd (A 58) a.toNatClampNeg b)) W)) I2 G2 A2 B2 ∧ r = some (.int 1)))) := by
  have h8 := hp.1
  have h14 := hp.2.1
  refine zw_aload_n 1 f145_0 rfl rfl ?_
  refine zw_iload_n 2 f145_1 rfl rfl ?_
  refine zw_virtual_i 5 0 0 [.ref 52, .int a] [(0, .ref 52), (1, .int a)] f145_2 rfl n145_215 k145_215_12 rfl (hb_52 _ _ _ _) (by decide +kernel) (Nat.le_of_ble_eq_true rfl) rfl rfl (by decide +kernel) (by decide +kernel) rfl (Nat.le_of_ble_eq_true rfl) rfl ?_
  refine zw_iload_n 1 f123_0 rfl rfl ?_
  refine zw_iconst 0 2 f123_1 rfl (by decide +kernel) ?_
  refine zw_aload_n 3 f123_2 rfl rfl ?_
  refine zw_getI (nI nv) 6 f123_3 rfl g123_114_12 (hb_52 _ _ _ _) rfl hR.1.1 ?_
  refine zw_iconst 1 7 f123_6 rfl (by decide +kernel) ?_
  refine zw_isub ((nI nv) - 1) 8 f123_7 rfl rfl ?_
  refine zw_static_i 11 0 0 [.int a, .int 0, .int ((nI nv) - 1)] [] [(0, .int a), (1, .int 0), (2, .int ((nI nv) - 1))] f123_8 rfl k123_117_99 rfl (by decide +kernel) (Nat.le_of_ble_eq_true rfl) (Nat.le_of_ble_eq_true rfl) rfl rfl (by decide +kernel) (by decide +kernel) rfl (Nat.le_of_ble_eq_true rfl) rfl ?_
  refine zw_iload_n 1 f120_0 rfl rfl ?_
  refine zw_iload_n 2 f120_1 rfl rfl ?_
  refine zw_ic_lt 5 14 f120_2 (by decide +kernel) rfl (fun hc1 => ?_) (fun hc1 => ?_)
  · refine zw_iconst 0 15 f120_14 rfl (by decide +kernel) ?_
    refine zw_zreturn f120_15 r120 u120 (by decide +kernel) ⟨_, rfl, ?_⟩
    refine zw_zreturn f123_11 r123 u123 (by decide +kernel) ⟨_, rfl, ?_⟩
    refine zw_if_eq_t 17 f145_5 (by decide +kernel) (by decide +kernel) ?_
    refine zw_aload_n 18 f145_17 rfl rfl ?_
    refine zw_iconst 1 19 f145_18 rfl (by decide +kernel) ?_
    refine zw_virtual_i 22 0 0 [.ref 52, .int 1] [(0, .ref 52), (1, .int 1)] f145_19 rfl n145_209 k145_209_12 rfl (hb_52 _ _ _ _) (by decide +kernel) (Nat.le_of_ble_eq_true rfl) rfl rfl (by decide +kernel) (by decide +kernel) rfl (Nat.le_of_ble_eq_true rfl) rfl ?_
    refine zw_aload_n 1 f121_0 rfl rfl ?_
    refine zw_iload_n 2 f121_1 rfl rfl ?_
    refine zw_put _ 5 f121_2 rfl g121_111_12 (hb_52 _ _ _ _) rfl (Nat.le_of_ble_eq_true rfl) (by decide +kernel) (hi_52_27 _ _ _ _ _) ?_
    refine zw_iconst (-1) 6 f121_5 rfl (by decide +kernel) ?_
    refine zw_ireturn f121_6 r121 u121 ⟨_, rfl, ?_⟩
    refine zw_ireturn f145_22 r145 u145 ?_
    exact ⟨_, _, _, _, rfl, (KQ.i rfl KQ.rf), Or.inl ⟨(fun q => (qV.n0 (by omega) hc1) q.1), (hR.k (pf := fun k j => decide (k = 52 ∧ j = 27)) (pa := fun _ => false) (KQ.i rfl KQ.rf) f27_R (fun _ _ _ => rfl)), rfl⟩⟩
  · refine zw_iload_n 6 f120_5 rfl rfl ?_
    refine zw_iload_n 7 f120_6 rfl rfl ?_
    refine zw_ic_gt 10 14 f120_7 (by decide +kernel) rfl (fun hc2 => ?_) (fun hc2 => ?_)
    · refine zw_iconst 0 15 f120_14 rfl (by decide +kernel) ?_
      refine zw_zreturn f120_15 r120 u120 (by decide +kernel) ⟨_, rfl, ?_⟩
      refine zw_zreturn f123_11 r123 u123 (by decide +kernel) ⟨_, rfl, ?_⟩
      refine zw_if_eq_t 17 f145_5 (by decide +kernel) (by decide +kernel) ?_
      refine zw_aload_n 18 f145_17 rfl rfl ?_
      refine zw_iconst 1 19 f145_18 rfl (by decide +kernel) ?_
      refine zw_virtual_i 22 0 0 [.ref 52, .int 1] [(0, .ref 52), (1, .int 1)] f145_19 rfl n145_209 k145_209_12 rfl (hb_52 _ _ _ _) (by decide +kernel) (Nat.le_of_ble_eq_true rfl) rfl rfl (by decide +kernel) (by decide +kernel) rfl (Nat.le_of_ble_eq_true rfl) rfl ?_
      refine zw_aload_n 1 f121_0 rfl rfl ?_
      refine zw_iload_n 2 f121_1 rfl rfl ?_
      refine zw_put _ 5 f121_2 rfl g121_111_12 (hb_52 _ _ _ _) rfl (Nat.le_of_ble_eq_true rfl) (by decide +kernel) (hi_52_27 _ _ _ _ _) ?_
      refine zw_iconst (-1) 6 f121_5 rfl (by decide +kernel) ?_
      refine zw_ireturn f121_6 r121 u121 ⟨_, rfl, ?_⟩
      refine zw_ireturn f145_22 r145 u145 ?_
      exact ⟨_, _, _, _, rfl, (KQ.i rfl KQ.rf), Or.inl ⟨(fun q => (qV.n1 (by omega) hc2) q.1), (hR.k (pf := fun k j => decide (k = 52 ∧ j = 27)) (pa := fun _ => false) (KQ.i rfl KQ.rf) f27_R (fun _ _ _ => rfl)), rfl⟩⟩
    · refine zw_iconst 1 11 f120_10 rfl (by decide +kernel) ?_
      refine zw_goto 15 f120_11 (by decide +kernel) ?_
      refine zw_zreturn f120_15 r120 u120 (by decide +kernel) ⟨_, rfl, ?_⟩
      refine zw_zreturn f123_11 r123 u123 (by decide +kernel) ⟨_, rfl, ?_⟩
      refine zw_if_eq_f 8 17 f145_5 (by decide +kernel) rfl (by decide +kernel) ?_
      refine zw_aload_n 9 f145_8 rfl rfl ?_
      refine zw_iload_n 10 f145_9 rfl rfl ?_
      refine zw_iload_n 11 f145_10 rfl rfl ?_
      refine zw_virtual_i 14 0 0 [.ref 52, .int a, .int b] [(0, .ref 52), (1, .int a), (2, .int b)] f145_11 rfl n145_221 k145_221_12 rfl (hb_52 _ _ _ _) (by decide +kernel) (Nat.le_of_ble_eq_true rfl) rfl rfl (by decide +kernel) (by decide +kernel) rfl (Nat.le_of_ble_eq_true rfl) rfl ?_
      refine zw_iload_n 1 f144_0 rfl rfl ?_
      refine zw_iconst (-1) 2 f144_1 rfl (by decide +kernel) ?_
      refine zw_ic_eq 5 18 f144_2 (by decide +kernel) rfl (fun hc3 => ?_) (fun hc3 => ?_)
      · refine zw_iconst 1 19 f144_18 rfl (by decide +kernel) ?_
        refine zw_goto 23 f144_19 (by decide +kernel) ?_
        refine zw_zreturn f144_23 r144 u144 (by decide +kernel) ⟨_, rfl, ?_⟩
        refine zw_if_ne_t 23 f145_14 (by decide +kernel) (by decide +kernel) ?_
        refine zw_aload_n 24 f145_23 rfl rfl ?_
        refine zw_getfield 27 f145_24 rfl g145_7_12 (hb_52 _ _ _ _) rfl ?_
        refine zw_iload_n 28 f145_27 rfl rfl ?_
        refine zw_iaload a.toNatClampNeg (A 53 a.toNatClampNeg) 29 f145_28 rfl (hb_53 _ _ _ _) rfl hc1 (zix (by decide) hc1 (show ¬ 8 ≤ a from ix_le hp.1 (by decide) (by decide) hc1 hc2)) rfl ?_
        refine zw_iconst 2 30 f145_29 rfl (by decide +kernel) ?_
        refine zw_ic_eq 33 39 f145_30 (by decide +kernel) rfl (fun hc4 => ?_) (fun hc4 => ?_)
        · refine zw_aload_n 40 f145_39 rfl rfl ?_
          refine zw_getfield 43 f145_40 rfl g145_25_12 (hb_52 _ _ _ _) rfl ?_
          refine zw_iload_n 44 f145_43 rfl rfl ?_
          refine zw_iload_n 45 f145_44 rfl rfl ?_
          refine zw_ast a.toNatClampNeg _ 46 f145_45 rfl (hb_58 _ _ _ _) rfl hc1 (zix (by decide) hc1 (show ¬ 8 ≤ a from ix_le hp.1 (by decide) (by decide) hc1 hc2)) (ha_58 _ _ _ _ _) ?_
          refine zw_aload_n 47 f145_46 rfl rfl ?_
          refine zw_iconst 1 48 f145_47 rfl (by decide +kernel) ?_
          refine zw_virtual_i 51 0 0 [.ref 52, .int 1] [(0, .ref 52), (1, .int 1)] f145_48 rfl n145_212 k145_212_12 rfl (hb_52 _ _ _ _) (by decide +kernel) (Nat.le_of_ble_eq_true rfl) rfl rfl (by decide +kernel) (by decide +kernel) rfl (Nat.le_of_ble_eq_true rfl) rfl ?_
          have hok : ok_tips nv np A a b := ⟨(qV.of (by omega) hc1 hc2), (Or.inl hc3), hc4⟩
          have Rz : mRS nv np (updA A 58 (upd (A 58) a.toNatClampNeg b)) W L I G (updA A 58 (upd (A 58) a.toNatClampNeg b)) B := ⟨⟨hR.1.1, hR.1.2⟩, PE.rf, hR.2.2.1, hR.2.2.2⟩
          have hp2 : MPa nv np (updA A 58 (upd (A 58) a.toNatClampNeg b)) := hp.ti (w := a.toNatClampNeg) (x := b) hok.1.1 (qD.to (by omega) hok.1 hok.2.1) rfl (fun k k1 => by unfold updA; rw [if_neg k1])
          have hW2 : wInv nv 10000 (K + 1000) (updA A 58 (upd (A 58) a.toNatClampNeg b)) W := (hW.pa rfl).mo (by omega) (by omega)
          refine zWp.mono (mm_hand ro nv np (updA A 58 (upd (A 58) a.toNatClampNeg b)) W L _ _ _ _ (K + 1000) 1 Rz hp2 hW2 (by omega) (by omega)) ?_
          rintro r h1 ⟨I2, G2, A2, B2, rfl, K2, R2, rfl⟩
          refine ⟨_, rfl, ?_⟩
          refine zw_ireturn f145_51 r145 u145 ?_
          exact ⟨_, _, _, _, rfl, (KQ.tr (KQ.a rfl KQ.rf) K2), Or.inr ⟨hok, hp2, hW2, R2, rfl⟩⟩
        · refine zw_aload_n 34 f145_33 rfl rfl ?_
          refine zw_iconst 3 35 f145_34 rfl (by decide +kernel) ?_
          refine zw_virtual_i 38 0 0 [.ref 52, .int 3] [(0, .ref 52), (1, .int 3)] f145_35 rfl n145_209 k145_209_12 rfl (hb_52 _ _ _ _) (by decide +kernel) (Nat.le_of_ble_eq_true rfl) rfl rfl (by decide +kernel) (by decide +kernel) rfl (Nat.le_of_ble_eq_true rfl) rfl ?_
          refine zw_aload_n 1 f121_0 rfl rfl ?_
          refine zw_iload_n 2 f121_1 rfl rfl ?_
          refine zw_put _ 5 f121_2 rfl g121_111_12 (hb_52 _ _ _ _) rfl (Nat.le_of_ble_eq_true rfl) (by decide +kernel) (hi_52_27 _ _ _ _ _) ?_
          refine zw_iconst (-1) 6 f121_5 rfl (by decide +kernel) ?_
          refine zw_ireturn f121_6 r121 u121 ⟨_, rfl, ?_⟩
          refine zw_ireturn f145_38 r145 u145 ?_
          exact ⟨_, _, _, _, rfl, (KQ.i rfl KQ.rf), Or.inl ⟨(fun q => hc4 q.2.2), (hR.k (pf := fun k j => decide (k = 52 ∧ j = 27)) (pa := fun _ => false) (KQ.i rfl KQ.rf) f27_R (fun _ _ _ => rfl)), rfl⟩⟩
      · refine zw_aload_n 6 f144_5 rfl rfl ?_
        refine zw_iload_n 7 f144_6 rfl rfl ?_
        refine zw_virtual_i 10 0 0 [.ref 52, .int b] [(0, .ref 52), (1, .int b)] f144_7 rfl n144_215 k144_215_12 rfl (hb_52 _ _ _ _) (by decide +kernel) (Nat.le_of_ble_eq_true rfl) rfl rfl (by decide +kernel) (by decide +kernel) rfl (Nat.le_of_ble_eq_true rfl) rfl ?_
        refine zw_iload_n 1 f123_0 rfl rfl ?_
        refine zw_iconst 0 2 f123_1 rfl (by decide +kernel) ?_
        refine zw_aload_n 3 f123_2 rfl rfl ?_
        refine zw_getI (nI nv) 6 f123_3 rfl g123_114_12 (hb_52 _ _ _ _) rfl hR.1.1 ?_
        refine zw_iconst 1 7 f123_6 rfl (by decide +kernel) ?_
        refine zw_isub ((nI nv) - 1) 8 f123_7 rfl rfl ?_
        refine zw_static_i 11 0 0 [.int b, .int 0, .int ((nI nv) - 1)] [] [(0, .int b), (1, .int 0), (2, .int ((nI nv) - 1))] f123_8 rfl k123_117_99 rfl (by decide +kernel) (Nat.le_of_ble_eq_true rfl) (Nat.le_of_ble_eq_true rfl) rfl rfl (by decide +kernel) (by decide +kernel) rfl (Nat.le_of_ble_eq_true rfl) rfl ?_
        refine zw_iload_n 1 f120_0 rfl rfl ?_
        refine zw_iload_n 2 f120_1 rfl rfl ?_
        refine zw_ic_lt 5 14 f120_2 (by decide +kernel) rfl (fun hc5 => ?_) (fun hc5 => ?_)
        · refine zw_iconst 0 15 f120_14 rfl (by decide +kernel) ?_
          refine zw_zreturn f120_15 r120 u120 (by decide +kernel) ⟨_, rfl, ?_⟩
          refine zw_zreturn f123_11 r123 u123 (by decide +kernel) ⟨_, rfl, ?_⟩
          refine zw_if_eq_t 22 f144_10 (by decide +kernel) (by decide +kernel) ?_
          refine zw_iconst 0 23 f144_22 rfl (by decide +kernel) ?_
          refine zw_zreturn f144_23 r144 u144 (by decide +kernel) ⟨_, rfl, ?_⟩
          refine zw_if_ne_f 17 23 f145_14 (by decide +kernel) rfl (by decide +kernel) ?_
          refine zw_aload_n 18 f145_17 rfl rfl ?_
          refine zw_iconst 1 19 f145_18 rfl (by decide +kernel) ?_
          refine zw_virtual_i 22 0 0 [.ref 52, .int 1] [(0, .ref 52), (1, .int 1)] f145_19 rfl n145_209 k145_209_12 rfl (hb_52 _ _ _ _) (by decide +kernel) (Nat.le_of_ble_eq_true rfl) rfl rfl (by decide +kernel) (by decide +kernel) rfl (Nat.le_of_ble_eq_true rfl) rfl ?_
          refine zw_aload_n 1 f121_0 rfl rfl ?_
          refine zw_iload_n 2 f121_1 rfl rfl ?_
          refine zw_put _ 5 f121_2 rfl g121_111_12 (hb_52 _ _ _ _) rfl (Nat.le_of_ble_eq_true rfl) (by decide +kernel) (hi_52_27 _ _ _ _ _) ?_
          refine zw_iconst (-1) 6 f121_5 rfl (by decide +kernel) ?_
          refine zw_ireturn f121_6 r121 u121 ⟨_, rfl, ?_⟩
          refine zw_ireturn f145_22 r145 u145 ?_
          exact ⟨_, _, _, _, rfl, (KQ.i rfl KQ.rf), Or.inl ⟨(fun q => (fun q => q.elim hc3 (fun z => (qV.n0 (by omega) hc5) z.1)) q.2.1), (hR.k (pf := fun k j => decide (k = 52 ∧ j = 27)) (pa := fun _ => false) (KQ.i rfl KQ.rf) f27_R (fun _ _ _ => rfl)), rfl⟩⟩
        · refine zw_iload_n 6 f120_5 rfl rfl ?_
          refine zw_iload_n 7 f120_6 rfl rfl ?_
          refine zw_ic_gt 10 14 f120_7 (by decide +kernel) rfl (fun hc6 => ?_) (fun hc6 => ?_)
          · refine zw_iconst 0 15 f120_14 rfl (by decide +kernel) ?_
            refine zw_zreturn f120_15 r120 u120 (by decide +kernel) ⟨_, rfl, ?_⟩
            refine zw_zreturn f123_11 r123 u123 (by decide +kernel) ⟨_, rfl, ?_⟩
            refine zw_if_eq_t 22 f144_10 (by decide +kernel) (by decide +kernel) ?_
            refine zw_iconst 0 23 f144_22 rfl (by decide +kernel) ?_
            refine zw_zreturn f144_23 r144 u144 (by decide +kernel) ⟨_, rfl, ?_⟩
            refine zw_if_ne_f 17 23 f145_14 (by decide +kernel) rfl (by decide +kernel) ?_
            refine zw_aload_n 18 f145_17 rfl rfl ?_
            refine zw_iconst 1 19 f145_18 rfl (by decide +kernel) ?_
            refine zw_virtual_i 22 0 0 [.ref 52, .int 1] [(0, .ref 52), (1, .int 1)] f145_19 rfl n145_209 k145_209_12 rfl (hb_52 _ _ _ _) (by decide +kernel) (Nat.le_of_ble_eq_true rfl) rfl rfl (by decide +kernel) (by decide +kernel) rfl (Nat.le_of_ble_eq_true rfl) rfl ?_
            refine zw_aload_n 1 f121_0 rfl rfl ?_
            refine zw_iload_n 2 f121_1 rfl rfl ?_
            refine zw_put _ 5 f121_2 rfl g121_111_12 (hb_52 _ _ _ _) rfl (Nat.le_of_ble_eq_true rfl) (by decide +kernel) (hi_52_27 _ _ _ _ _) ?_
            refine zw_iconst (-1) 6 f121_5 rfl (by decide +kernel) ?_
            refine zw_ireturn f121_6 r121 u121 ⟨_, rfl, ?_⟩
            refine zw_ireturn f145_22 r145 u145 ?_
            exact ⟨_, _, _, _, rfl, (KQ.i rfl KQ.rf), Or.inl ⟨(fun q => (fun q => q.elim hc3 (fun z => (qV.n1 (by omega) hc6) z.1)) q.2.1), (hR.k (pf := fun k j => decide (k = 52 ∧ j = 27)) (pa := fun _ => false) (KQ.i rfl KQ.rf) f27_R (fun _ _ _ => rfl)), rfl⟩⟩
          · refine zw_iconst 1 11 f120_10 rfl (by decide +kernel) ?_
            refine zw_goto 15 f120_11 (by decide +kernel) ?_
            refine zw_zreturn f120_15 r120 u120 (by decide +kernel) ⟨_, rfl, ?_⟩
            refine zw_zreturn f123_11 r123 u123 (by decide +kernel) ⟨_, rfl, ?_⟩
            refine zw_if_eq_f 13 22 f144_10 (by decide +kernel) rfl (by decide +kernel) ?_
            refine zw_iload_n 14 f144_13 rfl rfl ?_
            refine zw_iload_n 15 f144_14 rfl rfl ?_
            refine zw_ic_le 18 22 f144_15 (by decide +kernel) rfl (fun hc7 => ?_) (fun hc7 => ?_)
            · refine zw_iconst 0 23 f144_22 rfl (by decide +kernel) ?_
              refine zw_zreturn f144_23 r144 u144 (by decide +kernel) ⟨_, rfl, ?_⟩
              refine zw_if_ne_f 17 23 f145_14 (by decide +kernel) rfl (by decide +kernel) ?_
              refine zw_aload_n 18 f145_17 rfl rfl ?_
              refine zw_iconst 1 19 f145_18 rfl (by decide +kernel) ?_
              refine zw_virtual_i 22 0 0 [.ref 52, .int 1] [(0, .ref 52), (1, .int 1)] f145_19 rfl n145_209 k145_209_12 rfl (hb_52 _ _ _ _) (by decide +kernel) (Nat.le_of_ble_eq_true rfl) rfl rfl (by decide +kernel) (by decide +kernel) rfl (Nat.le_of_ble_eq_true rfl) rfl ?_
              refine zw_aload_n 1 f121_0 rfl rfl ?_
              refine zw_iload_n 2 f121_1 rfl rfl ?_
              refine zw_put _ 5 f121_2 rfl g121_111_12 (hb_52 _ _ _ _) rfl (Nat.le_of_ble_eq_true rfl) (by decide +kernel) (hi_52_27 _ _ _ _ _) ?_
              refine zw_iconst (-1) 6 f121_5 rfl (by decide +kernel) ?_
              refine zw_ireturn f121_6 r121 u121 ⟨_, rfl, ?_⟩
              refine zw_ireturn f145_22 r145 u145 ?_
              exact ⟨_, _, _, _, rfl, (KQ.i rfl KQ.rf), Or.inl ⟨(fun q => (fun q => q.elim hc3 (fun z => z.2 hc7)) q.2.1), (hR.k (pf := fun k j => decide (k = 52 ∧ j = 27)) (pa := fun _ => false) (KQ.i rfl KQ.rf) f27_R (fun _ _ _ => rfl)), rfl⟩⟩
            · refine zw_iconst 1 19 f144_18 rfl (by decide +kernel) ?_
              refine zw_goto 23 f144_19 (by decide +kernel) ?_
              refine zw_zreturn f144_23 r144 u144 (by decide +kernel) ⟨_, rfl, ?_⟩
              refine zw_if_ne_t 23 f145_14 (by decide +kernel) (by decide +kernel) ?_
              refine zw_aload_n 24 f145_23 rfl rfl ?_
              refine zw_getfield 27 f145_24 rfl g145_7_12 (hb_52 _ _ _ _) rfl ?_
              refine zw_iload_n 28 f145_27 rfl rfl ?_
              refine zw_iaload a.toNatClampNeg (A 53 a.toNatClampNeg) 29 f145_28 rfl (hb_53 _ _ _ _) rfl hc1 (zix (by decide) hc1 (show ¬ 8 ≤ a from ix_le hp.1 (by decide) (by decide) hc1 hc2)) rfl ?_
              refine zw_iconst 2 30 f145_29 rfl (by decide +kernel) ?_
              refine zw_ic_eq 33 39 f145_30 (by decide +kernel) rfl (fun hc8 => ?_) (fun hc8 => ?_)
              · refine zw_aload_n 40 f145_39 rfl rfl ?_
                refine zw_getfield 43 f145_40 rfl g145_25_12 (hb_52 _ _ _ _) rfl ?_
                refine zw_iload_n 44 f145_43 rfl rfl ?_
                refine zw_iload_n 45 f145_44 rfl rfl ?_
                refine zw_ast a.toNatClampNeg _ 46 f145_45 rfl (hb_58 _ _ _ _) rfl hc1 (zix (by decide) hc1 (show ¬ 8 ≤ a from ix_le hp.1 (by decide) (by decide) hc1 hc2)) (ha_58 _ _ _ _ _) ?_
                refine zw_aload_n 47 f145_46 rfl rfl ?_
                refine zw_iconst 1 48 f145_47 rfl (by decide +kernel) ?_
                refine zw_virtual_i 51 0 0 [.ref 52, .int 1] [(0, .ref 52), (1, .int 1)] f145_48 rfl n145_212 k145_212_12 rfl (hb_52 _ _ _ _) (by decide +kernel) (Nat.le_of_ble_eq_true rfl) rfl rfl (by decide +kernel) (by decide +kernel) rfl (Nat.le_of_ble_eq_true rfl) rfl ?_
                have hok : ok_tips nv np A a b := ⟨(qV.of (by omega) hc1 hc2), (Or.inr ⟨(qV.of (by omega) hc5 hc6), hc7⟩), hc8⟩
                have Rz : mRS nv np (updA A 58 (upd (A 58) a.toNatClampNeg b)) W L I G (updA A 58 (upd (A 58) a.toNatClampNeg b)) B := ⟨⟨hR.1.1, hR.1.2⟩, PE.rf, hR.2.2.1, hR.2.2.2⟩
                have hp2 : MPa nv np (updA A 58 (upd (A 58) a.toNatClampNeg b)) := hp.ti (w := a.toNatClampNeg) (x := b) hok.1.1 (qD.to (by omega) hok.1 hok.2.1) rfl (fun k k1 => by unfold updA; rw [if_neg k1])
                have hW2 : wInv nv 10000 (K + 1000) (updA A 58 (upd (A 58) a.toNatClampNeg b)) W := (hW.pa rfl).mo (by omega) (by omega)
                refine zWp.mono (mm_hand ro nv np (updA A 58 (upd (A 58) a.toNatClampNeg b)) W L _ _ _ _ (K + 1000) 1 Rz hp2 hW2 (by omega) (by omega)) ?_
                rintro r h1 ⟨I2, G2, A2, B2, rfl, K2, R2, rfl⟩
                refine ⟨_, rfl, ?_⟩
                refine zw_ireturn f145_51 r145 u145 ?_
                exact ⟨_, _, _, _, rfl, (KQ.tr (KQ.a rfl KQ.rf) K2), Or.inr ⟨hok, hp2, hW2, R2, rfl⟩⟩
              · refine zw_aload_n 34 f145_33 rfl rfl ?_
                refine zw_iconst 3 35 f145_34 rfl (by decide +kernel) ?_
                refine zw_virtual_i 38 0 0 [.ref 52, .int 3] [(0, .ref 52), (1, .int 3)] f145_35 rfl n145_209 k145_209_12 rfl (hb_52 _ _ _ _) (by decide +kernel) (Nat.le_of_ble_eq_true rfl) rfl rfl (by decide +kernel) (by decide +kernel) rfl (Nat.le_of_ble_eq_true rfl) rfl ?_
                refine zw_aload_n 1 f121_0 rfl rfl ?_
                refine zw_iload_n 2 f121_1 rfl rfl ?_
                refine zw_put _ 5 f121_2 rfl g121_111_12 (hb_52 _ _ _ _) rfl (Nat.le_of_ble_eq_true rfl) (by decide +kernel) (hi_52_27 _ _ _ _ _) ?_
                refine zw_iconst (-1) 6 f121_5 rfl (by decide +kernel) ?_
                refine zw_ireturn f121_6 r121 u121 ⟨_, rfl, ?_⟩
                refine zw_ireturn f145_38 r145 u145 ?_
                exact ⟨_, _, _, _, rfl, (KQ.i rfl KQ.rf), Or.inl ⟨(fun q => hc8 q.2.2), (hR.k (pf := fun k j => decide (k = 52 ∧ j = 27)) (pa := fun _ => false) (KQ.i rfl KQ.rf) f27_R (fun _ _ _ => rfl)), rfl⟩⟩
def ok_over (nv np : Nat) (A : Nat → Nat → Int32) (a : Int32) (b : Int32) : Prop := qV nv a ∧ qD nv a b
set_option maxRecDepth 100000 in
set_option maxHeartbeats 0 in
theorem mm_over (ro : UInt32 → Nat × (Nat → Int32)) (nv np : Nat) (W : qW) (L : qLog) (I : Nat → Nat → Int32) (G : Nat → Nat → Int64) (A : Nat → Nat → Int32) (B : Nat → Nat → Int64) (K : Int) (hR : mRS nv np A W L I G A B) (hp : MPa nv np A) (hW : wInv nv 10000 K A W) (hK0 : 0 ≤ K) (hK : K ≤ 199000000) (hn : L.1 < 900000000) (a : Int32) (b : Int32) : zWp ro 146 0 [(0, .ref 52), (1, .int a), (2, .int b)] [] (hS I G A B) 0 0 (fun r h1 => ∃ I2 G2 A2 B2, h1 = hS I2 G2 A2 B2 ∧ KQ fHn pHn I G A B I2 G2 A2 B2 ∧ ((¬ ok_over nv np A a b ∧ mRS nv np A W L I2 G2 A2 B2 ∧ r = some (.int (-1))) ∨ (ok_over nv np A a b ∧ MPa nv np (updA A 59 (upd (A 59) a.toNatClampNeg b)) ∧ wInv nv 10000 (K + 1000) (updA A 59 (upd (A 59) a.toNatClampNeg b)) W ∧ mRS nv np (updA A 59 (upd (A 59) a.toNatClampNeg b)) (wMom nv (updA A 59 (upd (A 59) a.toNatClampNeg b)) W) (qNotes (I 52 22) W.2.1 W.1 (I 52 41) L (wEv nv (updA A 59 (upd (A 59) a.toNatClampNeg b)) W)) I2 G2 A2 B2 ∧ r = some (.int 1)))) := by
  have h8 := hp.1
  have h14 := hp.2.1
  refine zw_aload_n 1 f146_0 rfl rfl ?_
  refine zw_iload_n 2 f146_1 rfl rfl ?_
  refine zw_virtual_i 5 0 0 [.ref 52, .int a] [(0, .ref 52), (1, .int a)] f146_2 rfl n146_215 k146_215_12 rfl (hb_52 _ _ _ _) (by decide +kernel) (Nat.le_of_ble_eq_true rfl) rfl rfl (by decide +kernel) (by decide +kernel) rfl (Nat.le_of_ble_eq_true rfl) rfl ?_
  refine zw_iload_n 1 f123_0 rfl rfl ?_
  refine zw_iconst 0 2 f123_1 rfl (by decide +kernel) ?_
  refine zw_aload_n 3 f123_2 rfl rfl ?_
  refine zw_getI (nI nv) 6 f123_3 rfl g123_114_12 (hb_52 _ _ _ _) rfl hR.1.1 ?_
  refine zw_iconst 1 7 f123_6 rfl (by decide +kernel) ?_
  refine zw_isub ((nI nv) - 1) 8 f123_7 rfl rfl ?_
  refine zw_static_i 11 0 0 [.int a, .int 0, .int ((nI nv) - 1)] [] [(0, .int a), (1, .int 0), (2, .int ((nI nv) - 1))] f123_8 rfl k123_117_99 rfl (by decide +kernel) (Nat.le_of_ble_eq_true rfl) (Nat.le_of_ble_eq_true rfl) rfl rfl (by decide +kernel) (by decide +kernel) rfl (Nat.le_of_ble_eq_true rfl) rfl ?_
  refine zw_iload_n 1 f120_0 rfl rfl ?_
  refine zw_iload_n 2 f120_1 rfl rfl ?_
  refine zw_ic_lt 5 14 f120_2 (by decide +kernel) rfl (fun hc1 => ?_) (fun hc1 => ?_)
  · refine zw_iconst 0 15 f120_14 rfl (by decide +kernel) ?_
    refine zw_zreturn f120_15 r120 u120 (by decide +kernel) ⟨_, rfl, ?_⟩
    refine zw_zreturn f123_11 r123 u123 (by decide +kernel) ⟨_, rfl, ?_⟩
    refine zw_if_eq_t 17 f146_5 (by decide +kernel) (by decide +kernel) ?_
    refine zw_aload_n 18 f146_17 rfl rfl ?_
    refine zw_iconst 1 19 f146_18 rfl (by decide +kernel) ?_
    refine zw_virtual_i 22 0 0 [.ref 52, .int 1] [(0, .ref 52), (1, .int 1)] f146_19 rfl n146_209 k146_209_12 rfl (hb_52 _ _ _ _) (by decide +kernel) (Nat.le_of_ble_eq_true rfl) rfl rfl (by decide +kernel) (by decide +kernel) rfl (Nat.le_of_ble_eq_true rfl) rfl ?_
    refine zw_aload_n 1 f121_0 rfl rfl ?_
    refine zw_iload_n 2 f121_1 rfl rfl ?_
    refine zw_put _ 5 f121_2 rfl g121_111_12 (hb_52 _ _ _ _) rfl (Nat.le_of_ble_eq_true rfl) (by decide +kernel) (hi_52_27 _ _ _ _ _) ?_
    refine zw_iconst (-1) 6 f121_5 rfl (by decide +kernel) ?_
    refine zw_ireturn f121_6 r121 u121 ⟨_, rfl, ?_⟩
    refine zw_ireturn f146_22 r146 u146 ?_
    exact ⟨_, _, _, _, rfl, (KQ.i rfl KQ.rf), Or.inl ⟨(fun q => (qV.n0 (by omega) hc1) q.1), (hR.k (pf := fun k j => decide (k = 52 ∧ j = 27)) (pa := fun _ => false) (KQ.i rfl KQ.rf) f27_R (fun _ _ _ => rfl)), rfl⟩⟩
  · refine zw_iload_n 6 f120_5 rfl rfl ?_
    refine zw_iload_n 7 f120_6 rfl rfl ?_
    refine zw_ic_gt 10 14 f120_7 (by decide +kernel) rfl (fun hc2 => ?_) (fun hc2 => ?_)
    · refine zw_iconst 0 15 f120_14 rfl (by decide +kernel) ?_
      refine zw_zreturn f120_15 r120 u120 (by decide +kernel) ⟨_, rfl, ?_⟩
      refine zw_zreturn f123_11 r123 u123 (by decide +kernel) ⟨_, rfl, ?_⟩
      refine zw_if_eq_t 17 f146_5 (by decide +kernel) (by decide +kernel) ?_
      refine zw_aload_n 18 f146_17 rfl rfl ?_
      refine zw_iconst 1 19 f146_18 rfl (by decide +kernel) ?_
      refine zw_virtual_i 22 0 0 [.ref 52, .int 1] [(0, .ref 52), (1, .int 1)] f146_19 rfl n146_209 k146_209_12 rfl (hb_52 _ _ _ _) (by decide +kernel) (Nat.le_of_ble_eq_true rfl) rfl rfl (by decide +kernel) (by decide +kernel) rfl (Nat.le_of_ble_eq_true rfl) rfl ?_
      refine zw_aload_n 1 f121_0 rfl rfl ?_
      refine zw_iload_n 2 f121_1 rfl rfl ?_
      refine zw_put _ 5 f121_2 rfl g121_111_12 (hb_52 _ _ _ _) rfl (Nat.le_of_ble_eq_true rfl) (by decide +kernel) (hi_52_27 _ _ _ _ _) ?_
      refine zw_iconst (-1) 6 f121_5 rfl (by decide +kernel) ?_
      refine zw_ireturn f121_6 r121 u121 ⟨_, rfl, ?_⟩
      refine zw_ireturn f146_22 r146 u146 ?_
      exact ⟨_, _, _, _, rfl, (KQ.i rfl KQ.rf), Or.inl ⟨(fun q => (qV.n1 (by omega) hc2) q.1), (hR.k (pf := fun k j => decide (k = 52 ∧ j = 27)) (pa := fun _ => false) (KQ.i rfl KQ.rf) f27_R (fun _ _ _ => rfl)), rfl⟩⟩
    · refine zw_iconst 1 11 f120_10 rfl (by decide +kernel) ?_
      refine zw_goto 15 f120_11 (by decide +kernel) ?_
      refine zw_zreturn f120_15 r120 u120 (by decide +kernel) ⟨_, rfl, ?_⟩
      refine zw_zreturn f123_11 r123 u123 (by decide +kernel) ⟨_, rfl, ?_⟩
      refine zw_if_eq_f 8 17 f146_5 (by decide +kernel) rfl (by decide +kernel) ?_
      refine zw_aload_n 9 f146_8 rfl rfl ?_
      refine zw_iload_n 10 f146_9 rfl rfl ?_
      refine zw_iload_n 11 f146_10 rfl rfl ?_
      refine zw_virtual_i 14 0 0 [.ref 52, .int a, .int b] [(0, .ref 52), (1, .int a), (2, .int b)] f146_11 rfl n146_221 k146_221_12 rfl (hb_52 _ _ _ _) (by decide +kernel) (Nat.le_of_ble_eq_true rfl) rfl rfl (by decide +kernel) (by decide +kernel) rfl (Nat.le_of_ble_eq_true rfl) rfl ?_
      refine zw_iload_n 1 f144_0 rfl rfl ?_
      refine zw_iconst (-1) 2 f144_1 rfl (by decide +kernel) ?_
      refine zw_ic_eq 5 18 f144_2 (by decide +kernel) rfl (fun hc3 => ?_) (fun hc3 => ?_)
      · refine zw_iconst 1 19 f144_18 rfl (by decide +kernel) ?_
        refine zw_goto 23 f144_19 (by decide +kernel) ?_
        refine zw_zreturn f144_23 r144 u144 (by decide +kernel) ⟨_, rfl, ?_⟩
        refine zw_if_ne_t 23 f146_14 (by decide +kernel) (by decide +kernel) ?_
        refine zw_aload_n 24 f146_23 rfl rfl ?_
        refine zw_getfield 27 f146_24 rfl g146_28_12 (hb_52 _ _ _ _) rfl ?_
        refine zw_iload_n 28 f146_27 rfl rfl ?_
        refine zw_iload_n 29 f146_28 rfl rfl ?_
        refine zw_ast a.toNatClampNeg _ 30 f146_29 rfl (hb_59 _ _ _ _) rfl hc1 (zix (by decide) hc1 (show ¬ 8 ≤ a from ix_le hp.1 (by decide) (by decide) hc1 hc2)) (ha_59 _ _ _ _ _) ?_
        refine zw_aload_n 31 f146_30 rfl rfl ?_
        refine zw_iconst 1 32 f146_31 rfl (by decide +kernel) ?_
        refine zw_virtual_i 35 0 0 [.ref 52, .int 1] [(0, .ref 52), (1, .int 1)] f146_32 rfl n146_212 k146_212_12 rfl (hb_52 _ _ _ _) (by decide +kernel) (Nat.le_of_ble_eq_true rfl) rfl rfl (by decide +kernel) (by decide +kernel) rfl (Nat.le_of_ble_eq_true rfl) rfl ?_
        have hok : ok_over nv np A a b := ⟨(qV.of (by omega) hc1 hc2), (Or.inl hc3)⟩
        have Rz : mRS nv np (updA A 59 (upd (A 59) a.toNatClampNeg b)) W L I G (updA A 59 (upd (A 59) a.toNatClampNeg b)) B := ⟨⟨hR.1.1, hR.1.2⟩, PE.rf, hR.2.2.1, hR.2.2.2⟩
        have hp2 : MPa nv np (updA A 59 (upd (A 59) a.toNatClampNeg b)) := hp.ov (w := a.toNatClampNeg) (x := b) hok.1.1 (qD.to (by omega) hok.1 hok.2) rfl (fun k k1 => by unfold updA; rw [if_neg k1])
        have hW2 : wInv nv 10000 (K + 1000) (updA A 59 (upd (A 59) a.toNatClampNeg b)) W := (hW.pa rfl).mo (by omega) (by omega)
        refine zWp.mono (mm_hand ro nv np (updA A 59 (upd (A 59) a.toNatClampNeg b)) W L _ _ _ _ (K + 1000) 1 Rz hp2 hW2 (by omega) (by omega)) ?_
        rintro r h1 ⟨I2, G2, A2, B2, rfl, K2, R2, rfl⟩
        refine ⟨_, rfl, ?_⟩
        refine zw_ireturn f146_35 r146 u146 ?_
        exact ⟨_, _, _, _, rfl, (KQ.tr (KQ.a rfl KQ.rf) K2), Or.inr ⟨hok, hp2, hW2, R2, rfl⟩⟩
      · refine zw_aload_n 6 f144_5 rfl rfl ?_
        refine zw_iload_n 7 f144_6 rfl rfl ?_
        refine zw_virtual_i 10 0 0 [.ref 52, .int b] [(0, .ref 52), (1, .int b)] f144_7 rfl n144_215 k144_215_12 rfl (hb_52 _ _ _ _) (by decide +kernel) (Nat.le_of_ble_eq_true rfl) rfl rfl (by decide +kernel) (by decide +kernel) rfl (Nat.le_of_ble_eq_true rfl) rfl ?_
        refine zw_iload_n 1 f123_0 rfl rfl ?_
        refine zw_iconst 0 2 f123_1 rfl (by decide +kernel) ?_
        refine zw_aload_n 3 f123_2 rfl rfl ?_
        refine zw_getI (nI nv) 6 f123_3 rfl g123_114_12 (hb_52 _ _ _ _) rfl hR.1.1 ?_
        refine zw_iconst 1 7 f123_6 rfl (by decide +kernel) ?_
        refine zw_isub ((nI nv) - 1) 8 f123_7 rfl rfl ?_
        refine zw_static_i 11 0 0 [.int b, .int 0, .int ((nI nv) - 1)] [] [(0, .int b), (1, .int 0), (2, .int ((nI nv) - 1))] f123_8 rfl k123_117_99 rfl (by decide +kernel) (Nat.le_of_ble_eq_true rfl) (Nat.le_of_ble_eq_true rfl) rfl rfl (by decide +kernel) (by decide +kernel) rfl (Nat.le_of_ble_eq_true rfl) rfl ?_
        refine zw_iload_n 1 f120_0 rfl rfl ?_
        refine zw_iload_n 2 f120_1 rfl rfl ?_
        refine zw_ic_lt 5 14 f120_2 (by decide +kernel) rfl (fun hc4 => ?_) (fun hc4 => ?_)
        · refine zw_iconst 0 15 f120_14 rfl (by decide +kernel) ?_
          refine zw_zreturn f120_15 r120 u120 (by decide +kernel) ⟨_, rfl, ?_⟩
          refine zw_zreturn f123_11 r123 u123 (by decide +kernel) ⟨_, rfl, ?_⟩
          refine zw_if_eq_t 22 f144_10 (by decide +kernel) (by decide +kernel) ?_
          refine zw_iconst 0 23 f144_22 rfl (by decide +kernel) ?_
          refine zw_zreturn f144_23 r144 u144 (by decide +kernel) ⟨_, rfl, ?_⟩
          refine zw_if_ne_f 17 23 f146_14 (by decide +kernel) rfl (by decide +kernel) ?_
          refine zw_aload_n 18 f146_17 rfl rfl ?_
          refine zw_iconst 1 19 f146_18 rfl (by decide +kernel) ?_
          refine zw_virtual_i 22 0 0 [.ref 52, .int 1] [(0, .ref 52), (1, .int 1)] f146_19 rfl n146_209 k146_209_12 rfl (hb_52 _ _ _ _) (by decide +kernel) (Nat.le_of_ble_eq_true rfl) rfl rfl (by decide +kernel) (by decide +kernel) rfl (Nat.le_of_ble_eq_true rfl) rfl ?_
          refine zw_aload_n 1 f121_0 rfl rfl ?_
          refine zw_iload_n 2 f121_1 rfl rfl ?_
          refine zw_put _ 5 f121_2 rfl g121_111_12 (hb_52 _ _ _ _) rfl (Nat.le_of_ble_eq_true rfl) (by decide +kernel) (hi_52_27 _ _ _ _ _) ?_
          refine zw_iconst (-1) 6 f121_5 rfl (by decide +kernel) ?_
          refine zw_ireturn f121_6 r121 u121 ⟨_, rfl, ?_⟩
          refine zw_ireturn f146_22 r146 u146 ?_
          exact ⟨_, _, _, _, rfl, (KQ.i rfl KQ.rf), Or.inl ⟨(fun q => (fun q => q.elim hc3 (fun z => (qV.n0 (by omega) hc4) z.1)) q.2), (hR.k (pf := fun k j => decide (k = 52 ∧ j = 27)) (pa := fun _ => false) (KQ.i rfl KQ.rf) f27_R (fun _ _ _ => rfl)), rfl⟩⟩
        · refine zw_iload_n 6 f120_5 rfl rfl ?_
          refine zw_iload_n 7 f120_6 rfl rfl ?_
          refine zw_ic_gt 10 14 f120_7 (by decide +kernel) rfl (fun hc5 => ?_) (fun hc5 => ?_)
          · refine zw_iconst 0 15 f120_14 rfl (by decide +kernel) ?_
            refine zw_zreturn f120_15 r120 u120 (by decide +kernel) ⟨_, rfl, ?_⟩
            refine zw_zreturn f123_11 r123 u123 (by decide +kernel) ⟨_, rfl, ?_⟩
            refine zw_if_eq_t 22 f144_10 (by decide +kernel) (by decide +kernel) ?_
            refine zw_iconst 0 23 f144_22 rfl (by decide +kernel) ?_
            refine zw_zreturn f144_23 r144 u144 (by decide +kernel) ⟨_, rfl, ?_⟩
            refine zw_if_ne_f 17 23 f146_14 (by decide +kernel) rfl (by decide +kernel) ?_
            refine zw_aload_n 18 f146_17 rfl rfl ?_
            refine zw_iconst 1 19 f146_18 rfl (by decide +kernel) ?_
            refine zw_virtual_i 22 0 0 [.ref 52, .int 1] [(0, .ref 52), (1, .int 1)] f146_19 rfl n146_209 k146_209_12 rfl (hb_52 _ _ _ _) (by decide +kernel) (Nat.le_of_ble_eq_true rfl) rfl rfl (by decide +kernel) (by decide +kernel) rfl (Nat.le_of_ble_eq_true rfl) rfl ?_
            refine zw_aload_n 1 f121_0 rfl rfl ?_
            refine zw_iload_n 2 f121_1 rfl rfl ?_
            refine zw_put _ 5 f121_2 rfl g121_111_12 (hb_52 _ _ _ _) rfl (Nat.le_of_ble_eq_true rfl) (by decide +kernel) (hi_52_27 _ _ _ _ _) ?_
            refine zw_iconst (-1) 6 f121_5 rfl (by decide +kernel) ?_
            refine zw_ireturn f121_6 r121 u121 ⟨_, rfl, ?_⟩
            refine zw_ireturn f146_22 r146 u146 ?_
            exact ⟨_, _, _, _, rfl, (KQ.i rfl KQ.rf), Or.inl ⟨(fun q => (fun q => q.elim hc3 (fun z => (qV.n1 (by omega) hc5) z.1)) q.2), (hR.k (pf := fun k j => decide (k = 52 ∧ j = 27)) (pa := fun _ => false) (KQ.i rfl KQ.rf) f27_R (fun _ _ _ => rfl)), rfl⟩⟩
          · refine zw_iconst 1 11 f120_10 rfl (by decide +kernel) ?_
            refine zw_goto 15 f120_11 (by decide +kernel) ?_
            refine zw_zreturn f120_15 r120 u120 (by decide +kernel) ⟨_, rfl, ?_⟩
            refine zw_zreturn f123_11 r123 u123 (by decide +kernel) ⟨_, rfl, ?_⟩
            refine zw_if_eq_f 13 22 f144_10 (by decide +kernel) rfl (by decide +kernel) ?_
            refine zw_iload_n 14 f144_13 rfl rfl ?_
            refine zw_iload_n 15 f144_14 rfl rfl ?_
            refine zw_ic_le 18 22 f144_15 (by decide +kernel) rfl (fun hc6 => ?_) (fun hc6 => ?_)
            · refine zw_iconst 0 23 f144_22 rfl (by decide +kernel) ?_
              refine zw_zreturn f144_23 r144 u144 (by decide +kernel) ⟨_, rfl, ?_⟩
              refine zw_if_ne_f 17 23 f146_14 (by decide +kernel) rfl (by decide +kernel) ?_
              refine zw_aload_n 18 f146_17 rfl rfl ?_
              refine zw_iconst 1 19 f146_18 rfl (by decide +kernel) ?_
              refine zw_virtual_i 22 0 0 [.ref 52, .int 1] [(0, .ref 52), (1, .int 1)] f146_19 rfl n146_209 k146_209_12 rfl (hb_52 _ _ _ _) (by decide +kernel) (Nat.le_of_ble_eq_true rfl) rfl rfl (by decide +kernel) (by decide +kernel) rfl (Nat.le_of_ble_eq_true rfl) rfl ?_
              refine zw_aload_n 1 f121_0 rfl rfl ?_
              refine zw_iload_n 2 f121_1 rfl rfl ?_
              refine zw_put _ 5 f121_2 rfl g121_111_12 (hb_52 _ _ _ _) rfl (Nat.le_of_ble_eq_true rfl) (by decide +kernel) (hi_52_27 _ _ _ _ _) ?_
              refine zw_iconst (-1) 6 f121_5 rfl (by decide +kernel) ?_
              refine zw_ireturn f121_6 r121 u121 ⟨_, rfl, ?_⟩
              refine zw_ireturn f146_22 r146 u146 ?_
              exact ⟨_, _, _, _, rfl, (KQ.i rfl KQ.rf), Or.inl ⟨(fun q => (fun q => q.elim hc3 (fun z => z.2 hc6)) q.2), (hR.k (pf := fun k j => decide (k = 52 ∧ j = 27)) (pa := fun _ => false) (KQ.i rfl KQ.rf) f27_R (fun _ _ _ => rfl)), rfl⟩⟩
            · refine zw_iconst 1 19 f144_18 rfl (by decide +kernel) ?_
              refine zw_goto 23 f144_19 (by decide +kernel) ?_
              refine zw_zreturn f144_23 r144 u144 (by decide +kernel) ⟨_, rfl, ?_⟩
              refine zw_if_ne_t 23 f146_14 (by decide +kernel) (by decide +kernel) ?_
              refine zw_aload_n 24 f146_23 rfl rfl ?_
              refine zw_getfield 27 f146_24 rfl g146_28_12 (hb_52 _ _ _ _) rfl ?_
              refine zw_iload_n 28 f146_27 rfl rfl ?_
              refine zw_iload_n 29 f146_28 rfl rfl ?_
              refine zw_ast a.toNatClampNeg _ 30 f146_29 rfl (hb_59 _ _ _ _) rfl hc1 (zix (by decide) hc1 (show ¬ 8 ≤ a from ix_le hp.1 (by decide) (by decide) hc1 hc2)) (ha_59 _ _ _ _ _) ?_
              refine zw_aload_n 31 f146_30 rfl rfl ?_
              refine zw_iconst 1 32 f146_31 rfl (by decide +kernel) ?_
              refine zw_virtual_i 35 0 0 [.ref 52, .int 1] [(0, .ref 52), (1, .int 1)] f146_32 rfl n146_212 k146_212_12 rfl (hb_52 _ _ _ _) (by decide +kernel) (Nat.le_of_ble_eq_true rfl) rfl rfl (by decide +kernel) (by decide +kernel) rfl (Nat.le_of_ble_eq_true rfl) rfl ?_
              have hok : ok_over nv np A a b := ⟨(qV.of (by omega) hc1 hc2), (Or.inr ⟨(qV.of (by omega) hc4 hc5), hc6⟩)⟩
              have Rz : mRS nv np (updA A 59 (upd (A 59) a.toNatClampNeg b)) W L I G (updA A 59 (upd (A 59) a.toNatClampNeg b)) B := ⟨⟨hR.1.1, hR.1.2⟩, PE.rf, hR.2.2.1, hR.2.2.2⟩
              have hp2 : MPa nv np (updA A 59 (upd (A 59) a.toNatClampNeg b)) := hp.ov (w := a.toNatClampNeg) (x := b) hok.1.1 (qD.to (by omega) hok.1 hok.2) rfl (fun k k1 => by unfold updA; rw [if_neg k1])
              have hW2 : wInv nv 10000 (K + 1000) (updA A 59 (upd (A 59) a.toNatClampNeg b)) W := (hW.pa rfl).mo (by omega) (by omega)
              refine zWp.mono (mm_hand ro nv np (updA A 59 (upd (A 59) a.toNatClampNeg b)) W L _ _ _ _ (K + 1000) 1 Rz hp2 hW2 (by omega) (by omega)) ?_
              rintro r h1 ⟨I2, G2, A2, B2, rfl, K2, R2, rfl⟩
              refine ⟨_, rfl, ?_⟩
              refine zw_ireturn f146_35 r146 u146 ?_
              exact ⟨_, _, _, _, rfl, (KQ.tr (KQ.a rfl KQ.rf) K2), Or.inr ⟨hok, hp2, hW2, R2, rfl⟩⟩
def ok_pipe (nv np : Nat) (A : Nat → Nat → Int32) (a : Int32) (b : Int32) (c : Int32) : Prop := (a = -1 ∨ qV nv a) ∧ qD nv a b ∧ ¬ (a = -1 ∧ b = -1) ∧ qRg c 1 20 ∧ ¬ np = 14
set_option maxRecDepth 100000 in
set_option maxHeartbeats 0 in
theorem mm_pipe (ro : UInt32 → Nat × (Nat → Int32)) (nv np : Nat) (W : qW) (L : qLog) (I : Nat → Nat → Int32) (G : Nat → Nat → Int64) (A : Nat → Nat → Int32) (B : Nat → Nat → Int64) (K : Int) (hR : mRS nv np A W L I G A B) (hp : MPa nv np A) (hW : wInv nv 10000 K A W) (hK0 : 0 ≤ K) (hK : K ≤ 199000000) (hn : L.1 < 900000000) (a : Int32) (b : Int32) (c : Int32) : zWp ro 147 0 [(0, .ref 52), (1, .int a), (2, .int b), (3, .int c)] [] (hS I G A B) 0 0 (fun r h1 => ∃ I2 G2 A2 B2, h1 = hS I2 G2 A2 B2 ∧ KQ fHn pHn I G A B I2 G2 A2 B2 ∧ ((¬ ok_pipe nv np A a b c ∧ mRS nv np A W L I2 G2 A2 B2 ∧ r = some (.int (-1))) ∨ (ok_pipe nv np A a b c ∧ MPa nv (np + 1) (updA (updA (updA A 60 (upd (A 60) np a)) 61 (upd ((updA A 60 (upd (A 60) np a)) 61) np b)) 62 (upd ((updA (updA A 60 (upd (A 60) np a)) 61 (upd ((updA A 60 (upd (A 60) np a)) 61) np b)) 62) np c)) ∧ wInv nv 10000 (K + 1000) (updA (updA (updA A 60 (upd (A 60) np a)) 61 (upd ((updA A 60 (upd (A 60) np a)) 61) np b)) 62 (upd ((updA (updA A 60 (upd (A 60) np a)) 61 (upd ((updA A 60 (upd (A 60) np a)) 61) np b)) 62) np c)) (wOpn np 1 W) ∧ mRS nv (np + 1) (updA (updA (updA A 60 (upd (A 60) np a)) 61 (upd ((updA A 60 (upd (A 60) np a)) 61) np b)) 62 (upd ((updA (updA A 60 (upd (A 60) np a)) 61 (upd ((updA A 60 (upd (A 60) np a)) 61) np b)) 62) np c)) (wMom nv (updA (updA (updA A 60 (upd (A 60) np a)) 61 (upd ((updA A 60 (upd (A 60) np a)) 61) np b)) 62 (upd ((updA (updA A 60 (upd (A 60) np a)) 61 (upd ((updA A 60 (upd (A 60) np a)) 61) np b)) 62) np c)) (wOpn np 1 W)) (qNotes (I 52 22) (wOpn np 1 W).2.1 (wOpn np 1 W).1 (I 52 41) L (wEv nv (updA (updA (updA A 60 (upd (A 60) np a)) 61 (upd ((updA A 60 (upd (A 60) np a)) 61) np b)) 62 (upd ((updA (updA A 60 (upd (A 60) np a)) 61 (upd ((updA A 60 (upd (A 60) np a)) 61) np b)) 62) np c)) (wOpn np 1 W))) I2 G2 A2 B2 ∧ r = some (.int (nI np))))) := by
  have h8 := hp.1
  have h14 := hp.2.1
  refine zw_iload_n 1 f147_0 rfl rfl ?_
  refine zw_iconst (-1) 2 f147_1 rfl (by decide +kernel) ?_
  refine zw_ic_eq 5 13 f147_2 (by decide +kernel) rfl (fun hc1 => ?_) (fun hc1 => ?_)
  · refine zw_aload_n 14 f147_13 rfl rfl ?_
    refine zw_iload_n 15 f147_14 rfl rfl ?_
    refine zw_iload_n 16 f147_15 rfl rfl ?_
    refine zw_virtual_i 19 0 0 [.ref 52, .int a, .int b] [(0, .ref 52), (1, .int a), (2, .int b)] f147_16 rfl n147_221 k147_221_12 rfl (hb_52 _ _ _ _) (by decide +kernel) (Nat.le_of_ble_eq_true rfl) rfl rfl (by decide +kernel) (by decide +kernel) rfl (Nat.le_of_ble_eq_true rfl) rfl ?_
    refine zw_iload_n 1 f144_0 rfl rfl ?_
    refine zw_iconst (-1) 2 f144_1 rfl (by decide +kernel) ?_
    refine zw_ic_eq 5 18 f144_2 (by decide +kernel) rfl (fun hc2 => ?_) (fun hc2 => ?_)
    · refine zw_iconst 1 19 f144_18 rfl (by decide +kernel) ?_
      refine zw_goto 23 f144_19 (by decide +kernel) ?_
      refine zw_zreturn f144_23 r144 u144 (by decide +kernel) ⟨_, rfl, ?_⟩
      refine zw_if_eq_f 22 46 f147_19 (by decide +kernel) rfl (by decide +kernel) ?_
      refine zw_iload_n 23 f147_22 rfl rfl ?_
      refine zw_iconst (-1) 24 f147_23 rfl (by decide +kernel) ?_
      refine zw_ic_ne_f 27 32 f147_24 (by decide +kernel) rfl (fun q => q hc1) ?_
      refine zw_iload_n 28 f147_27 rfl rfl ?_
      refine zw_iconst (-1) 29 f147_28 rfl (by decide +kernel) ?_
      refine zw_ic_eq_t 46 f147_29 (by decide +kernel) hc2 ?_
      refine zw_iconst 0 47 f147_46 rfl (by decide +kernel) ?_
      refine zw_istore _ 49 f147_47 rfl (by decide +kernel) rfl ?_
      refine zw_iload 51 f147_49 rfl zl1_eq ?_
      refine zw_if_ne_f 54 60 f147_51 (by decide +kernel) rfl (by decide +kernel) ?_
      refine zw_aload_n 55 f147_54 rfl (zl1_ne rfl rfl rfl) ?_
      refine zw_iconst 1 56 f147_55 rfl (by decide +kernel) ?_
      refine zw_virtual_i 59 0 0 [.ref 52, .int 1] [(0, .ref 52), (1, .int 1)] f147_56 rfl n147_209 k147_209_12 rfl (hb_52 _ _ _ _) (by decide +kernel) (Nat.le_of_ble_eq_true rfl) rfl rfl (by decide +kernel) (by decide +kernel) rfl (Nat.le_of_ble_eq_true rfl) rfl ?_
      refine zw_aload_n 1 f121_0 rfl rfl ?_
      refine zw_iload_n 2 f121_1 rfl rfl ?_
      refine zw_put _ 5 f121_2 rfl g121_111_12 (hb_52 _ _ _ _) rfl (Nat.le_of_ble_eq_true rfl) (by decide +kernel) (hi_52_27 _ _ _ _ _) ?_
      refine zw_iconst (-1) 6 f121_5 rfl (by decide +kernel) ?_
      refine zw_ireturn f121_6 r121 u121 ⟨_, rfl, ?_⟩
      refine zw_ireturn f147_59 r147 u147 ?_
      exact ⟨_, _, _, _, rfl, (KQ.i rfl KQ.rf), Or.inl ⟨(fun q => (fun q => q ⟨hc1, hc2⟩) q.2.2.1), (hR.k (pf := fun k j => decide (k = 52 ∧ j = 27)) (pa := fun _ => false) (KQ.i rfl KQ.rf) f27_R (fun _ _ _ => rfl)), rfl⟩⟩
    · refine zw_aload_n 6 f144_5 rfl rfl ?_
      refine zw_iload_n 7 f144_6 rfl rfl ?_
      refine zw_virtual_i 10 0 0 [.ref 52, .int b] [(0, .ref 52), (1, .int b)] f144_7 rfl n144_215 k144_215_12 rfl (hb_52 _ _ _ _) (by decide +kernel) (Nat.le_of_ble_eq_true rfl) rfl rfl (by decide +kernel) (by decide +kernel) rfl (Nat.le_of_ble_eq_true rfl) rfl ?_
      refine zw_iload_n 1 f123_0 rfl rfl ?_
      refine zw_iconst 0 2 f123_1 rfl (by decide +kernel) ?_
      refine zw_aload_n 3 f123_2 rfl rfl ?_
      refine zw_getI (nI nv) 6 f123_3 rfl g123_114_12 (hb_52 _ _ _ _) rfl hR.1.1 ?_
      refine zw_iconst 1 7 f123_6 rfl (by decide +kernel) ?_
      refine zw_isub ((nI nv) - 1) 8 f123_7 rfl rfl ?_
      refine zw_static_i 11 0 0 [.int b, .int 0, .int ((nI nv) - 1)] [] [(0, .int b), (1, .int 0), (2, .int ((nI nv) - 1))] f123_8 rfl k123_117_99 rfl (by decide +kernel) (Nat.le_of_ble_eq_true rfl) (Nat.le_of_ble_eq_true rfl) rfl rfl (by decide +kernel) (by decide +kernel) rfl (Nat.le_of_ble_eq_true rfl) rfl ?_
      refine zw_iload_n 1 f120_0 rfl rfl ?_
      refine zw_iload_n 2 f120_1 rfl rfl ?_
      refine zw_ic_lt 5 14 f120_2 (by decide +kernel) rfl (fun hc3 => ?_) (fun hc3 => ?_)
      · refine zw_iconst 0 15 f120_14 rfl (by decide +kernel) ?_
        refine zw_zreturn f120_15 r120 u120 (by decide +kernel) ⟨_, rfl, ?_⟩
        refine zw_zreturn f123_11 r123 u123 (by decide +kernel) ⟨_, rfl, ?_⟩
        refine zw_if_eq_t 22 f144_10 (by decide +kernel) (by decide +kernel) ?_
        refine zw_iconst 0 23 f144_22 rfl (by decide +kernel) ?_
        refine zw_zreturn f144_23 r144 u144 (by decide +kernel) ⟨_, rfl, ?_⟩
        refine zw_if_eq_t 46 f147_19 (by decide +kernel) (by decide +kernel) ?_
        refine zw_iconst 0 47 f147_46 rfl (by decide +kernel) ?_
        refine zw_istore _ 49 f147_47 rfl (by decide +kernel) rfl ?_
        refine zw_iload 51 f147_49 rfl zl1_eq ?_
        refine zw_if_ne_f 54 60 f147_51 (by decide +kernel) rfl (by decide +kernel) ?_
        refine zw_aload_n 55 f147_54 rfl (zl1_ne rfl rfl rfl) ?_
        refine zw_iconst 1 56 f147_55 rfl (by decide +kernel) ?_
        refine zw_virtual_i 59 0 0 [.ref 52, .int 1] [(0, .ref 52), (1, .int 1)] f147_56 rfl n147_209 k147_209_12 rfl (hb_52 _ _ _ _) (by decide +kernel) (Nat.le_of_ble_eq_true rfl) rfl rfl (by decide +kernel) (by decide +kernel) rfl (Nat.le_of_ble_eq_true rfl) rfl ?_
        refine zw_aload_n 1 f121_0 rfl rfl ?_
        refine zw_iload_n 2 f121_1 rfl rfl ?_
        refine zw_put _ 5 f121_2 rfl g121_111_12 (hb_52 _ _ _ _) rfl (Nat.le_of_ble_eq_true rfl) (by decide +kernel) (hi_52_27 _ _ _ _ _) ?_
        refine zw_iconst (-1) 6 f121_5 rfl (by decide +kernel) ?_
        refine zw_ireturn f121_6 r121 u121 ⟨_, rfl, ?_⟩
        refine zw_ireturn f147_59 r147 u147 ?_
        exact ⟨_, _, _, _, rfl, (KQ.i rfl KQ.rf), Or.inl ⟨(fun q => (fun q => q.elim hc2 (fun z => (qV.n0 (by omega) hc3) z.1)) q.2.1), (hR.k (pf := fun k j => decide (k = 52 ∧ j = 27)) (pa := fun _ => false) (KQ.i rfl KQ.rf) f27_R (fun _ _ _ => rfl)), rfl⟩⟩
      · refine zw_iload_n 6 f120_5 rfl rfl ?_
        refine zw_iload_n 7 f120_6 rfl rfl ?_
        refine zw_ic_gt 10 14 f120_7 (by decide +kernel) rfl (fun hc4 => ?_) (fun hc4 => ?_)
        · refine zw_iconst 0 15 f120_14 rfl (by decide +kernel) ?_
          refine zw_zreturn f120_15 r120 u120 (by decide +kernel) ⟨_, rfl, ?_⟩
          refine zw_zreturn f123_11 r123 u123 (by decide +kernel) ⟨_, rfl, ?_⟩
          refine zw_if_eq_t 22 f144_10 (by decide +kernel) (by decide +kernel) ?_
          refine zw_iconst 0 23 f144_22 rfl (by decide +kernel) ?_
          refine zw_zreturn f144_23 r144 u144 (by decide +kernel) ⟨_, rfl, ?_⟩
          refine zw_if_eq_t 46 f147_19 (by decide +kernel) (by decide +kernel) ?_
          refine zw_iconst 0 47 f147_46 rfl (by decide +kernel) ?_
          refine zw_istore _ 49 f147_47 rfl (by decide +kernel) rfl ?_
          refine zw_iload 51 f147_49 rfl zl1_eq ?_
          refine zw_if_ne_f 54 60 f147_51 (by decide +kernel) rfl (by decide +kernel) ?_
          refine zw_aload_n 55 f147_54 rfl (zl1_ne rfl rfl rfl) ?_
          refine zw_iconst 1 56 f147_55 rfl (by decide +kernel) ?_
          refine zw_virtual_i 59 0 0 [.ref 52, .int 1] [(0, .ref 52), (1, .int 1)] f147_56 rfl n147_209 k147_209_12 rfl (hb_52 _ _ _ _) (by decide +kernel) (Nat.le_of_ble_eq_true rfl) rfl rfl (by decide +kernel) (by decide +kernel) rfl (Nat.le_of_ble_eq_true rfl) rfl ?_
          refine zw_aload_n 1 f121_0 rfl rfl ?_
          refine zw_iload_n 2 f121_1 rfl rfl ?_
          refine zw_put _ 5 f121_2 rfl g121_111_12 (hb_52 _ _ _ _) rfl (Nat.le_of_ble_eq_true rfl) (by decide +kernel) (hi_52_27 _ _ _ _ _) ?_
          refine zw_iconst (-1) 6 f121_5 rfl (by decide +kernel) ?_
          refine zw_ireturn f121_6 r121 u121 ⟨_, rfl, ?_⟩
          refine zw_ireturn f147_59 r147 u147 ?_
          exact ⟨_, _, _, _, rfl, (KQ.i rfl KQ.rf), Or.inl ⟨(fun q => (fun q => q.elim hc2 (fun z => (qV.n1 (by omega) hc4) z.1)) q.2.1), (hR.k (pf := fun k j => decide (k = 52 ∧ j = 27)) (pa := fun _ => false) (KQ.i rfl KQ.rf) f27_R (fun _ _ _ => rfl)), rfl⟩⟩
        · refine zw_iconst 1 11 f120_10 rfl (by decide +kernel) ?_
          refine zw_goto 15 f120_11 (by decide +kernel) ?_
          refine zw_zreturn f120_15 r120 u120 (by decide +kernel) ⟨_, rfl, ?_⟩
          refine zw_zreturn f123_11 r123 u123 (by decide +kernel) ⟨_, rfl, ?_⟩
          refine zw_if_eq_f 13 22 f144_10 (by decide +kernel) rfl (by decide +kernel) ?_
          refine zw_iload_n 14 f144_13 rfl rfl ?_
          refine zw_iload_n 15 f144_14 rfl rfl ?_
          refine zw_ic_le 18 22 f144_15 (by decide +kernel) rfl (fun hc5 => ?_) (fun hc5 => ?_)
          · refine zw_iconst 0 23 f144_22 rfl (by decide +kernel) ?_
            refine zw_zreturn f144_23 r144 u144 (by decide +kernel) ⟨_, rfl, ?_⟩
            refine zw_if_eq_t 46 f147_19 (by decide +kernel) (by decide +kernel) ?_
            refine zw_iconst 0 47 f147_46 rfl (by decide +kernel) ?_
            refine zw_istore _ 49 f147_47 rfl (by decide +kernel) rfl ?_
            refine zw_iload 51 f147_49 rfl zl1_eq ?_
            refine zw_if_ne_f 54 60 f147_51 (by decide +kernel) rfl (by decide +kernel) ?_
            refine zw_aload_n 55 f147_54 rfl (zl1_ne rfl rfl rfl) ?_
            refine zw_iconst 1 56 f147_55 rfl (by decide +kernel) ?_
            refine zw_virtual_i 59 0 0 [.ref 52, .int 1] [(0, .ref 52), (1, .int 1)] f147_56 rfl n147_209 k147_209_12 rfl (hb_52 _ _ _ _) (by decide +kernel) (Nat.le_of_ble_eq_true rfl) rfl rfl (by decide +kernel) (by decide +kernel) rfl (Nat.le_of_ble_eq_true rfl) rfl ?_
            refine zw_aload_n 1 f121_0 rfl rfl ?_
            refine zw_iload_n 2 f121_1 rfl rfl ?_
            refine zw_put _ 5 f121_2 rfl g121_111_12 (hb_52 _ _ _ _) rfl (Nat.le_of_ble_eq_true rfl) (by decide +kernel) (hi_52_27 _ _ _ _ _) ?_
            refine zw_iconst (-1) 6 f121_5 rfl (by decide +kernel) ?_
            refine zw_ireturn f121_6 r121 u121 ⟨_, rfl, ?_⟩
            refine zw_ireturn f147_59 r147 u147 ?_
            exact ⟨_, _, _, _, rfl, (KQ.i rfl KQ.rf), Or.inl ⟨(fun q => (fun q => q.elim hc2 (fun z => z.2 hc5)) q.2.1), (hR.k (pf := fun k j => decide (k = 52 ∧ j = 27)) (pa := fun _ => false) (KQ.i rfl KQ.rf) f27_R (fun _ _ _ => rfl)), rfl⟩⟩
          · refine zw_iconst 1 19 f144_18 rfl (by decide +kernel) ?_
            refine zw_goto 23 f144_19 (by decide +kernel) ?_
            refine zw_zreturn f144_23 r144 u144 (by decide +kernel) ⟨_, rfl, ?_⟩
            refine zw_if_eq_f 22 46 f147_19 (by decide +kernel) rfl (by decide +kernel) ?_
            refine zw_iload_n 23 f147_22 rfl rfl ?_
            refine zw_iconst (-1) 24 f147_23 rfl (by decide +kernel) ?_
            refine zw_ic_ne_f 27 32 f147_24 (by decide +kernel) rfl (fun q => q hc1) ?_
            refine zw_iload_n 28 f147_27 rfl rfl ?_
            refine zw_iconst (-1) 29 f147_28 rfl (by decide +kernel) ?_
            refine zw_ic_eq_f 32 46 f147_29 (by decide +kernel) rfl hc2 ?_
            refine zw_iload_n 33 f147_32 rfl rfl ?_
            refine zw_iconst 1 34 f147_33 rfl (by decide +kernel) ?_
            refine zw_bipush 20 36 f147_34 rfl (by decide +kernel) ?_
            refine zw_static_i 39 0 0 [.int c, .int 1, .int 20] [] [(0, .int c), (1, .int 1), (2, .int 20)] f147_36 rfl k147_117_99 rfl (by decide +kernel) (Nat.le_of_ble_eq_true rfl) (Nat.le_of_ble_eq_true rfl) rfl rfl (by decide +kernel) (by decide +kernel) rfl (Nat.le_of_ble_eq_true rfl) rfl ?_
            refine zw_iload_n 1 f120_0 rfl rfl ?_
            refine zw_iload_n 2 f120_1 rfl rfl ?_
            refine zw_ic_lt 5 14 f120_2 (by decide +kernel) rfl (fun hc6 => ?_) (fun hc6 => ?_)
            · refine zw_iconst 0 15 f120_14 rfl (by decide +kernel) ?_
              refine zw_zreturn f120_15 r120 u120 (by decide +kernel) ⟨_, rfl, ?_⟩
              refine zw_if_eq_t 46 f147_39 (by decide +kernel) (by decide +kernel) ?_
              refine zw_iconst 0 47 f147_46 rfl (by decide +kernel) ?_
              refine zw_istore _ 49 f147_47 rfl (by decide +kernel) rfl ?_
              refine zw_iload 51 f147_49 rfl zl1_eq ?_
              refine zw_if_ne_f 54 60 f147_51 (by decide +kernel) rfl (by decide +kernel) ?_
              refine zw_aload_n 55 f147_54 rfl (zl1_ne rfl rfl rfl) ?_
              refine zw_iconst 1 56 f147_55 rfl (by decide +kernel) ?_
              refine zw_virtual_i 59 0 0 [.ref 52, .int 1] [(0, .ref 52), (1, .int 1)] f147_56 rfl n147_209 k147_209_12 rfl (hb_52 _ _ _ _) (by decide +kernel) (Nat.le_of_ble_eq_true rfl) rfl rfl (by decide +kernel) (by decide +kernel) rfl (Nat.le_of_ble_eq_true rfl) rfl ?_
              refine zw_aload_n 1 f121_0 rfl rfl ?_
              refine zw_iload_n 2 f121_1 rfl rfl ?_
              refine zw_put _ 5 f121_2 rfl g121_111_12 (hb_52 _ _ _ _) rfl (Nat.le_of_ble_eq_true rfl) (by decide +kernel) (hi_52_27 _ _ _ _ _) ?_
              refine zw_iconst (-1) 6 f121_5 rfl (by decide +kernel) ?_
              refine zw_ireturn f121_6 r121 u121 ⟨_, rfl, ?_⟩
              refine zw_ireturn f147_59 r147 u147 ?_
              exact ⟨_, _, _, _, rfl, (KQ.i rfl KQ.rf), Or.inl ⟨(fun q => (fun q => q.1 hc6) q.2.2.2.1), (hR.k (pf := fun k j => decide (k = 52 ∧ j = 27)) (pa := fun _ => false) (KQ.i rfl KQ.rf) f27_R (fun _ _ _ => rfl)), rfl⟩⟩
            · refine zw_iload_n 6 f120_5 rfl rfl ?_
              refine zw_iload_n 7 f120_6 rfl rfl ?_
              refine zw_ic_gt 10 14 f120_7 (by decide +kernel) rfl (fun hc7 => ?_) (fun hc7 => ?_)
              · refine zw_iconst 0 15 f120_14 rfl (by decide +kernel) ?_
                refine zw_zreturn f120_15 r120 u120 (by decide +kernel) ⟨_, rfl, ?_⟩
                refine zw_if_eq_t 46 f147_39 (by decide +kernel) (by decide +kernel) ?_
                refine zw_iconst 0 47 f147_46 rfl (by decide +kernel) ?_
                refine zw_istore _ 49 f147_47 rfl (by decide +kernel) rfl ?_
                refine zw_iload 51 f147_49 rfl zl1_eq ?_
                refine zw_if_ne_f 54 60 f147_51 (by decide +kernel) rfl (by decide +kernel) ?_
                refine zw_aload_n 55 f147_54 rfl (zl1_ne rfl rfl rfl) ?_
                refine zw_iconst 1 56 f147_55 rfl (by decide +kernel) ?_
                refine zw_virtual_i 59 0 0 [.ref 52, .int 1] [(0, .ref 52), (1, .int 1)] f147_56 rfl n147_209 k147_209_12 rfl (hb_52 _ _ _ _) (by decide +kernel) (Nat.le_of_ble_eq_true rfl) rfl rfl (by decide +kernel) (by decide +kernel) rfl (Nat.le_of_ble_eq_true rfl) rfl ?_
                refine zw_aload_n 1 f121_0 rfl rfl ?_
                refine zw_iload_n 2 f121_1 rfl rfl ?_
                refine zw_put _ 5 f121_2 rfl g121_111_12 (hb_52 _ _ _ _) rfl (Nat.le_of_ble_eq_true rfl) (by decide +kernel) (hi_52_27 _ _ _ _ _) ?_
                refine zw_iconst (-1) 6 f121_5 rfl (by decide +kernel) ?_
                refine zw_ireturn f121_6 r121 u121 ⟨_, rfl, ?_⟩
                refine zw_ireturn f147_59 r147 u147 ?_
                exact ⟨_, _, _, _, rfl, (KQ.i rfl KQ.rf), Or.inl ⟨(fun q => (fun q => q.2 hc7) q.2.2.2.1), (hR.k (pf := fun k j => decide (k = 52 ∧ j = 27)) (pa := fun _ => false) (KQ.i rfl KQ.rf) f27_R (fun _ _ _ => rfl)), rfl⟩⟩
              · refine zw_iconst 1 11 f120_10 rfl (by decide +kernel) ?_
                refine zw_goto 15 f120_11 (by decide +kernel) ?_
                refine zw_zreturn f120_15 r120 u120 (by decide +kernel) ⟨_, rfl, ?_⟩
                refine zw_if_eq_f 42 46 f147_39 (by decide +kernel) rfl (by decide +kernel) ?_
                refine zw_iconst 1 43 f147_42 rfl (by decide +kernel) ?_
                refine zw_goto 47 f147_43 (by decide +kernel) ?_
                refine zw_istore _ 49 f147_47 rfl (by decide +kernel) rfl ?_
                refine zw_iload 51 f147_49 rfl zl1_eq ?_
                refine zw_if_ne_t 60 f147_51 (by decide +kernel) (by decide +kernel) ?_
                refine zw_aload_n 61 f147_60 rfl (zl1_ne rfl rfl rfl) ?_
                refine zw_getI (nI np) 64 f147_61 rfl g147_121_12 (hb_52 _ _ _ _) rfl hR.1.2 ?_
                refine zw_bipush 14 66 f147_64 rfl (by decide +kernel) ?_
                refine zw_ic_ne 69 75 f147_66 (by decide +kernel) rfl (fun hc8 => ?_) (fun hc8 => ?_)
                · have hl14 : np < 14 := nI_l14 h14 hc8
                  refine zw_aload_n 76 f147_75 rfl (zl1_ne rfl rfl rfl) ?_
                  refine zw_getI (nI np) 79 f147_76 rfl g147_121_12 (hb_52 _ _ _ _) rfl hR.1.2 ?_
                  refine zw_istore _ 81 f147_79 rfl (by decide +kernel) rfl ?_
                  refine zw_aload_n 82 f147_81 rfl (zl1_ne rfl rfl (zl1_ne rfl rfl rfl)) ?_
                  refine zw_dup 83 f147_82 rfl rfl ?_
                  refine zw_getI (nI np) 86 f147_83 rfl g147_121_12 (hb_52 _ _ _ _) rfl hR.1.2 ?_
                  refine zw_iconst 1 87 f147_86 rfl (by decide +kernel) ?_
                  refine zw_iadd (nI (np + 1)) 88 f147_87 rfl (nI_add _ 1) ?_
                  refine zw_put _ 91 f147_88 rfl g147_121_12 (hb_52 _ _ _ _) rfl (Nat.le_of_ble_eq_true rfl) (by decide +kernel) (hi_52_8 _ _ _ _ _) ?_
                  refine zw_aload_n 92 f147_91 rfl (zl1_ne rfl rfl (zl1_ne rfl rfl rfl)) ?_
                  refine zw_getfield 95 f147_92 rfl g147_31_12 (hb_52 _ _ _ _) rfl ?_
                  refine zw_iload 97 f147_95 rfl zl1_eq ?_
                  refine zw_iload_n 98 f147_97 rfl (zl1_ne rfl rfl (zl1_ne rfl rfl rfl)) ?_
                  refine zw_ast np _ 99 f147_98 rfl (hb_60 _ _ _ _) (nI_clamp (by omega)) (nI_pos (by omega)) (by omega) (ha_60 _ _ _ _ _) ?_
                  refine zw_aload_n 100 f147_99 rfl (zl1_ne rfl rfl (zl1_ne rfl rfl rfl)) ?_
                  refine zw_getfield 103 f147_100 rfl g147_34_12 (hb_52 _ _ _ _) rfl ?_
                  refine zw_iload 105 f147_103 rfl zl1_eq ?_
                  refine zw_iload_n 106 f147_105 rfl (zl1_ne rfl rfl (zl1_ne rfl rfl rfl)) ?_
                  refine zw_ast np _ 107 f147_106 rfl (hb_61 _ _ _ _) (nI_clamp (by omega)) (nI_pos (by omega)) (by omega) (ha_61 _ _ _ _ _) ?_
                  refine zw_aload_n 108 f147_107 rfl (zl1_ne rfl rfl (zl1_ne rfl rfl rfl)) ?_
                  refine zw_getfield 111 f147_108 rfl g147_37_12 (hb_52 _ _ _ _) rfl ?_
                  refine zw_iload 113 f147_111 rfl zl1_eq ?_
                  refine zw_iload_n 114 f147_113 rfl (zl1_ne rfl rfl (zl1_ne rfl rfl rfl)) ?_
                  refine zw_ast np _ 115 f147_114 rfl (hb_62 _ _ _ _) (nI_clamp (by omega)) (nI_pos (by omega)) (by omega) (ha_62 _ _ _ _ _) ?_
                  refine zw_aload_n 116 f147_115 rfl (zl1_ne rfl rfl (zl1_ne rfl rfl rfl)) ?_
                  refine zw_getfield 119 f147_116 rfl g147_48_12 (hb_52 _ _ _ _) rfl ?_
                  refine zw_iload 121 f147_119 rfl zl1_eq ?_
                  refine zw_iconst 1 122 f147_121 rfl (by decide +kernel) ?_
                  refine zw_bst np _ 123 f147_122 rfl (hb_64 _ _ _ _) (nI_clamp (by omega)) (nI_pos (by omega)) (by omega) (ha_64 _ _ _ _ _) ?_
                  refine zw_aload_n 124 f147_123 rfl (zl1_ne rfl rfl (zl1_ne rfl rfl rfl)) ?_
                  refine zw_iload 126 f147_124 rfl zl1_eq ?_
                  refine zw_virtual_i 129 0 0 [.ref 52, .int (nI np)] [(0, .ref 52), (1, .int (nI np))] f147_126 rfl n147_212 k147_212_12 rfl (hb_52 _ _ _ _) (by decide +kernel) (Nat.le_of_ble_eq_true rfl) rfl rfl (by decide +kernel) (by decide +kernel) rfl (Nat.le_of_ble_eq_true rfl) rfl ?_
                  have hok : ok_pipe nv np A a b c := ⟨(Or.inl hc1), (Or.inr ⟨(qV.of (by omega) hc3 hc4), hc5⟩), (fun q => hc2 q.2), ⟨hc6, hc7⟩, (fun q => hc8 (by rw [q]; decide))⟩
                  have Rz : mRS nv (np + 1) (updA (updA (updA A 60 (upd (A 60) np a)) 61 (upd ((updA A 60 (upd (A 60) np a)) 61) np b)) 62 (upd ((updA (updA A 60 (upd (A 60) np a)) 61 (upd ((updA A 60 (upd (A 60) np a)) 61) np b)) 62) np c)) (wOpn np 1 W) L (upd2 I 52 8 (nI (np + 1))) G (updA (updA (updA (updA A 60 (upd (A 60) np a)) 61 (upd ((updA A 60 (upd (A 60) np a)) 61) np b)) 62 (upd ((updA (updA A 60 (upd (A 60) np a)) 61 (upd ((updA A 60 (upd (A 60) np a)) 61) np b)) 62) np c)) 64 (upd ((updA (updA (updA A 60 (upd (A 60) np a)) 61 (upd ((updA A 60 (upd (A 60) np a)) 61) np b)) 62 (upd ((updA (updA A 60 (upd (A 60) np a)) 61 (upd ((updA A 60 (upd (A 60) np a)) 61) np b)) 62) np c)) 64) np (vp_nar .boolean 1))) B := ⟨⟨hR.1.1, rfl⟩, (fun k k1 k2 => if_neg (show ¬ k = 64 by omega)), wOpn_r hR rfl rfl rfl rfl rfl rfl (by rw [← vnar_1]; rfl) rfl, hR.2.2.2⟩
                  have hp14 := hl14
                  have hp2 : MPa nv (np + 1) (updA (updA (updA A 60 (upd (A 60) np a)) 61 (upd ((updA A 60 (upd (A 60) np a)) 61) np b)) 62 (upd ((updA (updA A 60 (upd (A 60) np a)) 61 (upd ((updA A 60 (upd (A 60) np a)) 61) np b)) 62) np c)) := hp.pi (f := a) (t := b) (a := c) hp14 (qRg.i (by decide) (by decide) hok.2.2.2.1) (qD.to0 hok.2.1) (Or.inl hc1) rfl rfl rfl (fun k k1 => (if_neg (by omega)).trans ((if_neg (by omega)).trans (if_neg (by omega))))
                  have hW2 : wInv nv 10000 (K + 1000) (updA (updA (updA A 60 (upd (A 60) np a)) 61 (upd ((updA A 60 (upd (A 60) np a)) 61) np b)) 62 (upd ((updA (updA A 60 (upd (A 60) np a)) 61 (upd ((updA A 60 (upd (A 60) np a)) 61) np b)) 62) np c)) (wOpn np 1 W) := ((hW.pa rfl).op hp14 (Or.inr rfl)).mo (by omega) (by omega)
                  refine zWp.mono (mm_hand ro nv (np + 1) (updA (updA (updA A 60 (upd (A 60) np a)) 61 (upd ((updA A 60 (upd (A 60) np a)) 61) np b)) 62 (upd ((updA (updA A 60 (upd (A 60) np a)) 61 (upd ((updA A 60 (upd (A 60) np a)) 61) np b)) 62) np c)) (wOpn np 1 W) L _ _ _ _ (K + 1000) (nI np) Rz hp2 hW2 (by omega) (by omega)) ?_
                  rintro r h1 ⟨I2, G2, A2, B2, rfl, K2, R2, rfl⟩
                  refine ⟨_, rfl, ?_⟩
                  refine zw_ireturn f147_129 r147 u147 ?_
                  exact ⟨_, _, _, _, rfl, (KQ.tr (KQ.a rfl (KQ.a rfl (KQ.a rfl (KQ.a rfl (KQ.i rfl KQ.rf))))) K2), Or.inr ⟨hok, hp2, hW2, R2, rfl⟩⟩
                · refine zw_aload_n 70 f147_69 rfl (zl1_ne rfl rfl rfl) ?_
                  refine zw_iconst 2 71 f147_70 rfl (by decide +kernel) ?_
                  refine zw_virtual_i 74 0 0 [.ref 52, .int 2] [(0, .ref 52), (1, .int 2)] f147_71 rfl n147_209 k147_209_12 rfl (hb_52 _ _ _ _) (by decide +kernel) (Nat.le_of_ble_eq_true rfl) rfl rfl (by decide +kernel) (by decide +kernel) rfl (Nat.le_of_ble_eq_true rfl) rfl ?_
                  refine zw_aload_n 1 f121_0 rfl rfl ?_
                  refine zw_iload_n 2 f121_1 rfl rfl ?_
                  refine zw_put _ 5 f121_2 rfl g121_111_12 (hb_52 _ _ _ _) rfl (Nat.le_of_ble_eq_true rfl) (by decide +kernel) (hi_52_27 _ _ _ _ _) ?_
                  refine zw_iconst (-1) 6 f121_5 rfl (by decide +kernel) ?_
                  refine zw_ireturn f121_6 r121 u121 ⟨_, rfl, ?_⟩
                  refine zw_ireturn f147_74 r147 u147 ?_
                  exact ⟨_, _, _, _, rfl, (KQ.i rfl KQ.rf), Or.inl ⟨(fun q => (fun q => q (nI_14 (by omega) (Decidable.of_not_not hc8))) q.2.2.2.2), (hR.k (pf := fun k j => decide (k = 52 ∧ j = 27)) (pa := fun _ => false) (KQ.i rfl KQ.rf) f27_R (fun _ _ _ => rfl)), rfl⟩⟩
  · refine zw_aload_n 6 f147_5 rfl rfl ?_
    refine zw_iload_n 7 f147_6 rfl rfl ?_
    refine zw_virtual_i 10 0 0 [.ref 52, .int a] [(0, .ref 52), (1, .int a)] f147_7 rfl n147_215 k147_215_12 rfl (hb_52 _ _ _ _) (by decide +kernel) (Nat.le_of_ble_eq_true rfl) rfl rfl (by decide +kernel) (by decide +kernel) rfl (Nat.le_of_ble_eq_true rfl) rfl ?_
    refine zw_iload_n 1 f123_0 rfl rfl ?_
    refine zw_iconst 0 2 f123_1 rfl (by decide +kernel) ?_
    refine zw_aload_n 3 f123_2 rfl rfl ?_
    refine zw_getI (nI nv) 6 f123_3 rfl g123_114_12 (hb_52 _ _ _ _) rfl hR.1.1 ?_
    refine zw_iconst 1 7 f123_6 rfl (by decide +kernel) ?_
    refine zw_isub ((nI nv) - 1) 8 f123_7 rfl rfl ?_
    refine zw_static_i 11 0 0 [.int a, .int 0, .int ((nI nv) - 1)] [] [(0, .int a), (1, .int 0), (2, .int ((nI nv) - 1))] f123_8 rfl k123_117_99 rfl (by decide +kernel) (Nat.le_of_ble_eq_true rfl) (Nat.le_of_ble_eq_true rfl) rfl rfl (by decide +kernel) (by decide +kernel) rfl (Nat.le_of_ble_eq_true rfl) rfl ?_
    refine zw_iload_n 1 f120_0 rfl rfl ?_
    refine zw_iload_n 2 f120_1 rfl rfl ?_
    refine zw_ic_lt 5 14 f120_2 (by decide +kernel) rfl (fun hc9 => ?_) (fun hc9 => ?_)
    · refine zw_iconst 0 15 f120_14 rfl (by decide +kernel) ?_
      refine zw_zreturn f120_15 r120 u120 (by decide +kernel) ⟨_, rfl, ?_⟩
      refine zw_zreturn f123_11 r123 u123 (by decide +kernel) ⟨_, rfl, ?_⟩
      refine zw_if_eq_t 46 f147_10 (by decide +kernel) (by decide +kernel) ?_
      refine zw_iconst 0 47 f147_46 rfl (by decide +kernel) ?_
      refine zw_istore _ 49 f147_47 rfl (by decide +kernel) rfl ?_
      refine zw_iload 51 f147_49 rfl zl1_eq ?_
      refine zw_if_ne_f 54 60 f147_51 (by decide +kernel) rfl (by decide +kernel) ?_
      refine zw_aload_n 55 f147_54 rfl (zl1_ne rfl rfl rfl) ?_
      refine zw_iconst 1 56 f147_55 rfl (by decide +kernel) ?_
      refine zw_virtual_i 59 0 0 [.ref 52, .int 1] [(0, .ref 52), (1, .int 1)] f147_56 rfl n147_209 k147_209_12 rfl (hb_52 _ _ _ _) (by decide +kernel) (Nat.le_of_ble_eq_true rfl) rfl rfl (by decide +kernel) (by decide +kernel) rfl (Nat.le_of_ble_eq_true rfl) rfl ?_
      refine zw_aload_n 1 f121_0 rfl rfl ?_
      refine zw_iload_n 2 f121_1 rfl rfl ?_
      refine zw_put _ 5 f121_2 rfl g121_111_12 (hb_52 _ _ _ _) rfl (Nat.le_of_ble_eq_true rfl) (by decide +kernel) (hi_52_27 _ _ _ _ _) ?_
      refine zw_iconst (-1) 6 f121_5 rfl (by decide +kernel) ?_
      refine zw_ireturn f121_6 r121 u121 ⟨_, rfl, ?_⟩
      refine zw_ireturn f147_59 r147 u147 ?_
      exact ⟨_, _, _, _, rfl, (KQ.i rfl KQ.rf), Or.inl ⟨(fun q => (fun q => q.elim hc1 (qV.n0 (by omega) hc9)) q.1), (hR.k (pf := fun k j => decide (k = 52 ∧ j = 27)) (pa := fun _ => false) (KQ.i rfl KQ.rf) f27_R (fun _ _ _ => rfl)), rfl⟩⟩
    · refine zw_iload_n 6 f120_5 rfl rfl ?_
      refine zw_iload_n 7 f120_6 rfl rfl ?_
      refine zw_ic_gt 10 14 f120_7 (by decide +kernel) rfl (fun hc10 => ?_) (fun hc10 => ?_)
      · refine zw_iconst 0 15 f120_14 rfl (by decide +kernel) ?_
        refine zw_zreturn f120_15 r120 u120 (by decide +kernel) ⟨_, rfl, ?_⟩
        refine zw_zreturn f123_11 r123 u123 (by decide +kernel) ⟨_, rfl, ?_⟩
        refine zw_if_eq_t 46 f147_10 (by decide +kernel) (by decide +kernel) ?_
        refine zw_iconst 0 47 f147_46 rfl (by decide +kernel) ?_
        refine zw_istore _ 49 f147_47 rfl (by decide +kernel) rfl ?_
        refine zw_iload 51 f147_49 rfl zl1_eq ?_
        refine zw_if_ne_f 54 60 f147_51 (by decide +kernel) rfl (by decide +kernel) ?_
        refine zw_aload_n 55 f147_54 rfl (zl1_ne rfl rfl rfl) ?_
        refine zw_iconst 1 56 f147_55 rfl (by decide +kernel) ?_
        refine zw_virtual_i 59 0 0 [.ref 52, .int 1] [(0, .ref 52), (1, .int 1)] f147_56 rfl n147_209 k147_209_12 rfl (hb_52 _ _ _ _) (by decide +kernel) (Nat.le_of_ble_eq_true rfl) rfl rfl (by decide +kernel) (by decide +kernel) rfl (Nat.le_of_ble_eq_true rfl) rfl ?_
        refine zw_aload_n 1 f121_0 rfl rfl ?_
        refine zw_iload_n 2 f121_1 rfl rfl ?_
        refine zw_put _ 5 f121_2 rfl g121_111_12 (hb_52 _ _ _ _) rfl (Nat.le_of_ble_eq_true rfl) (by decide +kernel) (hi_52_27 _ _ _ _ _) ?_
        refine zw_iconst (-1) 6 f121_5 rfl (by decide +kernel) ?_
        refine zw_ireturn f121_6 r121 u121 ⟨_, rfl, ?_⟩
        refine zw_ireturn f147_59 r147 u147 ?_
        exact ⟨_, _, _, _, rfl, (KQ.i rfl KQ.rf), Or.inl ⟨(fun q => (fun q => q.elim hc1 (qV.n1 (by omega) hc10)) q.1), (hR.k (pf := fun k j => decide (k = 52 ∧ j = 27)) (pa := fun _ => false) (KQ.i rfl KQ.rf) f27_R (fun _ _ _ => rfl)), rfl⟩⟩
      · refine zw_iconst 1 11 f120_10 rfl (by decide +kernel) ?_
        refine zw_goto 15 f120_11 (by decide +kernel) ?_
        refine zw_zreturn f120_15 r120 u120 (by decide +kernel) ⟨_, rfl, ?_⟩
        refine zw_zreturn f123_11 r123 u123 (by decide +kernel) ⟨_, rfl, ?_⟩
        refine zw_if_eq_f 13 46 f147_10 (by decide +kernel) rfl (by decide +kernel) ?_
        refine zw_aload_n 14 f147_13 rfl rfl ?_
        refine zw_iload_n 15 f147_14 rfl rfl ?_
        refine zw_iload_n 16 f147_15 rfl rfl ?_
        refine zw_virtual_i 19 0 0 [.ref 52, .int a, .int b] [(0, .ref 52), (1, .int a), (2, .int b)] f147_16 rfl n147_221 k147_221_12 rfl (hb_52 _ _ _ _) (by decide +kernel) (Nat.le_of_ble_eq_true rfl) rfl rfl (by decide +kernel) (by decide +kernel) rfl (Nat.le_of_ble_eq_true rfl) rfl ?_
        refine zw_iload_n 1 f144_0 rfl rfl ?_
        refine zw_iconst (-1) 2 f144_1 rfl (by decide +kernel) ?_
        refine zw_ic_eq 5 18 f144_2 (by decide +kernel) rfl (fun hc11 => ?_) (fun hc11 => ?_)
        · refine zw_iconst 1 19 f144_18 rfl (by decide +kernel) ?_
          refine zw_goto 23 f144_19 (by decide +kernel) ?_
          refine zw_zreturn f144_23 r144 u144 (by decide +kernel) ⟨_, rfl, ?_⟩
          refine zw_if_eq_f 22 46 f147_19 (by decide +kernel) rfl (by decide +kernel) ?_
          refine zw_iload_n 23 f147_22 rfl rfl ?_
          refine zw_iconst (-1) 24 f147_23 rfl (by decide +kernel) ?_
          refine zw_ic_ne_t 32 f147_24 (by decide +kernel) hc1 ?_
          refine zw_iload_n 33 f147_32 rfl rfl ?_
          refine zw_iconst 1 34 f147_33 rfl (by decide +kernel) ?_
          refine zw_bipush 20 36 f147_34 rfl (by decide +kernel) ?_
          refine zw_static_i 39 0 0 [.int c, .int 1, .int 20] [] [(0, .int c), (1, .int 1), (2, .int 20)] f147_36 rfl k147_117_99 rfl (by decide +kernel) (Nat.le_of_ble_eq_true rfl) (Nat.le_of_ble_eq_true rfl) rfl rfl (by decide +kernel) (by decide +kernel) rfl (Nat.le_of_ble_eq_true rfl) rfl ?_
          refine zw_iload_n 1 f120_0 rfl rfl ?_
          refine zw_iload_n 2 f120_1 rfl rfl ?_
          refine zw_ic_lt 5 14 f120_2 (by decide +kernel) rfl (fun hc12 => ?_) (fun hc12 => ?_)
          · refine zw_iconst 0 15 f120_14 rfl (by decide +kernel) ?_
            refine zw_zreturn f120_15 r120 u120 (by decide +kernel) ⟨_, rfl, ?_⟩
            refine zw_if_eq_t 46 f147_39 (by decide +kernel) (by decide +kernel) ?_
            refine zw_iconst 0 47 f147_46 rfl (by decide +kernel) ?_
            refine zw_istore _ 49 f147_47 rfl (by decide +kernel) rfl ?_
            refine zw_iload 51 f147_49 rfl zl1_eq ?_
            refine zw_if_ne_f 54 60 f147_51 (by decide +kernel) rfl (by decide +kernel) ?_
            refine zw_aload_n 55 f147_54 rfl (zl1_ne rfl rfl rfl) ?_
            refine zw_iconst 1 56 f147_55 rfl (by decide +kernel) ?_
            refine zw_virtual_i 59 0 0 [.ref 52, .int 1] [(0, .ref 52), (1, .int 1)] f147_56 rfl n147_209 k147_209_12 rfl (hb_52 _ _ _ _) (by decide +kernel) (Nat.le_of_ble_eq_true rfl) rfl rfl (by decide +kernel) (by decide +kernel) rfl (Nat.le_of_ble_eq_true rfl) rfl ?_
            refine zw_aload_n 1 f121_0 rfl rfl ?_
            refine zw_iload_n 2 f121_1 rfl rfl ?_
            refine zw_put _ 5 f121_2 rfl g121_111_12 (hb_52 _ _ _ _) rfl (Nat.le_of_ble_eq_true rfl) (by decide +kernel) (hi_52_27 _ _ _ _ _) ?_
            refine zw_iconst (-1) 6 f121_5 rfl (by decide +kernel) ?_
            refine zw_ireturn f121_6 r121 u121 ⟨_, rfl, ?_⟩
            refine zw_ireturn f147_59 r147 u147 ?_
            exact ⟨_, _, _, _, rfl, (KQ.i rfl KQ.rf), Or.inl ⟨(fun q => (fun q => q.1 hc12) q.2.2.2.1), (hR.k (pf := fun k j => decide (k = 52 ∧ j = 27)) (pa := fun _ => false) (KQ.i rfl KQ.rf) f27_R (fun _ _ _ => rfl)), rfl⟩⟩
          · refine zw_iload_n 6 f120_5 rfl rfl ?_
            refine zw_iload_n 7 f120_6 rfl rfl ?_
            refine zw_ic_gt 10 14 f120_7 (by decide +kernel) rfl (fun hc13 => ?_) (fun hc13 => ?_)
            · refine zw_iconst 0 15 f120_14 rfl (by decide +kernel) ?_
              refine zw_zreturn f120_15 r120 u120 (by decide +kernel) ⟨_, rfl, ?_⟩
              refine zw_if_eq_t 46 f147_39 (by decide +kernel) (by decide +kernel) ?_
              refine zw_iconst 0 47 f147_46 rfl (by decide +kernel) ?_
              refine zw_istore _ 49 f147_47 rfl (by decide +kernel) rfl ?_
              refine zw_iload 51 f147_49 rfl zl1_eq ?_
              refine zw_if_ne_f 54 60 f147_51 (by decide +kernel) rfl (by decide +kernel) ?_
              refine zw_aload_n 55 f147_54 rfl (zl1_ne rfl rfl rfl) ?_
              refine zw_iconst 1 56 f147_55 rfl (by decide +kernel) ?_
              refine zw_virtual_i 59 0 0 [.ref 52, .int 1] [(0, .ref 52), (1, .int 1)] f147_56 rfl n147_209 k147_209_12 rfl (hb_52 _ _ _ _) (by decide +kernel) (Nat.le_of_ble_eq_true rfl) rfl rfl (by decide +kernel) (by decide +kernel) rfl (Nat.le_of_ble_eq_true rfl) rfl ?_
              refine zw_aload_n 1 f121_0 rfl rfl ?_
              refine zw_iload_n 2 f121_1 rfl rfl ?_
              refine zw_put _ 5 f121_2 rfl g121_111_12 (hb_52 _ _ _ _) rfl (Nat.le_of_ble_eq_true rfl) (by decide +kernel) (hi_52_27 _ _ _ _ _) ?_
              refine zw_iconst (-1) 6 f121_5 rfl (by decide +kernel) ?_
              refine zw_ireturn f121_6 r121 u121 ⟨_, rfl, ?_⟩
              refine zw_ireturn f147_59 r147 u147 ?_
              exact ⟨_, _, _, _, rfl, (KQ.i rfl KQ.rf), Or.inl ⟨(fun q => (fun q => q.2 hc13) q.2.2.2.1), (hR.k (pf := fun k j => decide (k = 52 ∧ j = 27)) (pa := fun _ => false) (KQ.i rfl KQ.rf) f27_R (fun _ _ _ => rfl)), rfl⟩⟩
            · refine zw_iconst 1 11 f120_10 rfl (by decide +kernel) ?_
              refine zw_goto 15 f120_11 (by decide +kernel) ?_
              refine zw_zreturn f120_15 r120 u120 (by decide +kernel) ⟨_, rfl, ?_⟩
              refine zw_if_eq_f 42 46 f147_39 (by decide +kernel) rfl (by decide +kernel) ?_
              refine zw_iconst 1 43 f147_42 rfl (by decide +kernel) ?_
              refine zw_goto 47 f147_43 (by decide +kernel) ?_
              refine zw_istore _ 49 f147_47 rfl (by decide +kernel) rfl ?_
              refine zw_iload 51 f147_49 rfl zl1_eq ?_
              refine zw_if_ne_t 60 f147_51 (by decide +kernel) (by decide +kernel) ?_
              refine zw_aload_n 61 f147_60 rfl (zl1_ne rfl rfl rfl) ?_
              refine zw_getI (nI np) 64 f147_61 rfl g147_121_12 (hb_52 _ _ _ _) rfl hR.1.2 ?_
              refine zw_bipush 14 66 f147_64 rfl (by decide +kernel) ?_
              refine zw_ic_ne 69 75 f147_66 (by decide +kernel) rfl (fun hc14 => ?_) (fun hc14 => ?_)
              · have hl14 : np < 14 := nI_l14 h14 hc14
                refine zw_aload_n 76 f147_75 rfl (zl1_ne rfl rfl rfl) ?_
                refine zw_getI (nI np) 79 f147_76 rfl g147_121_12 (hb_52 _ _ _ _) rfl hR.1.2 ?_
                refine zw_istore _ 81 f147_79 rfl (by decide +kernel) rfl ?_
                refine zw_aload_n 82 f147_81 rfl (zl1_ne rfl rfl (zl1_ne rfl rfl rfl)) ?_
                refine zw_dup 83 f147_82 rfl rfl ?_
                refine zw_getI (nI np) 86 f147_83 rfl g147_121_12 (hb_52 _ _ _ _) rfl hR.1.2 ?_
                refine zw_iconst 1 87 f147_86 rfl (by decide +kernel) ?_
                refine zw_iadd (nI (np + 1)) 88 f147_87 rfl (nI_add _ 1) ?_
                refine zw_put _ 91 f147_88 rfl g147_121_12 (hb_52 _ _ _ _) rfl (Nat.le_of_ble_eq_true rfl) (by decide +kernel) (hi_52_8 _ _ _ _ _) ?_
                refine zw_aload_n 92 f147_91 rfl (zl1_ne rfl rfl (zl1_ne rfl rfl rfl)) ?_
                refine zw_getfield 95 f147_92 rfl g147_31_12 (hb_52 _ _ _ _) rfl ?_
                refine zw_iload 97 f147_95 rfl zl1_eq ?_
                refine zw_iload_n 98 f147_97 rfl (zl1_ne rfl rfl (zl1_ne rfl rfl rfl)) ?_
                refine zw_ast np _ 99 f147_98 rfl (hb_60 _ _ _ _) (nI_clamp (by omega)) (nI_pos (by omega)) (by omega) (ha_60 _ _ _ _ _) ?_
                refine zw_aload_n 100 f147_99 rfl (zl1_ne rfl rfl (zl1_ne rfl rfl rfl)) ?_
                refine zw_getfield 103 f147_100 rfl g147_34_12 (hb_52 _ _ _ _) rfl ?_
                refine zw_iload 105 f147_103 rfl zl1_eq ?_
                refine zw_iload_n 106 f147_105 rfl (zl1_ne rfl rfl (zl1_ne rfl rfl rfl)) ?_
                refine zw_ast np _ 107 f147_106 rfl (hb_61 _ _ _ _) (nI_clamp (by omega)) (nI_pos (by omega)) (by omega) (ha_61 _ _ _ _ _) ?_
                refine zw_aload_n 108 f147_107 rfl (zl1_ne rfl rfl (zl1_ne rfl rfl rfl)) ?_
                refine zw_getfield 111 f147_108 rfl g147_37_12 (hb_52 _ _ _ _) rfl ?_
                refine zw_iload 113 f147_111 rfl zl1_eq ?_
                refine zw_iload_n 114 f147_113 rfl (zl1_ne rfl rfl (zl1_ne rfl rfl rfl)) ?_
                refine zw_ast np _ 115 f147_114 rfl (hb_62 _ _ _ _) (nI_clamp (by omega)) (nI_pos (by omega)) (by omega) (ha_62 _ _ _ _ _) ?_
                refine zw_aload_n 116 f147_115 rfl (zl1_ne rfl rfl (zl1_ne rfl rfl rfl)) ?_
                refine zw_getfield 119 f147_116 rfl g147_48_12 (hb_52 _ _ _ _) rfl ?_
                refine zw_iload 121 f147_119 rfl zl1_eq ?_
                refine zw_iconst 1 122 f147_121 rfl (by decide +kernel) ?_
                refine zw_bst np _ 123 f147_122 rfl (hb_64 _ _ _ _) (nI_clamp (by omega)) (nI_pos (by omega)) (by omega) (ha_64 _ _ _ _ _) ?_
                refine zw_aload_n 124 f147_123 rfl (zl1_ne rfl rfl (zl1_ne rfl rfl rfl)) ?_
                refine zw_iload 126 f147_124 rfl zl1_eq ?_
                refine zw_virtual_i 129 0 0 [.ref 52, .int (nI np)] [(0, .ref 52), (1, .int (nI np))] f147_126 rfl n147_212 k147_212_12 rfl (hb_52 _ _ _ _) (by decide +kernel) (Nat.le_of_ble_eq_true rfl) rfl rfl (by decide +kernel) (by decide +kernel) rfl (Nat.le_of_ble_eq_true rfl) rfl ?_
                have hok : ok_pipe nv np A a b c := ⟨(Or.inr (qV.of (by omega) hc9 hc10)), (Or.inl hc11), (fun q => hc1 q.1), ⟨hc12, hc13⟩, (fun q => hc14 (by rw [q]; decide))⟩
                have Rz : mRS nv (np + 1) (updA (updA (updA A 60 (upd (A 60) np a)) 61 (upd ((updA A 60 (upd (A 60) np a)) 61) np b)) 62 (upd ((updA (updA A 60 (upd (A 60) np a)) 61 (upd ((updA A 60 (upd (A 60) np a)) 61) np b)) 62) np c)) (wOpn np 1 W) L (upd2 I 52 8 (nI (np + 1))) G (updA (updA (updA (updA A 60 (upd (A 60) np a)) 61 (upd ((updA A 60 (upd (A 60) np a)) 61) np b)) 62 (upd ((updA (updA A 60 (upd (A 60) np a)) 61 (upd ((updA A 60 (upd (A 60) np a)) 61) np b)) 62) np c)) 64 (upd ((updA (updA (updA A 60 (upd (A 60) np a)) 61 (upd ((updA A 60 (upd (A 60) np a)) 61) np b)) 62 (upd ((updA (updA A 60 (upd (A 60) np a)) 61 (upd ((updA A 60 (upd (A 60) np a)) 61) np b)) 62) np c)) 64) np (vp_nar .boolean 1))) B := ⟨⟨hR.1.1, rfl⟩, (fun k k1 k2 => if_neg (show ¬ k = 64 by omega)), wOpn_r hR rfl rfl rfl rfl rfl rfl (by rw [← vnar_1]; rfl) rfl, hR.2.2.2⟩
                have hp14 := hl14
                have hp2 : MPa nv (np + 1) (updA (updA (updA A 60 (upd (A 60) np a)) 61 (upd ((updA A 60 (upd (A 60) np a)) 61) np b)) 62 (upd ((updA (updA A 60 (upd (A 60) np a)) 61 (upd ((updA A 60 (upd (A 60) np a)) 61) np b)) 62) np c)) := hp.pi (f := a) (t := b) (a := c) hp14 (qRg.i (by decide) (by decide) hok.2.2.2.1) (qD.to0 hok.2.1) (Or.inr ⟨_, ((qV.of (by omega) hc9 hc10)).1, ((qV.of (by omega) hc9 hc10)).2, qD.to (by omega) (qV.of (by omega) hc9 hc10) hok.2.1⟩) rfl rfl rfl (fun k k1 => (if_neg (by omega)).trans ((if_neg (by omega)).trans (if_neg (by omega))))
                have hW2 : wInv nv 10000 (K + 1000) (updA (updA (updA A 60 (upd (A 60) np a)) 61 (upd ((updA A 60 (upd (A 60) np a)) 61) np b)) 62 (upd ((updA (updA A 60 (upd (A 60) np a)) 61 (upd ((updA A 60 (upd (A 60) np a)) 61) np b)) 62) np c)) (wOpn np 1 W) := ((hW.pa rfl).op hp14 (Or.inr rfl)).mo (by omega) (by omega)
                refine zWp.mono (mm_hand ro nv (np + 1) (updA (updA (updA A 60 (upd (A 60) np a)) 61 (upd ((updA A 60 (upd (A 60) np a)) 61) np b)) 62 (upd ((updA (updA A 60 (upd (A 60) np a)) 61 (upd ((updA A 60 (upd (A 60) np a)) 61) np b)) 62) np c)) (wOpn np 1 W) L _ _ _ _ (K + 1000) (nI np) Rz hp2 hW2 (by omega) (by omega)) ?_
                rintro r h1 ⟨I2, G2, A2, B2, rfl, K2, R2, rfl⟩
                refine ⟨_, rfl, ?_⟩
                refine zw_ireturn f147_129 r147 u147 ?_
                exact ⟨_, _, _, _, rfl, (KQ.tr (KQ.a rfl (KQ.a rfl (KQ.a rfl (KQ.a rfl (KQ.i rfl KQ.rf))))) K2), Or.inr ⟨hok, hp2, hW2, R2, rfl⟩⟩
              · refine zw_aload_n 70 f147_69 rfl (zl1_ne rfl rfl rfl) ?_
                refine zw_iconst 2 71 f147_70 rfl (by decide +kernel) ?_
                refine zw_virtual_i 74 0 0 [.ref 52, .int 2] [(0, .ref 52), (1, .int 2)] f147_71 rfl n147_209 k147_209_12 rfl (hb_52 _ _ _ _) (by decide +kernel) (Nat.le_of_ble_eq_true rfl) rfl rfl (by decide +kernel) (by decide +kernel) rfl (Nat.le_of_ble_eq_true rfl) rfl ?_
                refine zw_aload_n 1 f121_0 rfl rfl ?_
                refine zw_iload_n 2 f121_1 rfl rfl ?_
                refine zw_put _ 5 f121_2 rfl g121_111_12 (hb_52 _ _ _ _) rfl (Nat.le_of_ble_eq_true rfl) (by decide +kernel) (hi_52_27 _ _ _ _ _) ?_
                refine zw_iconst (-1) 6 f121_5 rfl (by decide +kernel) ?_
                refine zw_ireturn f121_6 r121 u121 ⟨_, rfl, ?_⟩
                refine zw_ireturn f147_74 r147 u147 ?_
                exact ⟨_, _, _, _, rfl, (KQ.i rfl KQ.rf), Or.inl ⟨(fun q => (fun q => q (nI_14 (by omega) (Decidable.of_not_not hc14))) q.2.2.2.2), (hR.k (pf := fun k j => decide (k = 52 ∧ j = 27)) (pa := fun _ => false) (KQ.i rfl KQ.rf) f27_R (fun _ _ _ => rfl)), rfl⟩⟩
        · refine zw_aload_n 6 f144_5 rfl rfl ?_
          refine zw_iload_n 7 f144_6 rfl rfl ?_
          refine zw_virtual_i 10 0 0 [.ref 52, .int b] [(0, .ref 52), (1, .int b)] f144_7 rfl n144_215 k144_215_12 rfl (hb_52 _ _ _ _) (by decide +kernel) (Nat.le_of_ble_eq_true rfl) rfl rfl (by decide +kernel) (by decide +kernel) rfl (Nat.le_of_ble_eq_true rfl) rfl ?_
          refine zw_iload_n 1 f123_0 rfl rfl ?_
          refine zw_iconst 0 2 f123_1 rfl (by decide +kernel) ?_
          refine zw_aload_n 3 f123_2 rfl rfl ?_
          refine zw_getI (nI nv) 6 f123_3 rfl g123_114_12 (hb_52 _ _ _ _) rfl hR.1.1 ?_
          refine zw_iconst 1 7 f123_6 rfl (by decide +kernel) ?_
          refine zw_isub ((nI nv) - 1) 8 f123_7 rfl rfl ?_
          refine zw_static_i 11 0 0 [.int b, .int 0, .int ((nI nv) - 1)] [] [(0, .int b), (1, .int 0), (2, .int ((nI nv) - 1))] f123_8 rfl k123_117_99 rfl (by decide +kernel) (Nat.le_of_ble_eq_true rfl) (Nat.le_of_ble_eq_true rfl) rfl rfl (by decide +kernel) (by decide +kernel) rfl (Nat.le_of_ble_eq_true rfl) rfl ?_
          refine zw_iload_n 1 f120_0 rfl rfl ?_
          refine zw_iload_n 2 f120_1 rfl rfl ?_
          refine zw_ic_lt 5 14 f120_2 (by decide +kernel) rfl (fun hc15 => ?_) (fun hc15 => ?_)
          · refine zw_iconst 0 15 f120_14 rfl (by decide +kernel) ?_
            refine zw_zreturn f120_15 r120 u120 (by decide +kernel) ⟨_, rfl, ?_⟩
            refine zw_zreturn f123_11 r123 u123 (by decide +kernel) ⟨_, rfl, ?_⟩
            refine zw_if_eq_t 22 f144_10 (by decide +kernel) (by decide +kernel) ?_
            refine zw_iconst 0 23 f144_22 rfl (by decide +kernel) ?_
            refine zw_zreturn f144_23 r144 u144 (by decide +kernel) ⟨_, rfl, ?_⟩
            refine zw_if_eq_t 46 f147_19 (by decide +kernel) (by decide +kernel) ?_
            refine zw_iconst 0 47 f147_46 rfl (by decide +kernel) ?_
            refine zw_istore _ 49 f147_47 rfl (by decide +kernel) rfl ?_
            refine zw_iload 51 f147_49 rfl zl1_eq ?_
            refine zw_if_ne_f 54 60 f147_51 (by decide +kernel) rfl (by decide +kernel) ?_
            refine zw_aload_n 55 f147_54 rfl (zl1_ne rfl rfl rfl) ?_
            refine zw_iconst 1 56 f147_55 rfl (by decide +kernel) ?_
            refine zw_virtual_i 59 0 0 [.ref 52, .int 1] [(0, .ref 52), (1, .int 1)] f147_56 rfl n147_209 k147_209_12 rfl (hb_52 _ _ _ _) (by decide +kernel) (Nat.le_of_ble_eq_true rfl) rfl rfl (by decide +kernel) (by decide +kernel) rfl (Nat.le_of_ble_eq_true rfl) rfl ?_
            refine zw_aload_n 1 f121_0 rfl rfl ?_
            refine zw_iload_n 2 f121_1 rfl rfl ?_
            refine zw_put _ 5 f121_2 rfl g121_111_12 (hb_52 _ _ _ _) rfl (Nat.le_of_ble_eq_true rfl) (by decide +kernel) (hi_52_27 _ _ _ _ _) ?_
            refine zw_iconst (-1) 6 f121_5 rfl (by decide +kernel) ?_
            refine zw_ireturn f121_6 r121 u121 ⟨_, rfl, ?_⟩
            refine zw_ireturn f147_59 r147 u147 ?_
            exact ⟨_, _, _, _, rfl, (KQ.i rfl KQ.rf), Or.inl ⟨(fun q => (fun q => q.elim hc11 (fun z => (qV.n0 (by omega) hc15) z.1)) q.2.1), (hR.k (pf := fun k j => decide (k = 52 ∧ j = 27)) (pa := fun _ => false) (KQ.i rfl KQ.rf) f27_R (fun _ _ _ => rfl)), rfl⟩⟩
          · refine zw_iload_n 6 f120_5 rfl rfl ?_
            refine zw_iload_n 7 f120_6 rfl rfl ?_
            refine zw_ic_gt 10 14 f120_7 (by decide +kernel) rfl (fun hc16 => ?_) (fun hc16 => ?_)
            · refine zw_iconst 0 15 f120_14 rfl (by decide +kernel) ?_
              refine zw_zreturn f120_15 r120 u120 (by decide +kernel) ⟨_, rfl, ?_⟩
              refine zw_zreturn f123_11 r123 u123 (by decide +kernel) ⟨_, rfl, ?_⟩
              refine zw_if_eq_t 22 f144_10 (by decide +kernel) (by decide +kernel) ?_
              refine zw_iconst 0 23 f144_22 rfl (by decide +kernel) ?_
              refine zw_zreturn f144_23 r144 u144 (by decide +kernel) ⟨_, rfl, ?_⟩
              refine zw_if_eq_t 46 f147_19 (by decide +kernel) (by decide +kernel) ?_
              refine zw_iconst 0 47 f147_46 rfl (by decide +kernel) ?_
              refine zw_istore _ 49 f147_47 rfl (by decide +kernel) rfl ?_
              refine zw_iload 51 f147_49 rfl zl1_eq ?_
              refine zw_if_ne_f 54 60 f147_51 (by decide +kernel) rfl (by decide +kernel) ?_
              refine zw_aload_n 55 f147_54 rfl (zl1_ne rfl rfl rfl) ?_
              refine zw_iconst 1 56 f147_55 rfl (by decide +kernel) ?_
              refine zw_virtual_i 59 0 0 [.ref 52, .int 1] [(0, .ref 52), (1, .int 1)] f147_56 rfl n147_209 k147_209_12 rfl (hb_52 _ _ _ _) (by decide +kernel) (Nat.le_of_ble_eq_true rfl) rfl rfl (by decide +kernel) (by decide +kernel) rfl (Nat.le_of_ble_eq_true rfl) rfl ?_
              refine zw_aload_n 1 f121_0 rfl rfl ?_
              refine zw_iload_n 2 f121_1 rfl rfl ?_
              refine zw_put _ 5 f121_2 rfl g121_111_12 (hb_52 _ _ _ _) rfl (Nat.le_of_ble_eq_true rfl) (by decide +kernel) (hi_52_27 _ _ _ _ _) ?_
              refine zw_iconst (-1) 6 f121_5 rfl (by decide +kernel) ?_
              refine zw_ireturn f121_6 r121 u121 ⟨_, rfl, ?_⟩
              refine zw_ireturn f147_59 r147 u147 ?_
              exact ⟨_, _, _, _, rfl, (KQ.i rfl KQ.rf), Or.inl ⟨(fun q => (fun q => q.elim hc11 (fun z => (qV.n1 (by omega) hc16) z.1)) q.2.1), (hR.k (pf := fun k j => decide (k = 52 ∧ j = 27)) (pa := fun _ => false) (KQ.i rfl KQ.rf) f27_R (fun _ _ _ => rfl)), rfl⟩⟩
            · refine zw_iconst 1 11 f120_10 rfl (by decide +kernel) ?_
              refine zw_goto 15 f120_11 (by decide +kernel) ?_
              refine zw_zreturn f120_15 r120 u120 (by decide +kernel) ⟨_, rfl, ?_⟩
              refine zw_zreturn f123_11 r123 u123 (by decide +kernel) ⟨_, rfl, ?_⟩
              refine zw_if_eq_f 13 22 f144_10 (by decide +kernel) rfl (by decide +kernel) ?_
              refine zw_iload_n 14 f144_13 rfl rfl ?_
              refine zw_iload_n 15 f144_14 rfl rfl ?_
              refine zw_ic_le 18 22 f144_15 (by decide +kernel) rfl (fun hc17 => ?_) (fun hc17 => ?_)
              · refine zw_iconst 0 23 f144_22 rfl (by decide +kernel) ?_
                refine zw_zreturn f144_23 r144 u144 (by decide +kernel) ⟨_, rfl, ?_⟩
                refine zw_if_eq_t 46 f147_19 (by decide +kernel) (by decide +kernel) ?_
                refine zw_iconst 0 47 f147_46 rfl (by decide +kernel) ?_
                refine zw_istore _ 49 f147_47 rfl (by decide +kernel) rfl ?_
                refine zw_iload 51 f147_49 rfl zl1_eq ?_
                refine zw_if_ne_f 54 60 f147_51 (by decide +kernel) rfl (by decide +kernel) ?_
                refine zw_aload_n 55 f147_54 rfl (zl1_ne rfl rfl rfl) ?_
                refine zw_iconst 1 56 f147_55 rfl (by decide +kernel) ?_
                refine zw_virtual_i 59 0 0 [.ref 52, .int 1] [(0, .ref 52), (1, .int 1)] f147_56 rfl n147_209 k147_209_12 rfl (hb_52 _ _ _ _) (by decide +kernel) (Nat.le_of_ble_eq_true rfl) rfl rfl (by decide +kernel) (by decide +kernel) rfl (Nat.le_of_ble_eq_true rfl) rfl ?_
                refine zw_aload_n 1 f121_0 rfl rfl ?_
                refine zw_iload_n 2 f121_1 rfl rfl ?_
                refine zw_put _ 5 f121_2 rfl g121_111_12 (hb_52 _ _ _ _) rfl (Nat.le_of_ble_eq_true rfl) (by decide +kernel) (hi_52_27 _ _ _ _ _) ?_
                refine zw_iconst (-1) 6 f121_5 rfl (by decide +kernel) ?_
                refine zw_ireturn f121_6 r121 u121 ⟨_, rfl, ?_⟩
                refine zw_ireturn f147_59 r147 u147 ?_
                exact ⟨_, _, _, _, rfl, (KQ.i rfl KQ.rf), Or.inl ⟨(fun q => (fun q => q.elim hc11 (fun z => z.2 hc17)) q.2.1), (hR.k (pf := fun k j => decide (k = 52 ∧ j = 27)) (pa := fun _ => false) (KQ.i rfl KQ.rf) f27_R (fun _ _ _ => rfl)), rfl⟩⟩
              · refine zw_iconst 1 19 f144_18 rfl (by decide +kernel) ?_
                refine zw_goto 23 f144_19 (by decide +kernel) ?_
                refine zw_zreturn f144_23 r144 u144 (by decide +kernel) ⟨_, rfl, ?_⟩
                refine zw_if_eq_f 22 46 f147_19 (by decide +kernel) rfl (by decide +kernel) ?_
                refine zw_iload_n 23 f147_22 rfl rfl ?_
                refine zw_iconst (-1) 24 f147_23 rfl (by decide +kernel) ?_
                refine zw_ic_ne_t 32 f147_24 (by decide +kernel) hc1 ?_
                refine zw_iload_n 33 f147_32 rfl rfl ?_
                refine zw_iconst 1 34 f147_33 rfl (by decide +kernel) ?_
                refine zw_bipush 20 36 f147_34 rfl (by decide +kernel) ?_
                refine zw_static_i 39 0 0 [.int c, .int 1, .int 20] [] [(0, .int c), (1, .int 1), (2, .int 20)] f147_36 rfl k147_117_99 rfl (by decide +kernel) (Nat.le_of_ble_eq_true rfl) (Nat.le_of_ble_eq_true rfl) rfl rfl (by decide +kernel) (by decide +kernel) rfl (Nat.le_of_ble_eq_true rfl) rfl ?_
                refine zw_iload_n 1 f120_0 rfl rfl ?_
                refine zw_iload_n 2 f120_1 rfl rfl ?_
                refine zw_ic_lt 5 14 f120_2 (by decide +kernel) rfl (fun hc18 => ?_) (fun hc18 => ?_)
                · refine zw_iconst 0 15 f120_14 rfl (by decide +kernel) ?_
                  refine zw_zreturn f120_15 r120 u120 (by decide +kernel) ⟨_, rfl, ?_⟩
                  refine zw_if_eq_t 46 f147_39 (by decide +kernel) (by decide +kernel) ?_
                  refine zw_iconst 0 47 f147_46 rfl (by decide +kernel) ?_
                  refine zw_istore _ 49 f147_47 rfl (by decide +kernel) rfl ?_
                  refine zw_iload 51 f147_49 rfl zl1_eq ?_
                  refine zw_if_ne_f 54 60 f147_51 (by decide +kernel) rfl (by decide +kernel) ?_
                  refine zw_aload_n 55 f147_54 rfl (zl1_ne rfl rfl rfl) ?_
                  refine zw_iconst 1 56 f147_55 rfl (by decide +kernel) ?_
                  refine zw_virtual_i 59 0 0 [.ref 52, .int 1] [(0, .ref 52), (1, .int 1)] f147_56 rfl n147_209 k147_209_12 rfl (hb_52 _ _ _ _) (by decide +kernel) (Nat.le_of_ble_eq_true rfl) rfl rfl (by decide +kernel) (by decide +kernel) rfl (Nat.le_of_ble_eq_true rfl) rfl ?_
                  refine zw_aload_n 1 f121_0 rfl rfl ?_
                  refine zw_iload_n 2 f121_1 rfl rfl ?_
                  refine zw_put _ 5 f121_2 rfl g121_111_12 (hb_52 _ _ _ _) rfl (Nat.le_of_ble_eq_true rfl) (by decide +kernel) (hi_52_27 _ _ _ _ _) ?_
                  refine zw_iconst (-1) 6 f121_5 rfl (by decide +kernel) ?_
                  refine zw_ireturn f121_6 r121 u121 ⟨_, rfl, ?_⟩
                  refine zw_ireturn f147_59 r147 u147 ?_
                  exact ⟨_, _, _, _, rfl, (KQ.i rfl KQ.rf), Or.inl ⟨(fun q => (fun q => q.1 hc18) q.2.2.2.1), (hR.k (pf := fun k j => decide (k = 52 ∧ j = 27)) (pa := fun _ => false) (KQ.i rfl KQ.rf) f27_R (fun _ _ _ => rfl)), rfl⟩⟩
                · refine zw_iload_n 6 f120_5 rfl rfl ?_
                  refine zw_iload_n 7 f120_6 rfl rfl ?_
                  refine zw_ic_gt 10 14 f120_7 (by decide +kernel) rfl (fun hc19 => ?_) (fun hc19 => ?_)
                  · refine zw_iconst 0 15 f120_14 rfl (by decide +kernel) ?_
                    refine zw_zreturn f120_15 r120 u120 (by decide +kernel) ⟨_, rfl, ?_⟩
                    refine zw_if_eq_t 46 f147_39 (by decide +kernel) (by decide +kernel) ?_
                    refine zw_iconst 0 47 f147_46 rfl (by decide +kernel) ?_
                    refine zw_istore _ 49 f147_47 rfl (by decide +kernel) rfl ?_
                    refine zw_iload 51 f147_49 rfl zl1_eq ?_
                    refine zw_if_ne_f 54 60 f147_51 (by decide +kernel) rfl (by decide +kernel) ?_
                    refine zw_aload_n 55 f147_54 rfl (zl1_ne rfl rfl rfl) ?_
                    refine zw_iconst 1 56 f147_55 rfl (by decide +kernel) ?_
                    refine zw_virtual_i 59 0 0 [.ref 52, .int 1] [(0, .ref 52), (1, .int 1)] f147_56 rfl n147_209 k147_209_12 rfl (hb_52 _ _ _ _) (by decide +kernel) (Nat.le_of_ble_eq_true rfl) rfl rfl (by decide +kernel) (by decide +kernel) rfl (Nat.le_of_ble_eq_true rfl) rfl ?_
                    refine zw_aload_n 1 f121_0 rfl rfl ?_
                    refine zw_iload_n 2 f121_1 rfl rfl ?_
                    refine zw_put _ 5 f121_2 rfl g121_111_12 (hb_52 _ _ _ _) rfl (Nat.le_of_ble_eq_true rfl) (by decide +kernel) (hi_52_27 _ _ _ _ _) ?_
                    refine zw_iconst (-1) 6 f121_5 rfl (by decide +kernel) ?_
                    refine zw_ireturn f121_6 r121 u121 ⟨_, rfl, ?_⟩
                    refine zw_ireturn f147_59 r147 u147 ?_
                    exact ⟨_, _, _, _, rfl, (KQ.i rfl KQ.rf), Or.inl ⟨(fun q => (fun q => q.2 hc19) q.2.2.2.1), (hR.k (pf := fun k j => decide (k = 52 ∧ j = 27)) (pa := fun _ => false) (KQ.i rfl KQ.rf) f27_R (fun _ _ _ => rfl)), rfl⟩⟩
                  · refine zw_iconst 1 11 f120_10 rfl (by decide +kernel) ?_
                    refine zw_goto 15 f120_11 (by decide +kernel) ?_
                    refine zw_zreturn f120_15 r120 u120 (by decide +kernel) ⟨_, rfl, ?_⟩
                    refine zw_if_eq_f 42 46 f147_39 (by decide +kernel) rfl (by decide +kernel) ?_
                    refine zw_iconst 1 43 f147_42 rfl (by decide +kernel) ?_
                    refine zw_goto 47 f147_43 (by decide +kernel) ?_
                    refine zw_istore _ 49 f147_47 rfl (by decide +kernel) rfl ?_
                    refine zw_iload 51 f147_49 rfl zl1_eq ?_
                    refine zw_if_ne_t 60 f147_51 (by decide +kernel) (by decide +kernel) ?_
                    refine zw_aload_n 61 f147_60 rfl (zl1_ne rfl rfl rfl) ?_
                    refine zw_getI (nI np) 64 f147_61 rfl g147_121_12 (hb_52 _ _ _ _) rfl hR.1.2 ?_
                    refine zw_bipush 14 66 f147_64 rfl (by decide +kernel) ?_
                    refine zw_ic_ne 69 75 f147_66 (by decide +kernel) rfl (fun hc20 => ?_) (fun hc20 => ?_)
                    · have hl14 : np < 14 := nI_l14 h14 hc20
                      refine zw_aload_n 76 f147_75 rfl (zl1_ne rfl rfl rfl) ?_
                      refine zw_getI (nI np) 79 f147_76 rfl g147_121_12 (hb_52 _ _ _ _) rfl hR.1.2 ?_
                      refine zw_istore _ 81 f147_79 rfl (by decide +kernel) rfl ?_
                      refine zw_aload_n 82 f147_81 rfl (zl1_ne rfl rfl (zl1_ne rfl rfl rfl)) ?_
                      refine zw_dup 83 f147_82 rfl rfl ?_
                      refine zw_getI (nI np) 86 f147_83 rfl g147_121_12 (hb_52 _ _ _ _) rfl hR.1.2 ?_
                      refine zw_iconst 1 87 f147_86 rfl (by decide +kernel) ?_
                      refine zw_iadd (nI (np + 1)) 88 f147_87 rfl (nI_add _ 1) ?_
                      refine zw_put _ 91 f147_88 rfl g147_121_12 (hb_52 _ _ _ _) rfl (Nat.le_of_ble_eq_true rfl) (by decide +kernel) (hi_52_8 _ _ _ _ _) ?_
                      refine zw_aload_n 92 f147_91 rfl (zl1_ne rfl rfl (zl1_ne rfl rfl rfl)) ?_
                      refine zw_getfield 95 f147_92 rfl g147_31_12 (hb_52 _ _ _ _) rfl ?_
                      refine zw_iload 97 f147_95 rfl zl1_eq ?_
                      refine zw_iload_n 98 f147_97 rfl (zl1_ne rfl rfl (zl1_ne rfl rfl rfl)) ?_
                      refine zw_ast np _ 99 f147_98 rfl (hb_60 _ _ _ _) (nI_clamp (by omega)) (nI_pos (by omega)) (by omega) (ha_60 _ _ _ _ _) ?_
                      refine zw_aload_n 100 f147_99 rfl (zl1_ne rfl rfl (zl1_ne rfl rfl rfl)) ?_
                      refine zw_getfield 103 f147_100 rfl g147_34_12 (hb_52 _ _ _ _) rfl ?_
                      refine zw_iload 105 f147_103 rfl zl1_eq ?_
                      refine zw_iload_n 106 f147_105 rfl (zl1_ne rfl rfl (zl1_ne rfl rfl rfl)) ?_
                      refine zw_ast np _ 107 f147_106 rfl (hb_61 _ _ _ _) (nI_clamp (by omega)) (nI_pos (by omega)) (by omega) (ha_61 _ _ _ _ _) ?_
                      refine zw_aload_n 108 f147_107 rfl (zl1_ne rfl rfl (zl1_ne rfl rfl rfl)) ?_
                      refine zw_getfield 111 f147_108 rfl g147_37_12 (hb_52 _ _ _ _) rfl ?_
                      refine zw_iload 113 f147_111 rfl zl1_eq ?_
                      refine zw_iload_n 114 f147_113 rfl (zl1_ne rfl rfl (zl1_ne rfl rfl rfl)) ?_
                      refine zw_ast np _ 115 f147_114 rfl (hb_62 _ _ _ _) (nI_clamp (by omega)) (nI_pos (by omega)) (by omega) (ha_62 _ _ _ _ _) ?_
                      refine zw_aload_n 116 f147_115 rfl (zl1_ne rfl rfl (zl1_ne rfl rfl rfl)) ?_
                      refine zw_getfield 119 f147_116 rfl g147_48_12 (hb_52 _ _ _ _) rfl ?_
                      refine zw_iload 121 f147_119 rfl zl1_eq ?_
                      refine zw_iconst 1 122 f147_121 rfl (by decide +kernel) ?_
                      refine zw_bst np _ 123 f147_122 rfl (hb_64 _ _ _ _) (nI_clamp (by omega)) (nI_pos (by omega)) (by omega) (ha_64 _ _ _ _ _) ?_
                      refine zw_aload_n 124 f147_123 rfl (zl1_ne rfl rfl (zl1_ne rfl rfl rfl)) ?_
                      refine zw_iload 126 f147_124 rfl zl1_eq ?_
                      refine zw_virtual_i 129 0 0 [.ref 52, .int (nI np)] [(0, .ref 52), (1, .int (nI np))] f147_126 rfl n147_212 k147_212_12 rfl (hb_52 _ _ _ _) (by decide +kernel) (Nat.le_of_ble_eq_true rfl) rfl rfl (by decide +kernel) (by decide +kernel) rfl (Nat.le_of_ble_eq_true rfl) rfl ?_
                      have hok : ok_pipe nv np A a b c := ⟨(Or.inr (qV.of (by omega) hc9 hc10)), (Or.inr ⟨(qV.of (by omega) hc15 hc16), hc17⟩), (fun q => hc1 q.1), ⟨hc18, hc19⟩, (fun q => hc20 (by rw [q]; decide))⟩
                      have Rz : mRS nv (np + 1) (updA (updA (updA A 60 (upd (A 60) np a)) 61 (upd ((updA A 60 (upd (A 60) np a)) 61) np b)) 62 (upd ((updA (updA A 60 (upd (A 60) np a)) 61 (upd ((updA A 60 (upd (A 60) np a)) 61) np b)) 62) np c)) (wOpn np 1 W) L (upd2 I 52 8 (nI (np + 1))) G (updA (updA (updA (updA A 60 (upd (A 60) np a)) 61 (upd ((updA A 60 (upd (A 60) np a)) 61) np b)) 62 (upd ((updA (updA A 60 (upd (A 60) np a)) 61 (upd ((updA A 60 (upd (A 60) np a)) 61) np b)) 62) np c)) 64 (upd ((updA (updA (updA A 60 (upd (A 60) np a)) 61 (upd ((updA A 60 (upd (A 60) np a)) 61) np b)) 62 (upd ((updA (updA A 60 (upd (A 60) np a)) 61 (upd ((updA A 60 (upd (A 60) np a)) 61) np b)) 62) np c)) 64) np (vp_nar .boolean 1))) B := ⟨⟨hR.1.1, rfl⟩, (fun k k1 k2 => if_neg (show ¬ k = 64 by omega)), wOpn_r hR rfl rfl rfl rfl rfl rfl (by rw [← vnar_1]; rfl) rfl, hR.2.2.2⟩
                      have hp14 := hl14
                      have hp2 : MPa nv (np + 1) (updA (updA (updA A 60 (upd (A 60) np a)) 61 (upd ((updA A 60 (upd (A 60) np a)) 61) np b)) 62 (upd ((updA (updA A 60 (upd (A 60) np a)) 61 (upd ((updA A 60 (upd (A 60) np a)) 61) np b)) 62) np c)) := hp.pi (f := a) (t := b) (a := c) hp14 (qRg.i (by decide) (by decide) hok.2.2.2.1) (qD.to0 hok.2.1) (Or.inr ⟨_, ((qV.of (by omega) hc9 hc10)).1, ((qV.of (by omega) hc9 hc10)).2, qD.to (by omega) (qV.of (by omega) hc9 hc10) hok.2.1⟩) rfl rfl rfl (fun k k1 => (if_neg (by omega)).trans ((if_neg (by omega)).trans (if_neg (by omega))))
                      have hW2 : wInv nv 10000 (K + 1000) (updA (updA (updA A 60 (upd (A 60) np a)) 61 (upd ((updA A 60 (upd (A 60) np a)) 61) np b)) 62 (upd ((updA (updA A 60 (upd (A 60) np a)) 61 (upd ((updA A 60 (upd (A 60) np a)) 61) np b)) 62) np c)) (wOpn np 1 W) := ((hW.pa rfl).op hp14 (Or.inr rfl)).mo (by omega) (by omega)
                      refine zWp.mono (mm_hand ro nv (np + 1) (updA (updA (updA A 60 (upd (A 60) np a)) 61 (upd ((updA A 60 (upd (A 60) np a)) 61) np b)) 62 (upd ((updA (updA A 60 (upd (A 60) np a)) 61 (upd ((updA A 60 (upd (A 60) np a)) 61) np b)) 62) np c)) (wOpn np 1 W) L _ _ _ _ (K + 1000) (nI np) Rz hp2 hW2 (by omega) (by omega)) ?_
                      rintro r h1 ⟨I2, G2, A2, B2, rfl, K2, R2, rfl⟩
                      refine ⟨_, rfl, ?_⟩
                      refine zw_ireturn f147_129 r147 u147 ?_
                      exact ⟨_, _, _, _, rfl, (KQ.tr (KQ.a rfl (KQ.a rfl (KQ.a rfl (KQ.a rfl (KQ.i rfl KQ.rf))))) K2), Or.inr ⟨hok, hp2, hW2, R2, rfl⟩⟩
                    · refine zw_aload_n 70 f147_69 rfl (zl1_ne rfl rfl rfl) ?_
                      refine zw_iconst 2 71 f147_70 rfl (by decide +kernel) ?_
                      refine zw_virtual_i 74 0 0 [.ref 52, .int 2] [(0, .ref 52), (1, .int 2)] f147_71 rfl n147_209 k147_209_12 rfl (hb_52 _ _ _ _) (by decide +kernel) (Nat.le_of_ble_eq_true rfl) rfl rfl (by decide +kernel) (by decide +kernel) rfl (Nat.le_of_ble_eq_true rfl) rfl ?_
                      refine zw_aload_n 1 f121_0 rfl rfl ?_
                      refine zw_iload_n 2 f121_1 rfl rfl ?_
                      refine zw_put _ 5 f121_2 rfl g121_111_12 (hb_52 _ _ _ _) rfl (Nat.le_of_ble_eq_true rfl) (by decide +kernel) (hi_52_27 _ _ _ _ _) ?_
                      refine zw_iconst (-1) 6 f121_5 rfl (by decide +kernel) ?_
                      refine zw_ireturn f121_6 r121 u121 ⟨_, rfl, ?_⟩
                      refine zw_ireturn f147_74 r147 u147 ?_
                      exact ⟨_, _, _, _, rfl, (KQ.i rfl KQ.rf), Or.inl ⟨(fun q => (fun q => q (nI_14 (by omega) (Decidable.of_not_not hc20))) q.2.2.2.2), (hR.k (pf := fun k j => decide (k = 52 ∧ j = 27)) (pa := fun _ => false) (KQ.i rfl KQ.rf) f27_R (fun _ _ _ => rfl)), rfl⟩⟩
def ok_fill (nv np : Nat) (A : Nat → Nat → Int32) (a : Int32) (b : Int32) : Prop := qV nv a ∧ qRg b 1 1000
set_option maxRecDepth 100000 in
set_option maxHeartbeats 0 in
theorem mm_fill (ro : UInt32 → Nat × (Nat → Int32)) (nv np : Nat) (W : qW) (L : qLog) (I : Nat → Nat → Int32) (G : Nat → Nat → Int64) (A : Nat → Nat → Int32) (B : Nat → Nat → Int64) (K : Int) (hR : mRS nv np A W L I G A B) (hp : MPa nv np A) (hW : wInv nv 10000 K A W) (hK0 : 0 ≤ K) (hK : K ≤ 199000000) (hn : L.1 < 900000000) (a : Int32) (b : Int32) : zWp ro 148 0 [(0, .ref 52), (1, .int a), (2, .int b)] [] (hS I G A B) 0 0 (fun r h1 => ∃ I2 G2 A2 B2, h1 = hS I2 G2 A2 B2 ∧ KQ fHn pHn I G A B I2 G2 A2 B2 ∧ ((¬ ok_fill nv np A a b ∧ mRS nv np A W L I2 G2 A2 B2 ∧ r = some (.int (-1))) ∨ (ok_fill nv np A a b ∧ MPa nv np A ∧ wInv nv 10000 (K + 1000) A (wFill (A 54) (A 59) a b W) ∧ mRS nv np A (wMom nv A (wFill (A 54) (A 59) a b W)) (qNotes (I 52 22) (wFill (A 54) (A 59) a b W).2.1 (wFill (A 54) (A 59) a b W).1 (I 52 41) L (wEv nv A (wFill (A 54) (A 59) a b W))) I2 G2 A2 B2 ∧ r = some (.int 1)))) := by
  have h8 := hp.1
  have h14 := hp.2.1
  refine zw_aload_n 1 f148_0 rfl rfl ?_
  refine zw_iload_n 2 f148_1 rfl rfl ?_
  refine zw_virtual_i 5 0 0 [.ref 52, .int a] [(0, .ref 52), (1, .int a)] f148_2 rfl n148_215 k148_215_12 rfl (hb_52 _ _ _ _) (by decide +kernel) (Nat.le_of_ble_eq_true rfl) rfl rfl (by decide +kernel) (by decide +kernel) rfl (Nat.le_of_ble_eq_true rfl) rfl ?_
  refine zw_iload_n 1 f123_0 rfl rfl ?_
  refine zw_iconst 0 2 f123_1 rfl (by decide +kernel) ?_
  refine zw_aload_n 3 f123_2 rfl rfl ?_
  refine zw_getI (nI nv) 6 f123_3 rfl g123_114_12 (hb_52 _ _ _ _) rfl hR.1.1 ?_
  refine zw_iconst 1 7 f123_6 rfl (by decide +kernel) ?_
  refine zw_isub ((nI nv) - 1) 8 f123_7 rfl rfl ?_
  refine zw_static_i 11 0 0 [.int a, .int 0, .int ((nI nv) - 1)] [] [(0, .int a), (1, .int 0), (2, .int ((nI nv) - 1))] f123_8 rfl k123_117_99 rfl (by decide +kernel) (Nat.le_of_ble_eq_true rfl) (Nat.le_of_ble_eq_true rfl) rfl rfl (by decide +kernel) (by decide +kernel) rfl (Nat.le_of_ble_eq_true rfl) rfl ?_
  refine zw_iload_n 1 f120_0 rfl rfl ?_
  refine zw_iload_n 2 f120_1 rfl rfl ?_
  refine zw_ic_lt 5 14 f120_2 (by decide +kernel) rfl (fun hc1 => ?_) (fun hc1 => ?_)
  · refine zw_iconst 0 15 f120_14 rfl (by decide +kernel) ?_
    refine zw_zreturn f120_15 r120 u120 (by decide +kernel) ⟨_, rfl, ?_⟩
    refine zw_zreturn f123_11 r123 u123 (by decide +kernel) ⟨_, rfl, ?_⟩
    refine zw_if_eq_t 19 f148_5 (by decide +kernel) (by decide +kernel) ?_
    refine zw_aload_n 20 f148_19 rfl rfl ?_
    refine zw_iconst 1 21 f148_20 rfl (by decide +kernel) ?_
    refine zw_virtual_i 24 0 0 [.ref 52, .int 1] [(0, .ref 52), (1, .int 1)] f148_21 rfl n148_209 k148_209_12 rfl (hb_52 _ _ _ _) (by decide +kernel) (Nat.le_of_ble_eq_true rfl) rfl rfl (by decide +kernel) (by decide +kernel) rfl (Nat.le_of_ble_eq_true rfl) rfl ?_
    refine zw_aload_n 1 f121_0 rfl rfl ?_
    refine zw_iload_n 2 f121_1 rfl rfl ?_
    refine zw_put _ 5 f121_2 rfl g121_111_12 (hb_52 _ _ _ _) rfl (Nat.le_of_ble_eq_true rfl) (by decide +kernel) (hi_52_27 _ _ _ _ _) ?_
    refine zw_iconst (-1) 6 f121_5 rfl (by decide +kernel) ?_
    refine zw_ireturn f121_6 r121 u121 ⟨_, rfl, ?_⟩
    refine zw_ireturn f148_24 r148 u148 ?_
    exact ⟨_, _, _, _, rfl, (KQ.i rfl KQ.rf), Or.inl ⟨(fun q => (qV.n0 (by omega) hc1) q.1), (hR.k (pf := fun k j => decide (k = 52 ∧ j = 27)) (pa := fun _ => false) (KQ.i rfl KQ.rf) f27_R (fun _ _ _ => rfl)), rfl⟩⟩
  · refine zw_iload_n 6 f120_5 rfl rfl ?_
    refine zw_iload_n 7 f120_6 rfl rfl ?_
    refine zw_ic_gt 10 14 f120_7 (by decide +kernel) rfl (fun hc2 => ?_) (fun hc2 => ?_)
    · refine zw_iconst 0 15 f120_14 rfl (by decide +kernel) ?_
      refine zw_zreturn f120_15 r120 u120 (by decide +kernel) ⟨_, rfl, ?_⟩
      refine zw_zreturn f123_11 r123 u123 (by decide +kernel) ⟨_, rfl, ?_⟩
      refine zw_if_eq_t 19 f148_5 (by decide +kernel) (by decide +kernel) ?_
      refine zw_aload_n 20 f148_19 rfl rfl ?_
      refine zw_iconst 1 21 f148_20 rfl (by decide +kernel) ?_
      refine zw_virtual_i 24 0 0 [.ref 52, .int 1] [(0, .ref 52), (1, .int 1)] f148_21 rfl n148_209 k148_209_12 rfl (hb_52 _ _ _ _) (by decide +kernel) (Nat.le_of_ble_eq_true rfl) rfl rfl (by decide +kernel) (by decide +kernel) rfl (Nat.le_of_ble_eq_true rfl) rfl ?_
      refine zw_aload_n 1 f121_0 rfl rfl ?_
      refine zw_iload_n 2 f121_1 rfl rfl ?_
      refine zw_put _ 5 f121_2 rfl g121_111_12 (hb_52 _ _ _ _) rfl (Nat.le_of_ble_eq_true rfl) (by decide +kernel) (hi_52_27 _ _ _ _ _) ?_
      refine zw_iconst (-1) 6 f121_5 rfl (by decide +kernel) ?_
      refine zw_ireturn f121_6 r121 u121 ⟨_, rfl, ?_⟩
      refine zw_ireturn f148_24 r148 u148 ?_
      exact ⟨_, _, _, _, rfl, (KQ.i rfl KQ.rf), Or.inl ⟨(fun q => (qV.n1 (by omega) hc2) q.1), (hR.k (pf := fun k j => decide (k = 52 ∧ j = 27)) (pa := fun _ => false) (KQ.i rfl KQ.rf) f27_R (fun _ _ _ => rfl)), rfl⟩⟩
    · refine zw_iconst 1 11 f120_10 rfl (by decide +kernel) ?_
      refine zw_goto 15 f120_11 (by decide +kernel) ?_
      refine zw_zreturn f120_15 r120 u120 (by decide +kernel) ⟨_, rfl, ?_⟩
      refine zw_zreturn f123_11 r123 u123 (by decide +kernel) ⟨_, rfl, ?_⟩
      refine zw_if_eq_f 8 19 f148_5 (by decide +kernel) rfl (by decide +kernel) ?_
      refine zw_iload_n 9 f148_8 rfl rfl ?_
      refine zw_iconst 1 10 f148_9 rfl (by decide +kernel) ?_
      refine zw_sipush 1000 13 f148_10 rfl (by decide +kernel) ?_
      refine zw_static_i 16 0 0 [.int b, .int 1, .int 1000] [] [(0, .int b), (1, .int 1), (2, .int 1000)] f148_13 rfl k148_117_99 rfl (by decide +kernel) (Nat.le_of_ble_eq_true rfl) (Nat.le_of_ble_eq_true rfl) rfl rfl (by decide +kernel) (by decide +kernel) rfl (Nat.le_of_ble_eq_true rfl) rfl ?_
      refine zw_iload_n 1 f120_0 rfl rfl ?_
      refine zw_iload_n 2 f120_1 rfl rfl ?_
      refine zw_ic_lt 5 14 f120_2 (by decide +kernel) rfl (fun hc3 => ?_) (fun hc3 => ?_)
      · refine zw_iconst 0 15 f120_14 rfl (by decide +kernel) ?_
        refine zw_zreturn f120_15 r120 u120 (by decide +kernel) ⟨_, rfl, ?_⟩
        refine zw_if_ne_f 19 25 f148_16 (by decide +kernel) rfl (by decide +kernel) ?_
        refine zw_aload_n 20 f148_19 rfl rfl ?_
        refine zw_iconst 1 21 f148_20 rfl (by decide +kernel) ?_
        refine zw_virtual_i 24 0 0 [.ref 52, .int 1] [(0, .ref 52), (1, .int 1)] f148_21 rfl n148_209 k148_209_12 rfl (hb_52 _ _ _ _) (by decide +kernel) (Nat.le_of_ble_eq_true rfl) rfl rfl (by decide +kernel) (by decide +kernel) rfl (Nat.le_of_ble_eq_true rfl) rfl ?_
        refine zw_aload_n 1 f121_0 rfl rfl ?_
        refine zw_iload_n 2 f121_1 rfl rfl ?_
        refine zw_put _ 5 f121_2 rfl g121_111_12 (hb_52 _ _ _ _) rfl (Nat.le_of_ble_eq_true rfl) (by decide +kernel) (hi_52_27 _ _ _ _ _) ?_
        refine zw_iconst (-1) 6 f121_5 rfl (by decide +kernel) ?_
        refine zw_ireturn f121_6 r121 u121 ⟨_, rfl, ?_⟩
        refine zw_ireturn f148_24 r148 u148 ?_
        exact ⟨_, _, _, _, rfl, (KQ.i rfl KQ.rf), Or.inl ⟨(fun q => (fun q => q.1 hc3) q.2), (hR.k (pf := fun k j => decide (k = 52 ∧ j = 27)) (pa := fun _ => false) (KQ.i rfl KQ.rf) f27_R (fun _ _ _ => rfl)), rfl⟩⟩
      · refine zw_iload_n 6 f120_5 rfl rfl ?_
        refine zw_iload_n 7 f120_6 rfl rfl ?_
        refine zw_ic_gt 10 14 f120_7 (by decide +kernel) rfl (fun hc4 => ?_) (fun hc4 => ?_)
        · refine zw_iconst 0 15 f120_14 rfl (by decide +kernel) ?_
          refine zw_zreturn f120_15 r120 u120 (by decide +kernel) ⟨_, rfl, ?_⟩
          refine zw_if_ne_f 19 25 f148_16 (by decide +kernel) rfl (by decide +kernel) ?_
          refine zw_aload_n 20 f148_19 rfl rfl ?_
          refine zw_iconst 1 21 f148_20 rfl (by decide +kernel) ?_
          refine zw_virtual_i 24 0 0 [.ref 52, .int 1] [(0, .ref 52), (1, .int 1)] f148_21 rfl n148_209 k148_209_12 rfl (hb_52 _ _ _ _) (by decide +kernel) (Nat.le_of_ble_eq_true rfl) rfl rfl (by decide +kernel) (by decide +kernel) rfl (Nat.le_of_ble_eq_true rfl) rfl ?_
          refine zw_aload_n 1 f121_0 rfl rfl ?_
          refine zw_iload_n 2 f121_1 rfl rfl ?_
          refine zw_put _ 5 f121_2 rfl g121_111_12 (hb_52 _ _ _ _) rfl (Nat.le_of_ble_eq_true rfl) (by decide +kernel) (hi_52_27 _ _ _ _ _) ?_
          refine zw_iconst (-1) 6 f121_5 rfl (by decide +kernel) ?_
          refine zw_ireturn f121_6 r121 u121 ⟨_, rfl, ?_⟩
          refine zw_ireturn f148_24 r148 u148 ?_
          exact ⟨_, _, _, _, rfl, (KQ.i rfl KQ.rf), Or.inl ⟨(fun q => (fun q => q.2 hc4) q.2), (hR.k (pf := fun k j => decide (k = 52 ∧ j = 27)) (pa := fun _ => false) (KQ.i rfl KQ.rf) f27_R (fun _ _ _ => rfl)), rfl⟩⟩
        · refine zw_iconst 1 11 f120_10 rfl (by decide +kernel) ?_
          refine zw_goto 15 f120_11 (by decide +kernel) ?_
          refine zw_zreturn f120_15 r120 u120 (by decide +kernel) ⟨_, rfl, ?_⟩
          refine zw_if_ne_t 25 f148_16 (by decide +kernel) (by decide +kernel) ?_
          refine zw_aload_n 26 f148_25 rfl rfl ?_
          refine zw_dup 27 f148_26 rfl rfl ?_
          refine zw_getG (G 52 21) 30 f148_27 rfl g148_225_12 (hb_52 _ _ _ _) rfl rfl ?_
          refine zw_iload_n 31 f148_30 rfl rfl ?_
          refine zw_i2l (Int32.toInt64 b) 32 f148_31 rfl rfl ?_
          refine zw_ladd ((G 52 21) + (Int32.toInt64 b)) 33 f148_32 rfl rfl ?_
          refine zw_put _ 36 f148_33 rfl g148_225_12 (hb_52 _ _ _ _) rfl (Nat.le_of_ble_eq_true rfl) (by decide +kernel) (hg_52_21 _ _ _ _ _) ?_
          refine zw_aload_n 37 f148_36 rfl rfl ?_
          refine zw_iload_n 38 f148_37 rfl rfl ?_
          refine zw_iload_n 39 f148_38 rfl rfl ?_
          refine zw_i2l (Int32.toInt64 b) 40 f148_39 rfl rfl ?_
          refine zw_aload_n 41 f148_40 rfl rfl ?_
          refine zw_getG W.1 44 f148_41 rfl g148_40_12 (hb_52 _ _ _ _) rfl hR.g ?_
          refine zw_lmul ((Int32.toInt64 b) * W.1) 45 f148_44 rfl rfl ?_
          refine zw_virtual_v 48 0 0 [.ref 52, .int a, .long ((Int32.toInt64 b) * W.1)] [(0, .ref 52), (1, .int a), (2, .long ((Int32.toInt64 b) * W.1))] f148_45 rfl n148_192 k148_192_12 rfl (hb_52 _ _ _ _) (by decide +kernel) (Nat.le_of_ble_eq_true rfl) rfl rfl (by decide +kernel) (by decide +kernel) rfl (Nat.le_of_ble_eq_true rfl) rfl ?_
          have hok : ok_fill nv np A a b := ⟨(qV.of (by omega) hc1 hc2), ⟨hc3, hc4⟩⟩
          have hto : mTo nv 0 a := Or.inr ⟨_, Nat.zero_le _, hok.1.1, hok.1.2⟩
          refine zWp.mono (mm_pour ro nv np I (upd2 G 52 21 ((G 52 21) + (Int32.toInt64 b))) A B (hR.mp hp) (A 54) (A 59) W.1 W.2.2.2.1 rfl rfl hR.g W.2.2.2.2.1 hR.lev hR.dr a ((Int32.toInt64 b) * W.1) hto) ?_
          rintro r h1 ⟨I3, G3, A3, B3, rfl, K3, P3, rfl⟩
          refine ⟨rfl, ?_⟩
          refine zw_aload_n 49 f148_48 rfl rfl ?_
          refine zw_iconst 1 50 f148_49 rfl (by decide +kernel) ?_
          refine zw_virtual_i 53 0 0 [.ref 52, .int 1] [(0, .ref 52), (1, .int 1)] f148_50 rfl n148_212 k148_212_12 rfl (hb_52 _ _ _ _) (by decide +kernel) (Nat.le_of_ble_eq_true rfl) rfl rfl (by decide +kernel) (by decide +kernel) rfl (Nat.le_of_ble_eq_true rfl) rfl ?_
          have Rz : mRS nv np A (wFill (A 54) (A 59) a b W) L I3 G3 A3 B3 := ⟨⟨(K3.1 52 0 rfl).trans hR.1.1, (K3.1 52 8 rfl).trans hR.1.2⟩, fun k k1 k2 => K3.2.2.1 k (by simp only [p63, decide_eq_false_iff_not]; omega), by rw [← hR.2.2.1] at P3 ⊢; unfold wR wFill; rw [P3.1, P3.2, K3.2.1 52 12 rfl, K3.2.1 52 13 rfl, K3.2.1 52 14 rfl, K3.2.2.1 65 rfl, K3.2.2.1 64 rfl, K3.2.2.1 66 rfl]; rfl, qLR.k K3 rfl rfl rfl rfl rfl rfl hR.2.2.2⟩
          have hp2 := hp
          have hW2 : wInv nv 10000 (K + 1000) A (wFill (A 54) (A 59) a b W) := wInv.fi hp hW (by omega) (by omega) (qRg.i (by decide) (by decide) hok.2) hto
          refine zWp.mono (mm_hand ro nv np A (wFill (A 54) (A 59) a b W) L _ _ _ _ (K + 1000) 1 Rz hp2 hW2 (by omega) (by omega)) ?_
          rintro r h1 ⟨I2, G2, A2, B2, rfl, K2, R2, rfl⟩
          refine ⟨_, rfl, ?_⟩
          refine zw_ireturn f148_53 r148 u148 ?_
          exact ⟨_, _, _, _, rfl, (KQ.tr (KQ.tr (KQ.g rfl KQ.rf) (KQ.wk K3 fW_Hn p63_Hn)) K2), Or.inr ⟨hok, hp2, hW2, by have := R2; rw [K3.1 52 22 rfl, K3.1 52 41 rfl] at this; exact this, rfl⟩⟩
def ok_shut (nv np : Nat) (A : Nat → Nat → Int32) (a : Int32) (b : Int32) : Prop := qV np a
set_option maxRecDepth 100000 in
set_option maxHeartbeats 0 in
theorem mm_shut (ro : UInt32 → Nat × (Nat → Int32)) (nv np : Nat) (W : qW) (L : qLog) (I : Nat → Nat → Int32) (G : Nat → Nat → Int64) (A : Nat → Nat → Int32) (B : Nat → Nat → Int64) (K : Int) (hR : mRS nv np A W L I G A B) (hp : MPa nv np A) (hW : wInv nv 10000 K A W) (hK0 : 0 ≤ K) (hK : K ≤ 199000000) (hn : L.1 < 900000000) (a : Int32) (b : Int32) (hz : b = 0 ∨ b = 1) : zWp ro 149 0 [(0, .ref 52), (1, .int a), (2, .int b)] [] (hS I G A B) 0 0 (fun r h1 => ∃ I2 G2 A2 B2, h1 = hS I2 G2 A2 B2 ∧ KQ fHn pHn I G A B I2 G2 A2 B2 ∧ ((¬ ok_shut nv np A a b ∧ mRS nv np A W L I2 G2 A2 B2 ∧ r = some (.int (-1))) ∨ (ok_shut nv np A a b ∧ MPa nv np A ∧ wInv nv 10000 (K + 1000) A (wOpn a.toNatClampNeg (if b = 0 then 1 else 0) W) ∧ mRS nv np A (wMom nv A (wOpn a.toNatClampNeg (if b = 0 then 1 else 0) W)) (qNotes (I 52 22) (wOpn a.toNatClampNeg (if b = 0 then 1 else 0) W).2.1 (wOpn a.toNatClampNeg (if b = 0 then 1 else 0) W).1 (I 52 41) L (wEv nv A (wOpn a.toNatClampNeg (if b = 0 then 1 else 0) W))) I2 G2 A2 B2 ∧ r = some (.int (if ((W.2.2.2.2.2.2.1) a.toNatClampNeg) = b then 1 else 0))))) := by
  have h8 := hp.1
  have h14 := hp.2.1
  refine zw_aload_n 1 f149_0 rfl rfl ?_
  refine zw_iload_n 2 f149_1 rfl rfl ?_
  refine zw_virtual_i 5 0 0 [.ref 52, .int a] [(0, .ref 52), (1, .int a)] f149_2 rfl n149_218 k149_218_12 rfl (hb_52 _ _ _ _) (by decide +kernel) (Nat.le_of_ble_eq_true rfl) rfl rfl (by decide +kernel) (by decide +kernel) rfl (Nat.le_of_ble_eq_true rfl) rfl ?_
  refine zw_iload_n 1 f124_0 rfl rfl ?_
  refine zw_iconst 0 2 f124_1 rfl (by decide +kernel) ?_
  refine zw_aload_n 3 f124_2 rfl rfl ?_
  refine zw_getI (nI np) 6 f124_3 rfl g124_121_12 (hb_52 _ _ _ _) rfl hR.1.2 ?_
  refine zw_iconst 1 7 f124_6 rfl (by decide +kernel) ?_
  refine zw_isub ((nI np) - 1) 8 f124_7 rfl rfl ?_
  refine zw_static_i 11 0 0 [.int a, .int 0, .int ((nI np) - 1)] [] [(0, .int a), (1, .int 0), (2, .int ((nI np) - 1))] f124_8 rfl k124_117_99 rfl (by decide +kernel) (Nat.le_of_ble_eq_true rfl) (Nat.le_of_ble_eq_true rfl) rfl rfl (by decide +kernel) (by decide +kernel) rfl (Nat.le_of_ble_eq_true rfl) rfl ?_
  refine zw_iload_n 1 f120_0 rfl rfl ?_
  refine zw_iload_n 2 f120_1 rfl rfl ?_
  refine zw_ic_lt 5 14 f120_2 (by decide +kernel) rfl (fun hc1 => ?_) (fun hc1 => ?_)
  · refine zw_iconst 0 15 f120_14 rfl (by decide +kernel) ?_
    refine zw_zreturn f120_15 r120 u120 (by decide +kernel) ⟨_, rfl, ?_⟩
    refine zw_zreturn f124_11 r124 u124 (by decide +kernel) ⟨_, rfl, ?_⟩
    refine zw_if_ne_f 8 14 f149_5 (by decide +kernel) rfl (by decide +kernel) ?_
    refine zw_aload_n 9 f149_8 rfl rfl ?_
    refine zw_iconst 1 10 f149_9 rfl (by decide +kernel) ?_
    refine zw_virtual_i 13 0 0 [.ref 52, .int 1] [(0, .ref 52), (1, .int 1)] f149_10 rfl n149_209 k149_209_12 rfl (hb_52 _ _ _ _) (by decide +kernel) (Nat.le_of_ble_eq_true rfl) rfl rfl (by decide +kernel) (by decide +kernel) rfl (Nat.le_of_ble_eq_true rfl) rfl ?_
    refine zw_aload_n 1 f121_0 rfl rfl ?_
    refine zw_iload_n 2 f121_1 rfl rfl ?_
    refine zw_put _ 5 f121_2 rfl g121_111_12 (hb_52 _ _ _ _) rfl (Nat.le_of_ble_eq_true rfl) (by decide +kernel) (hi_52_27 _ _ _ _ _) ?_
    refine zw_iconst (-1) 6 f121_5 rfl (by decide +kernel) ?_
    refine zw_ireturn f121_6 r121 u121 ⟨_, rfl, ?_⟩
    refine zw_ireturn f149_13 r149 u149 ?_
    exact ⟨_, _, _, _, rfl, (KQ.i rfl KQ.rf), Or.inl ⟨(fun q => (qV.n0 (by omega) hc1) q), (hR.k (pf := fun k j => decide (k = 52 ∧ j = 27)) (pa := fun _ => false) (KQ.i rfl KQ.rf) f27_R (fun _ _ _ => rfl)), rfl⟩⟩
  · refine zw_iload_n 6 f120_5 rfl rfl ?_
    refine zw_iload_n 7 f120_6 rfl rfl ?_
    refine zw_ic_gt 10 14 f120_7 (by decide +kernel) rfl (fun hc2 => ?_) (fun hc2 => ?_)
    · refine zw_iconst 0 15 f120_14 rfl (by decide +kernel) ?_
      refine zw_zreturn f120_15 r120 u120 (by decide +kernel) ⟨_, rfl, ?_⟩
      refine zw_zreturn f124_11 r124 u124 (by decide +kernel) ⟨_, rfl, ?_⟩
      refine zw_if_ne_f 8 14 f149_5 (by decide +kernel) rfl (by decide +kernel) ?_
      refine zw_aload_n 9 f149_8 rfl rfl ?_
      refine zw_iconst 1 10 f149_9 rfl (by decide +kernel) ?_
      refine zw_virtual_i 13 0 0 [.ref 52, .int 1] [(0, .ref 52), (1, .int 1)] f149_10 rfl n149_209 k149_209_12 rfl (hb_52 _ _ _ _) (by decide +kernel) (Nat.le_of_ble_eq_true rfl) rfl rfl (by decide +kernel) (by decide +kernel) rfl (Nat.le_of_ble_eq_true rfl) rfl ?_
      refine zw_aload_n 1 f121_0 rfl rfl ?_
      refine zw_iload_n 2 f121_1 rfl rfl ?_
      refine zw_put _ 5 f121_2 rfl g121_111_12 (hb_52 _ _ _ _) rfl (Nat.le_of_ble_eq_true rfl) (by decide +kernel) (hi_52_27 _ _ _ _ _) ?_
      refine zw_iconst (-1) 6 f121_5 rfl (by decide +kernel) ?_
      refine zw_ireturn f121_6 r121 u121 ⟨_, rfl, ?_⟩
      refine zw_ireturn f149_13 r149 u149 ?_
      exact ⟨_, _, _, _, rfl, (KQ.i rfl KQ.rf), Or.inl ⟨(fun q => (qV.n1 (by omega) hc2) q), (hR.k (pf := fun k j => decide (k = 52 ∧ j = 27)) (pa := fun _ => false) (KQ.i rfl KQ.rf) f27_R (fun _ _ _ => rfl)), rfl⟩⟩
    · refine zw_iconst 1 11 f120_10 rfl (by decide +kernel) ?_
      refine zw_goto 15 f120_11 (by decide +kernel) ?_
      refine zw_zreturn f120_15 r120 u120 (by decide +kernel) ⟨_, rfl, ?_⟩
      refine zw_zreturn f124_11 r124 u124 (by decide +kernel) ⟨_, rfl, ?_⟩
      refine zw_if_ne_t 14 f149_5 (by decide +kernel) (by decide +kernel) ?_
      refine zw_aload_n 15 f149_14 rfl rfl ?_
      refine zw_getfield 18 f149_15 rfl g149_48_12 (hb_52 _ _ _ _) rfl ?_
      refine zw_iload_n 19 f149_18 rfl rfl ?_
      refine zw_baload a.toNatClampNeg ((W.2.2.2.2.2.2.1) a.toNatClampNeg) 20 f149_19 rfl (hb_64 _ _ _ _) rfl hc1 (zix (by decide) hc1 (show ¬ 14 ≤ a from ix_le hp.2.1 (by decide) (by decide) hc1 hc2)) (congrFun (hR.opn) a.toNatClampNeg) ?_
      refine zw_iload_n 21 f149_20 rfl rfl ?_
      refine zw_ic_ne 24 28 f149_21 (by decide +kernel) rfl (fun hc3 => ?_) (fun hc3 => ?_)
      · refine zw_iconst 0 29 f149_28 rfl (by decide +kernel) ?_
        refine zw_istore_n _ 30 f149_29 rfl (by decide +kernel) rfl ?_
        refine zw_aload_n 31 f149_30 rfl (zl1_ne rfl rfl rfl) ?_
        refine zw_getfield 34 f149_31 rfl g149_48_12 (hb_52 _ _ _ _) rfl ?_
        refine zw_iload_n 35 f149_34 rfl (zl1_ne rfl rfl rfl) ?_
        refine zw_iload_n 36 f149_35 rfl (zl1_ne rfl rfl rfl) ?_
        refine zw_if_ne 39 43 f149_36 (by decide +kernel) rfl (fun hc4 => ?_) (fun hc4 => ?_)
        · refine zw_iconst 0 44 f149_43 rfl (by decide +kernel) ?_
          refine zw_bst a.toNatClampNeg _ 45 f149_44 rfl (hb_64 _ _ _ _) rfl hc1 (zix (by decide) hc1 (show ¬ 14 ≤ a from ix_le hp.2.1 (by decide) (by decide) hc1 hc2)) (ha_64 _ _ _ _ _) ?_
          refine zw_aload_n 46 f149_45 rfl (zl1_ne rfl rfl rfl) ?_
          refine zw_iload_n 47 f149_46 rfl zl1_eq ?_
          refine zw_virtual_i 50 0 0 [.ref 52, .int 0] [(0, .ref 52), (1, .int 0)] f149_47 rfl n149_212 k149_212_12 rfl (hb_52 _ _ _ _) (by decide +kernel) (Nat.le_of_ble_eq_true rfl) rfl rfl (by decide +kernel) (by decide +kernel) rfl (Nat.le_of_ble_eq_true rfl) rfl ?_
          have hok : ok_shut nv np A a b := (qV.of (by omega) hc1 hc2)
          have Rz : mRS nv np A (wOpn a.toNatClampNeg 0 W) L I G (updA A 64 (upd (A 64) a.toNatClampNeg (vp_nar .boolean 0))) B := ⟨⟨hR.1.1, hR.1.2⟩, (fun k k1 k2 => if_neg (show ¬ k = 64 by omega)), wOpn_r hR rfl rfl rfl rfl rfl rfl (by rw [← vnar_0]; rfl) rfl, hR.2.2.2⟩
          have hp2 := hp
          have hW2 : wInv nv 10000 (K + 1000) A (wOpn a.toNatClampNeg 0 W) := (hW.op (by have := hok.1; omega) (by decide)).mo (by omega) (by omega)
          refine zWp.mono (mm_hand ro nv np A (wOpn a.toNatClampNeg 0 W) L _ _ _ _ (K + 1000) 0 Rz hp2 hW2 (by omega) (by omega)) ?_
          rintro r h1 ⟨I2, G2, A2, B2, rfl, K2, R2, rfl⟩
          refine ⟨_, rfl, ?_⟩
          refine zw_ireturn f149_50 r149 u149 ?_
          exact ⟨_, _, _, _, rfl, (KQ.tr (KQ.a rfl KQ.rf) K2), Or.inr ⟨hok, by rw [show (if b = 0 then (1 : Int32) else 0) = 0 from if_neg hc4, show (if ((W.2.2.2.2.2.2.1) a.toNatClampNeg) = b then (1 : Int32) else 0) = _ from (if_neg hc3)]; exact ⟨hp2, hW2, R2, rfl⟩⟩⟩
        · refine zw_iconst 1 40 f149_39 rfl (by decide +kernel) ?_
          refine zw_goto 44 f149_40 (by decide +kernel) ?_
          refine zw_bst a.toNatClampNeg _ 45 f149_44 rfl (hb_64 _ _ _ _) rfl hc1 (zix (by decide) hc1 (show ¬ 14 ≤ a from ix_le hp.2.1 (by decide) (by decide) hc1 hc2)) (ha_64 _ _ _ _ _) ?_
          refine zw_aload_n 46 f149_45 rfl (zl1_ne rfl rfl rfl) ?_
          refine zw_iload_n 47 f149_46 rfl zl1_eq ?_
          refine zw_virtual_i 50 0 0 [.ref 52, .int 0] [(0, .ref 52), (1, .int 0)] f149_47 rfl n149_212 k149_212_12 rfl (hb_52 _ _ _ _) (by decide +kernel) (Nat.le_of_ble_eq_true rfl) rfl rfl (by decide +kernel) (by decide +kernel) rfl (Nat.le_of_ble_eq_true rfl) rfl ?_
          have hok : ok_shut nv np A a b := (qV.of (by omega) hc1 hc2)
          have Rz : mRS nv np A (wOpn a.toNatClampNeg 1 W) L I G (updA A 64 (upd (A 64) a.toNatClampNeg (vp_nar .boolean 1))) B := ⟨⟨hR.1.1, hR.1.2⟩, (fun k k1 k2 => if_neg (show ¬ k = 64 by omega)), wOpn_r hR rfl rfl rfl rfl rfl rfl (by rw [← vnar_1]; rfl) rfl, hR.2.2.2⟩
          have hp2 := hp
          have hW2 : wInv nv 10000 (K + 1000) A (wOpn a.toNatClampNeg 1 W) := (hW.op (by have := hok.1; omega) (by decide)).mo (by omega) (by omega)
          refine zWp.mono (mm_hand ro nv np A (wOpn a.toNatClampNeg 1 W) L _ _ _ _ (K + 1000) 0 Rz hp2 hW2 (by omega) (by omega)) ?_
          rintro r h1 ⟨I2, G2, A2, B2, rfl, K2, R2, rfl⟩
          refine ⟨_, rfl, ?_⟩
          refine zw_ireturn f149_50 r149 u149 ?_
          exact ⟨_, _, _, _, rfl, (KQ.tr (KQ.a rfl KQ.rf) K2), Or.inr ⟨hok, by rw [show (if b = 0 then (1 : Int32) else 0) = 1 from if_pos (Decidable.of_not_not hc4), show (if ((W.2.2.2.2.2.2.1) a.toNatClampNeg) = b then (1 : Int32) else 0) = _ from (if_neg hc3)]; exact ⟨hp2, hW2, R2, rfl⟩⟩⟩
      · refine zw_iconst 1 25 f149_24 rfl (by decide +kernel) ?_
        refine zw_goto 29 f149_25 (by decide +kernel) ?_
        refine zw_istore_n _ 30 f149_29 rfl (by decide +kernel) rfl ?_
        refine zw_aload_n 31 f149_30 rfl (zl1_ne rfl rfl rfl) ?_
        refine zw_getfield 34 f149_31 rfl g149_48_12 (hb_52 _ _ _ _) rfl ?_
        refine zw_iload_n 35 f149_34 rfl (zl1_ne rfl rfl rfl) ?_
        refine zw_iload_n 36 f149_35 rfl (zl1_ne rfl rfl rfl) ?_
        refine zw_if_ne 39 43 f149_36 (by decide +kernel) rfl (fun hc5 => ?_) (fun hc5 => ?_)
        · refine zw_iconst 0 44 f149_43 rfl (by decide +kernel) ?_
          refine zw_bst a.toNatClampNeg _ 45 f149_44 rfl (hb_64 _ _ _ _) rfl hc1 (zix (by decide) hc1 (show ¬ 14 ≤ a from ix_le hp.2.1 (by decide) (by decide) hc1 hc2)) (ha_64 _ _ _ _ _) ?_
          refine zw_aload_n 46 f149_45 rfl (zl1_ne rfl rfl rfl) ?_
          refine zw_iload_n 47 f149_46 rfl zl1_eq ?_
          refine zw_virtual_i 50 0 0 [.ref 52, .int 1] [(0, .ref 52), (1, .int 1)] f149_47 rfl n149_212 k149_212_12 rfl (hb_52 _ _ _ _) (by decide +kernel) (Nat.le_of_ble_eq_true rfl) rfl rfl (by decide +kernel) (by decide +kernel) rfl (Nat.le_of_ble_eq_true rfl) rfl ?_
          have hok : ok_shut nv np A a b := (qV.of (by omega) hc1 hc2)
          have Rz : mRS nv np A (wOpn a.toNatClampNeg 0 W) L I G (updA A 64 (upd (A 64) a.toNatClampNeg (vp_nar .boolean 0))) B := ⟨⟨hR.1.1, hR.1.2⟩, (fun k k1 k2 => if_neg (show ¬ k = 64 by omega)), wOpn_r hR rfl rfl rfl rfl rfl rfl (by rw [← vnar_0]; rfl) rfl, hR.2.2.2⟩
          have hp2 := hp
          have hW2 : wInv nv 10000 (K + 1000) A (wOpn a.toNatClampNeg 0 W) := (hW.op (by have := hok.1; omega) (by decide)).mo (by omega) (by omega)
          refine zWp.mono (mm_hand ro nv np A (wOpn a.toNatClampNeg 0 W) L _ _ _ _ (K + 1000) 1 Rz hp2 hW2 (by omega) (by omega)) ?_
          rintro r h1 ⟨I2, G2, A2, B2, rfl, K2, R2, rfl⟩
          refine ⟨_, rfl, ?_⟩
          refine zw_ireturn f149_50 r149 u149 ?_
          exact ⟨_, _, _, _, rfl, (KQ.tr (KQ.a rfl KQ.rf) K2), Or.inr ⟨hok, by rw [show (if b = 0 then (1 : Int32) else 0) = 0 from if_neg hc5, show (if ((W.2.2.2.2.2.2.1) a.toNatClampNeg) = b then (1 : Int32) else 0) = _ from (if_pos (Decidable.of_not_not hc3))]; exact ⟨hp2, hW2, R2, rfl⟩⟩⟩
        · refine zw_iconst 1 40 f149_39 rfl (by decide +kernel) ?_
          refine zw_goto 44 f149_40 (by decide +kernel) ?_
          refine zw_bst a.toNatClampNeg _ 45 f149_44 rfl (hb_64 _ _ _ _) rfl hc1 (zix (by decide) hc1 (show ¬ 14 ≤ a from ix_le hp.2.1 (by decide) (by decide) hc1 hc2)) (ha_64 _ _ _ _ _) ?_
          refine zw_aload_n 46 f149_45 rfl (zl1_ne rfl rfl rfl) ?_
          refine zw_iload_n 47 f149_46 rfl zl1_eq ?_
          refine zw_virtual_i 50 0 0 [.ref 52, .int 1] [(0, .ref 52), (1, .int 1)] f149_47 rfl n149_212 k149_212_12 rfl (hb_52 _ _ _ _) (by decide +kernel) (Nat.le_of_ble_eq_true rfl) rfl rfl (by decide +kernel) (by decide +kernel) rfl (Nat.le_of_ble_eq_true rfl) rfl ?_
          have hok : ok_shut nv np A a b := (qV.of (by omega) hc1 hc2)
          have Rz : mRS nv np A (wOpn a.toNatClampNeg 1 W) L I G (updA A 64 (upd (A 64) a.toNatClampNeg (vp_nar .boolean 1))) B := ⟨⟨hR.1.1, hR.1.2⟩, (fun k k1 k2 => if_neg (show ¬ k = 64 by omega)), wOpn_r hR rfl rfl rfl rfl rfl rfl (by rw [← vnar_1]; rfl) rfl, hR.2.2.2⟩
          have hp2 := hp
          have hW2 : wInv nv 10000 (K + 1000) A (wOpn a.toNatClampNeg 1 W) := (hW.op (by have := hok.1; omega) (by decide)).mo (by omega) (by omega)
          refine zWp.mono (mm_hand ro nv np A (wOpn a.toNatClampNeg 1 W) L _ _ _ _ (K + 1000) 1 Rz hp2 hW2 (by omega) (by omega)) ?_
          rintro r h1 ⟨I2, G2, A2, B2, rfl, K2, R2, rfl⟩
          refine ⟨_, rfl, ?_⟩
          refine zw_ireturn f149_50 r149 u149 ?_
          exact ⟨_, _, _, _, rfl, (KQ.tr (KQ.a rfl KQ.rf) K2), Or.inr ⟨hok, by rw [show (if b = 0 then (1 : Int32) else 0) = 1 from if_pos (Decidable.of_not_not hc5), show (if ((W.2.2.2.2.2.2.1) a.toNatClampNeg) = b then (1 : Int32) else 0) = _ from (if_pos (Decidable.of_not_not hc3))]; exact ⟨hp2, hW2, R2, rfl⟩⟩⟩
def ok_amount (nv np : Nat) (A : Nat → Nat → Int32) (a : Int32) (b : Int32) : Prop := qV np a ∧ qRg b 1 20
set_option maxRecDepth 100000 in
set_option maxHeartbeats 0 in
theorem mm_amount (ro : UInt32 → Nat × (Nat → Int32)) (nv np : Nat) (W : qW) (L : qLog) (I : Nat → Nat → Int32) (G : Nat → Nat → Int64) (A : Nat → Nat → Int32) (B : Nat → Nat → Int64) (K : Int) (hR : mRS nv np A W L I G A B) (hp : MPa nv np A) (hW : wInv nv 10000 K A W) (hK0 : 0 ≤ K) (hK : K ≤ 199000000) (hn : L.1 < 900000000) (a : Int32) (b : Int32) : zWp ro 150 0 [(0, .ref 52), (1, .int a), (2, .int b)] [] (hS I G A B) 0 0 (fun r h1 => ∃ I2 G2 A2 B2, h1 = hS I2 G2 A2 B2 ∧ KQ fHn pHn I G A B I2 G2 A2 B2 ∧ ((¬ ok_amount nv np A a b ∧ mRS nv np A W L I2 G2 A2 B2 ∧ r = some (.int (-1))) ∨ (ok_amount nv np A a b ∧ MPa nv np (updA A 62 (upd (A 62) a.toNatClampNeg b)) ∧ wInv nv 10000 (K + 1000) (updA A 62 (upd (A 62) a.toNatClampNeg b)) W ∧ mRS nv np (updA A 62 (upd (A 62) a.toNatClampNeg b)) (wMom nv (updA A 62 (upd (A 62) a.toNatClampNeg b)) W) (qNotes (I 52 22) W.2.1 W.1 (I 52 41) L (wEv nv (updA A 62 (upd (A 62) a.toNatClampNeg b)) W)) I2 G2 A2 B2 ∧ r = some (.int (A 62 a.toNatClampNeg))))) := by
  have h8 := hp.1
  have h14 := hp.2.1
  refine zw_aload_n 1 f150_0 rfl rfl ?_
  refine zw_iload_n 2 f150_1 rfl rfl ?_
  refine zw_virtual_i 5 0 0 [.ref 52, .int a] [(0, .ref 52), (1, .int a)] f150_2 rfl n150_218 k150_218_12 rfl (hb_52 _ _ _ _) (by decide +kernel) (Nat.le_of_ble_eq_true rfl) rfl rfl (by decide +kernel) (by decide +kernel) rfl (Nat.le_of_ble_eq_true rfl) rfl ?_
  refine zw_iload_n 1 f124_0 rfl rfl ?_
  refine zw_iconst 0 2 f124_1 rfl (by decide +kernel) ?_
  refine zw_aload_n 3 f124_2 rfl rfl ?_
  refine zw_getI (nI np) 6 f124_3 rfl g124_121_12 (hb_52 _ _ _ _) rfl hR.1.2 ?_
  refine zw_iconst 1 7 f124_6 rfl (by decide +kernel) ?_
  refine zw_isub ((nI np) - 1) 8 f124_7 rfl rfl ?_
  refine zw_static_i 11 0 0 [.int a, .int 0, .int ((nI np) - 1)] [] [(0, .int a), (1, .int 0), (2, .int ((nI np) - 1))] f124_8 rfl k124_117_99 rfl (by decide +kernel) (Nat.le_of_ble_eq_true rfl) (Nat.le_of_ble_eq_true rfl) rfl rfl (by decide +kernel) (by decide +kernel) rfl (Nat.le_of_ble_eq_true rfl) rfl ?_
  refine zw_iload_n 1 f120_0 rfl rfl ?_
  refine zw_iload_n 2 f120_1 rfl rfl ?_
  refine zw_ic_lt 5 14 f120_2 (by decide +kernel) rfl (fun hc1 => ?_) (fun hc1 => ?_)
  · refine zw_iconst 0 15 f120_14 rfl (by decide +kernel) ?_
    refine zw_zreturn f120_15 r120 u120 (by decide +kernel) ⟨_, rfl, ?_⟩
    refine zw_zreturn f124_11 r124 u124 (by decide +kernel) ⟨_, rfl, ?_⟩
    refine zw_if_eq_t 18 f150_5 (by decide +kernel) (by decide +kernel) ?_
    refine zw_aload_n 19 f150_18 rfl rfl ?_
    refine zw_iconst 1 20 f150_19 rfl (by decide +kernel) ?_
    refine zw_virtual_i 23 0 0 [.ref 52, .int 1] [(0, .ref 52), (1, .int 1)] f150_20 rfl n150_209 k150_209_12 rfl (hb_52 _ _ _ _) (by decide +kernel) (Nat.le_of_ble_eq_true rfl) rfl rfl (by decide +kernel) (by decide +kernel) rfl (Nat.le_of_ble_eq_true rfl) rfl ?_
    refine zw_aload_n 1 f121_0 rfl rfl ?_
    refine zw_iload_n 2 f121_1 rfl rfl ?_
    refine zw_put _ 5 f121_2 rfl g121_111_12 (hb_52 _ _ _ _) rfl (Nat.le_of_ble_eq_true rfl) (by decide +kernel) (hi_52_27 _ _ _ _ _) ?_
    refine zw_iconst (-1) 6 f121_5 rfl (by decide +kernel) ?_
    refine zw_ireturn f121_6 r121 u121 ⟨_, rfl, ?_⟩
    refine zw_ireturn f150_23 r150 u150 ?_
    exact ⟨_, _, _, _, rfl, (KQ.i rfl KQ.rf), Or.inl ⟨(fun q => (qV.n0 (by omega) hc1) q.1), (hR.k (pf := fun k j => decide (k = 52 ∧ j = 27)) (pa := fun _ => false) (KQ.i rfl KQ.rf) f27_R (fun _ _ _ => rfl)), rfl⟩⟩
  · refine zw_iload_n 6 f120_5 rfl rfl ?_
    refine zw_iload_n 7 f120_6 rfl rfl ?_
    refine zw_ic_gt 10 14 f120_7 (by decide +kernel) rfl (fun hc2 => ?_) (fun hc2 => ?_)
    · refine zw_iconst 0 15 f120_14 rfl (by decide +kernel) ?_
      refine zw_zreturn f120_15 r120 u120 (by decide +kernel) ⟨_, rfl, ?_⟩
      refine zw_zreturn f124_11 r124 u124 (by decide +kernel) ⟨_, rfl, ?_⟩
      refine zw_if_eq_t 18 f150_5 (by decide +kernel) (by decide +kernel) ?_
      refine zw_aload_n 19 f150_18 rfl rfl ?_
      refine zw_iconst 1 20 f150_19 rfl (by decide +kernel) ?_
      refine zw_virtual_i 23 0 0 [.ref 52, .int 1] [(0, .ref 52), (1, .int 1)] f150_20 rfl n150_209 k150_209_12 rfl (hb_52 _ _ _ _) (by decide +kernel) (Nat.le_of_ble_eq_true rfl) rfl rfl (by decide +kernel) (by decide +kernel) rfl (Nat.le_of_ble_eq_true rfl) rfl ?_
      refine zw_aload_n 1 f121_0 rfl rfl ?_
      refine zw_iload_n 2 f121_1 rfl rfl ?_
      refine zw_put _ 5 f121_2 rfl g121_111_12 (hb_52 _ _ _ _) rfl (Nat.le_of_ble_eq_true rfl) (by decide +kernel) (hi_52_27 _ _ _ _ _) ?_
      refine zw_iconst (-1) 6 f121_5 rfl (by decide +kernel) ?_
      refine zw_ireturn f121_6 r121 u121 ⟨_, rfl, ?_⟩
      refine zw_ireturn f150_23 r150 u150 ?_
      exact ⟨_, _, _, _, rfl, (KQ.i rfl KQ.rf), Or.inl ⟨(fun q => (qV.n1 (by omega) hc2) q.1), (hR.k (pf := fun k j => decide (k = 52 ∧ j = 27)) (pa := fun _ => false) (KQ.i rfl KQ.rf) f27_R (fun _ _ _ => rfl)), rfl⟩⟩
    · refine zw_iconst 1 11 f120_10 rfl (by decide +kernel) ?_
      refine zw_goto 15 f120_11 (by decide +kernel) ?_
      refine zw_zreturn f120_15 r120 u120 (by decide +kernel) ⟨_, rfl, ?_⟩
      refine zw_zreturn f124_11 r124 u124 (by decide +kernel) ⟨_, rfl, ?_⟩
      refine zw_if_eq_f 8 18 f150_5 (by decide +kernel) rfl (by decide +kernel) ?_
      refine zw_iload_n 9 f150_8 rfl rfl ?_
      refine zw_iconst 1 10 f150_9 rfl (by decide +kernel) ?_
      refine zw_bipush 20 12 f150_10 rfl (by decide +kernel) ?_
      refine zw_static_i 15 0 0 [.int b, .int 1, .int 20] [] [(0, .int b), (1, .int 1), (2, .int 20)] f150_12 rfl k150_117_99 rfl (by decide +kernel) (Nat.le_of_ble_eq_true rfl) (Nat.le_of_ble_eq_true rfl) rfl rfl (by decide +kernel) (by decide +kernel) rfl (Nat.le_of_ble_eq_true rfl) rfl ?_
      refine zw_iload_n 1 f120_0 rfl rfl ?_
      refine zw_iload_n 2 f120_1 rfl rfl ?_
      refine zw_ic_lt 5 14 f120_2 (by decide +kernel) rfl (fun hc3 => ?_) (fun hc3 => ?_)
      · refine zw_iconst 0 15 f120_14 rfl (by decide +kernel) ?_
        refine zw_zreturn f120_15 r120 u120 (by decide +kernel) ⟨_, rfl, ?_⟩
        refine zw_if_ne_f 18 24 f150_15 (by decide +kernel) rfl (by decide +kernel) ?_
        refine zw_aload_n 19 f150_18 rfl rfl ?_
        refine zw_iconst 1 20 f150_19 rfl (by decide +kernel) ?_
        refine zw_virtual_i 23 0 0 [.ref 52, .int 1] [(0, .ref 52), (1, .int 1)] f150_20 rfl n150_209 k150_209_12 rfl (hb_52 _ _ _ _) (by decide +kernel) (Nat.le_of_ble_eq_true rfl) rfl rfl (by decide +kernel) (by decide +kernel) rfl (Nat.le_of_ble_eq_true rfl) rfl ?_
        refine zw_aload_n 1 f121_0 rfl rfl ?_
        refine zw_iload_n 2 f121_1 rfl rfl ?_
        refine zw_put _ 5 f121_2 rfl g121_111_12 (hb_52 _ _ _ _) rfl (Nat.le_of_ble_eq_true rfl) (by decide +kernel) (hi_52_27 _ _ _ _ _) ?_
        refine zw_iconst (-1) 6 f121_5 rfl (by decide +kernel) ?_
        refine zw_ireturn f121_6 r121 u121 ⟨_, rfl, ?_⟩
        refine zw_ireturn f150_23 r150 u150 ?_
        exact ⟨_, _, _, _, rfl, (KQ.i rfl KQ.rf), Or.inl ⟨(fun q => (fun q => q.1 hc3) q.2), (hR.k (pf := fun k j => decide (k = 52 ∧ j = 27)) (pa := fun _ => false) (KQ.i rfl KQ.rf) f27_R (fun _ _ _ => rfl)), rfl⟩⟩
      · refine zw_iload_n 6 f120_5 rfl rfl ?_
        refine zw_iload_n 7 f120_6 rfl rfl ?_
        refine zw_ic_gt 10 14 f120_7 (by decide +kernel) rfl (fun hc4 => ?_) (fun hc4 => ?_)
        · refine zw_iconst 0 15 f120_14 rfl (by decide +kernel) ?_
          refine zw_zreturn f120_15 r120 u120 (by decide +kernel) ⟨_, rfl, ?_⟩
          refine zw_if_ne_f 18 24 f150_15 (by decide +kernel) rfl (by decide +kernel) ?_
          refine zw_aload_n 19 f150_18 rfl rfl ?_
          refine zw_iconst 1 20 f150_19 rfl (by decide +kernel) ?_
          refine zw_virtual_i 23 0 0 [.ref 52, .int 1] [(0, .ref 52), (1, .int 1)] f150_20 rfl n150_209 k150_209_12 rfl (hb_52 _ _ _ _) (by decide +kernel) (Nat.le_of_ble_eq_true rfl) rfl rfl (by decide +kernel) (by decide +kernel) rfl (Nat.le_of_ble_eq_true rfl) rfl ?_
          refine zw_aload_n 1 f121_0 rfl rfl ?_
          refine zw_iload_n 2 f121_1 rfl rfl ?_
          refine zw_put _ 5 f121_2 rfl g121_111_12 (hb_52 _ _ _ _) rfl (Nat.le_of_ble_eq_true rfl) (by decide +kernel) (hi_52_27 _ _ _ _ _) ?_
          refine zw_iconst (-1) 6 f121_5 rfl (by decide +kernel) ?_
          refine zw_ireturn f121_6 r121 u121 ⟨_, rfl, ?_⟩
          refine zw_ireturn f150_23 r150 u150 ?_
          exact ⟨_, _, _, _, rfl, (KQ.i rfl KQ.rf), Or.inl ⟨(fun q => (fun q => q.2 hc4) q.2), (hR.k (pf := fun k j => decide (k = 52 ∧ j = 27)) (pa := fun _ => false) (KQ.i rfl KQ.rf) f27_R (fun _ _ _ => rfl)), rfl⟩⟩
        · refine zw_iconst 1 11 f120_10 rfl (by decide +kernel) ?_
          refine zw_goto 15 f120_11 (by decide +kernel) ?_
          refine zw_zreturn f120_15 r120 u120 (by decide +kernel) ⟨_, rfl, ?_⟩
          refine zw_if_ne_t 24 f150_15 (by decide +kernel) (by decide +kernel) ?_
          refine zw_aload_n 25 f150_24 rfl rfl ?_
          refine zw_getfield 28 f150_25 rfl g150_37_12 (hb_52 _ _ _ _) rfl ?_
          refine zw_iload_n 29 f150_28 rfl rfl ?_
          refine zw_iaload a.toNatClampNeg (A 62 a.toNatClampNeg) 30 f150_29 rfl (hb_62 _ _ _ _) rfl hc1 (zix (by decide) hc1 (show ¬ 14 ≤ a from ix_le hp.2.1 (by decide) (by decide) hc1 hc2)) rfl ?_
          refine zw_istore_n _ 31 f150_30 rfl (by decide +kernel) rfl ?_
          refine zw_aload_n 32 f150_31 rfl (zl1_ne rfl rfl rfl) ?_
          refine zw_getfield 35 f150_32 rfl g150_37_12 (hb_52 _ _ _ _) rfl ?_
          refine zw_iload_n 36 f150_35 rfl (zl1_ne rfl rfl rfl) ?_
          refine zw_iload_n 37 f150_36 rfl (zl1_ne rfl rfl rfl) ?_
          refine zw_ast a.toNatClampNeg _ 38 f150_37 rfl (hb_62 _ _ _ _) rfl hc1 (zix (by decide) hc1 (show ¬ 14 ≤ a from ix_le hp.2.1 (by decide) (by decide) hc1 hc2)) (ha_62 _ _ _ _ _) ?_
          refine zw_aload_n 39 f150_38 rfl (zl1_ne rfl rfl rfl) ?_
          refine zw_iload_n 40 f150_39 rfl zl1_eq ?_
          refine zw_virtual_i 43 0 0 [.ref 52, .int (A 62 a.toNatClampNeg)] [(0, .ref 52), (1, .int (A 62 a.toNatClampNeg))] f150_40 rfl n150_212 k150_212_12 rfl (hb_52 _ _ _ _) (by decide +kernel) (Nat.le_of_ble_eq_true rfl) rfl rfl (by decide +kernel) (by decide +kernel) rfl (Nat.le_of_ble_eq_true rfl) rfl ?_
          have hok : ok_amount nv np A a b := ⟨(qV.of (by omega) hc1 hc2), ⟨hc3, hc4⟩⟩
          have Rz : mRS nv np (updA A 62 (upd (A 62) a.toNatClampNeg b)) W L I G (updA A 62 (upd (A 62) a.toNatClampNeg b)) B := ⟨⟨hR.1.1, hR.1.2⟩, PE.rf, hR.2.2.1, hR.2.2.2⟩
          have hp2 : MPa nv np (updA A 62 (upd (A 62) a.toNatClampNeg b)) := hp.am (p := a.toNatClampNeg) (x := b) (qRg.i (by decide) (by decide) hok.2) rfl (fun k k1 => by unfold updA; rw [if_neg k1])
          have hW2 : wInv nv 10000 (K + 1000) (updA A 62 (upd (A 62) a.toNatClampNeg b)) W := (hW.pa rfl).mo (by omega) (by omega)
          refine zWp.mono (mm_hand ro nv np (updA A 62 (upd (A 62) a.toNatClampNeg b)) W L _ _ _ _ (K + 1000) (A 62 a.toNatClampNeg) Rz hp2 hW2 (by omega) (by omega)) ?_
          rintro r h1 ⟨I2, G2, A2, B2, rfl, K2, R2, rfl⟩
          refine ⟨_, rfl, ?_⟩
          refine zw_ireturn f150_43 r150 u150 ?_
          exact ⟨_, _, _, _, rfl, (KQ.tr (KQ.a rfl KQ.rf) K2), Or.inr ⟨hok, hp2, hW2, R2, rfl⟩⟩
