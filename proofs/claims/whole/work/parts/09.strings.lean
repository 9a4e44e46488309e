def f_J0_length_8abf5 (h : Hp) (i : Nat) : Option (Int32 × Hp) := gd (decide (i < 4)) (some (Int32.ofNat (strL.getD i 0), h))
def f_J0_charAt_5068e (h : Hp) (i : Nat) (k : Int32) : Option (Int32 × Hp) := gd (decide (i < 4)) (gd (decide (0 ≤ k.toInt) && decide (k.toInt < (strL.getD i 0 : Nat))) (some ((strB.getD i []).getD k.toNatClampNeg 0, h)))
theorem lt_J0_length_8abf5 {h : Hp} {i : Nat} {r : Int32 × Hp} (H : f_J0_length_8abf5 h i = some r) : i < 4 := of_decide_eq_true (gd_some H).1
theorem lt_J0_charAt_5068e {h : Hp} {i : Nat} {k : Int32} {r : Int32 × Hp} (H : f_J0_charAt_5068e h i k = some r) : i < 4 := of_decide_eq_true (gd_some H).1
theorem t_J0_length_8abf5 {X : Cx} {d : Nat} {h : Hp} {i : Nat} {v : Int32} {h' : Hp} (hD : 4 ≤ d) (H : f_J0_length_8abf5 h i = some (v, h')) : PM X mJ0_length_8abf5 d [.float (UInt32.ofNat i)] h (some (.int v)) h' := sorry
theorem t_J0_charAt_5068e {X : Cx} {d : Nat} {h : Hp} {i : Nat} {k : Int32} {v : Int32} {h' : Hp} (hD : 4 ≤ d) (H : f_J0_charAt_5068e h i k = some (v, h')) : PM X mJ0_charAt_5068e d [.float (UInt32.ofNat i), .int k] h (some (.int v)) h' := sorry
