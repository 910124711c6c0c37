theorem zz_1 (a v b : Int) (h : (if a ≤ v ∧ v ≤ b then (1:Int) else 0) = 0) : ¬ (a ≤ v ∧ v ≤ b) := by omega
theorem zz_2 (a b : Int) (h : max a b < 5) : a < 5 := by omega
theorem zz_3 (a : Int) (h : ((a.natAbs : Nat) : Int) < 5) : a < 5 ∧ -5 < a := by omega
theorem zz_4 (a b : Int) (σ : Sto) (h : 0 ≤ a ∧ a < 9) (hb : InI b) : InI (if a < b then a else 3) := by omega
theorem zz_5 (n : Int) (h : 0 ≤ n ∧ n < 343) : n / 49 - 3 ≤ 3 ∧ n / 7 % 7 ≤ 6 := by omega
