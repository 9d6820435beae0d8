theorem zt1 (x : Int32) (N : Nat) (h : x < 0) : (if 0 ≤ x ∧ x < nI N then (1 : Int32) else 0) = 0 := by
  grind
theorem zt2 (x y : Int32) (h : x < 0) (h2 : 0 ≤ y) : ¬ y ≤ x := by
  grind
theorem zt3 (x : Int32) (h : ¬ x < 0) : 0 ≤ x := by
  grind
theorem zt4 (x y : Int32) : x + -y = x - y := by
  grind
theorem zt5 (x : Int32) (h : ¬ x ≤ 3) : 4 ≤ x := by
  grind
theorem zt6 (x y : Int32) (h1 : 0 ≤ x) (h2 : x ≤ 1000) (h3 : 0 ≤ y) (h4 : y ≤ 1000) : 0 ≤ x + y ∧ x + y ≤ 2000 := by
  grind
