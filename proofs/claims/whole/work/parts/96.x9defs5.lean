/-! ===== bounds of what happens behind a leg ===== -/
theorem evN_bd (N : Int → Int) (p k y e q : Int) : 0 ≤ evN N p k y e q ∧ evN N p k y e q ≤ 7 := by
  unfold evN
  (repeat' split) <;> omega
theorem whE_bd (N : Int → Int) (p y e : Int) (i : Nat) : 0 ≤ whE (vE N p y e i) ∧ whE (vE N p y e i) ≤ 7 := by
  have := evN_bd N p ((i : Int) + 1) (yN N p y e i) (eN N p y e i) (kN N p y e i)
  have h : vE N p y e i = evN N p ((i : Int) + 1) (yN N p y e i) (eN N p y e i) (kN N p y e i) := rfl
  unfold whE
  split <;> omega
