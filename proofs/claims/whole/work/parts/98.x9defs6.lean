theorem crit_eq {N : Int → Int} (hN : NOk0 N) {y e v : Int} (hy : 0 ≤ y ∧ y < N 0) (hv : v = if ¬ ihN N y e = -1 ∧ ihN N y e < nX N y then ihN N y e else -1) : v = critZ N y (ahd y e) := by
  have i := ixN_in hy
  unfold critZ
  rw [i, hv]
  by_cases hm : N 2 = 1 ∧ N 0 ≤ ahd y e
  · have a : ihN N y e = -1 := if_pos hm
    rw [if_pos hm, if_neg (fun z => z.1 a)]
  · have a : ihN N y e = ixN N (ahd y e) := if_neg hm
    have xb := ixN_bd hN (ahd y e)
    rw [if_neg hm, a]
    by_cases g : ixN N (ahd y e) < nX N y
    · rw [if_pos g, if_pos ⟨by omega, g⟩]
    · rw [if_neg g, if_neg (fun z => g z.2)]
