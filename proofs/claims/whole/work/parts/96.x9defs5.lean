/-! ===== bounds of what happens behind a leg ===== -/
theorem evN_bd (N : Int → Int) (p k y e q : Int) : 0 ≤ evN N p k y e q ∧ evN N p k y e q ≤ 7 := by
  unfold evN
  (repeat' split) <;> omega
theorem whE_bd (N : Int → Int) (p y e : Int) (i : Nat) : 0 ≤ whE (vE N p y e i) ∧ whE (vE N p y e i) ≤ 7 := by
  have := evN_bd N p ((i : Int) + 1) (yN N p y e i) (eN N p y e i) (kN N p y e i)
  have h : vE N p y e i = evN N p ((i : Int) + 1) (yN N p y e i) (eN N p y e i) (kN N p y e i) := rfl
  unfold whE
  split <;> omega
def legA (N : Int → Int) (r x z : Int) : Int := pick7 z (ykS N r x.toNat) (ekS N r x.toNat) (skS N r x.toNat) (leK N (sP N r) (sY N r) (sD N r) x.toNat) (tqS N r x.toNat) (kN N (sP N r) (sY N r) (sD N r) x.toNat) (whE (vE N (sP N r) (sY N r) (sD N r) x.toNat))
theorem PthR.leg {N : Int → Int} {r x z : Int} {pv : PV} (h : PthR N (sP N r) (sY N r) (sD N r) pv) (hx : 0 ≤ x ∧ x < (gS N r : Int)) : pick7 z (pv.2.2.1 x) (pv.2.2.2.1 x) (pv.2.2.2.2.1 x) (pv.2.2.2.2.2.1 x) (pv.2.2.2.2.2.2.1 x) (pv.2.2.2.2.2.2.2.1 x) (pv.2.2.2.2.2.2.2.2 x) = legA N r x z := by
  have q := h.2.2.2 x.toNat (by unfold gS at hx; omega)
  rw [Int.toNat_of_nonneg hx.1] at q
  rw [q.1, q.2.1, q.2.2.1, q.2.2.2.1, q.2.2.2.2.1, q.2.2.2.2.2.1, q.2.2.2.2.2.2]
  rfl
