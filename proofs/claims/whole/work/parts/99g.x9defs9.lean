/-! ===== the model: trials on its net ===== -/
theorem l2f_small {z : Int} (h : -2147483648 ≤ z ∧ z < 2147483648) : FP.l2f (iL z) = FP.i2f (iI z) := by
  rw [show FP.i2f (iI z) = FP.l2f (iI z).toInt64 from FP.Core.i2f_l2f (iI z)]
  congr 1
  exact (iI_l h).symm
theorem shr0 : FP.fdiv (FP.i2f (iI 0)) 1232348160 = 0 := by decide +kernel
theorem back_up {N A : Int → Int} {k v : Int} (hk : 0 ≤ k ∧ k < 95) : cpyI (cpyI N A 95) (upI N k v) 95 = N := funext fun j => by
  unfold cpyI upI
  by_cases q : 0 ≤ j ∧ j < 95
  · rw [if_pos q, if_pos q]
  · rw [if_neg q, if_neg (by omega)]
theorem back_rem {N A : Int → Int} {y : Int} (hy : 0 ≤ y ∧ y < N 0) (hN : N 0 ≤ 10) : cpyI (cpyI N A 95) (remLN N y) 95 = N := funext fun j => by
  unfold cpyI
  by_cases q : 0 ≤ j ∧ j < 95
  · rw [if_pos q, if_pos q]
  · rw [if_neg q]
    simp only [remLN]
    rw [if_neg (by omega), if_neg (by omega)]
theorem pS_none {N : Int → Int} {r : Int} (h : eS N r = 4) : pS N r = 0 := by
  have g : enN N (sP N r) (sY N r) (sD N r) (lgF N (sP N r) (sY N r) (sD N r)) = 4 := h
  show pwN N (sP N r) (sY N r) (sD N r) (lgF N (sP N r) (sY N r) (sD N r)) = 0
  unfold enN at g
  by_cases q : lgF N (sP N r) (sY N r) (sD N r) = 0
  · exact if_pos q
  · rw [if_neg q] at g
    unfold endE at g
    (repeat' split at g) <;> omega
