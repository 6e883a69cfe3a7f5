/-! ===== floats that are compared ===== -/
theorem fc_self (a : Int32) (op : CmpOp) : Value.int (Op.cmpValue (FP.fcmp (FP.fdiv (FP.i2f a) 1232348160) (FP.fdiv (FP.i2f a) 1232348160)) op) = .int (iI 0) := by
  have h : FP.fcmp (FP.fdiv (FP.i2f a) 1232348160) (FP.fdiv (FP.i2f a) 1232348160) = some .eq := FP.Core.fcmp_self (of_decide_eq_false (shr_nn a))
  rw [h]
  rfl
theorem fc_zero : Value.int (Op.cmpValue (FP.fcmp (FP.fdiv (FP.i2f (iI 0)) 1232348160) 0) .l) = .int (iI 0) := by decide +kernel
