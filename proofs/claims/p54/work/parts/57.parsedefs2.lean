theorem wdE_t {F : Int → Int} {n i : Int} {w : List Int} (h : isWd F n i w) : wdE F n i w = .inr () := if_pos h
theorem wdE_f {F : Int → Int} {n i : Int} {w : List Int} (h : ¬ isWd F n i w) : wdE F n i w = fl F n i 1 := if_neg h
theorem smE_t {F : Int → Int} {n i : Int} (h : tkK F n i = 3 ∧ tkC F n i = 59) : smE F n i = .inr () := if_pos h
theorem smE_f {F : Int → Int} {n i : Int} (h : ¬ (tkK F n i = 3 ∧ tkC F n i = 59)) : smE F n i = fl F n i 1 := if_neg h
