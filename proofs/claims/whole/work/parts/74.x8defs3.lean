/-! ===== steps of counts and bests ===== -/
theorem busN_t (f : Nat → Int) (n : Nat) (h : (busN f n).2 < f n) : busN f (n + 1) = ((n : Int), f n) := if_pos h
theorem busN_f (f : Nat → Int) (n : Nat) (h : ¬ (busN f n).2 < f n) : busN f (n + 1) = busN f n := if_neg h
theorem bst_yes {ok : Nat → Bool} {f : Nat → Int} {n : Nat} (h : ok n = true) (h2 : (bstN ok f n).1 = -1 ∨ (bstN ok f n).2 < f n) : bstN ok f (n + 1) = ((n : Int), f n) := if_pos ⟨h, h2⟩
theorem bst_no {ok : Nat → Bool} {f : Nat → Int} {n : Nat} (h : ¬ ok n = true) : bstN ok f (n + 1) = bstN ok f n := if_neg (fun z => h z.1)
theorem bst_keep {ok : Nat → Bool} {f : Nat → Int} {n : Nat} (h : ¬ (bstN ok f n).1 = -1) (h2 : ¬ (bstN ok f n).2 < f n) : bstN ok f (n + 1) = bstN ok f n := if_neg (fun z => z.2.elim h h2)
