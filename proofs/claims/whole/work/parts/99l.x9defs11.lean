theorem bw_out {N : Int → Int} {f : Nat → Int} {k : Nat} {bb : Int} (h : bb = (bstN (fun _ : Nat => true) f k).1) (h1 : N 0 < 2 → k = 0) (h2 : ¬ N 0 < 2 → (k : Int) = N 0) : bb = if N 0 < 2 then -1 else (bstN (fun _ : Nat => true) f (N 0).toNat).1 := by
  by_cases g : N 0 < 2
  · rw [if_pos g, h, h1 g]; rfl
  · have := h2 g
    rw [if_neg g, h, show (N 0).toNat = k by omega]
theorem OutI.numz {F F2 : Int → Int} {n m z : Int} {tx : List Int} (h : OutI F n tx) (hF : ∀ j : Int, F2 j = if n ≤ j ∧ j < n + dgs z then dgt z (j - n) else F j) (hz : m = n + dgs z) : OutI F2 m (tx ++ dgL z) := by
  subst hz
  exact h.num hF
