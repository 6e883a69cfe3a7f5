/-! ===== texts that are appended or written; what two paths have in common ===== -/
def app4 (F : Int → Int) (n v : Int) : Int → Int := upI (upI (upI (upI F n (v / 16777216)) (n + 1) (v / 65536)) (n + 1 + 1) (v / 256)) (n + 1 + 1 + 1) (v / 1)
def apd5 (F : Int → Int) (n a b c d e : Int) : Int → Int := app4 (app4 (app4 (app4 (app4 F n a) (n + 4) b) (n + 4 + 4) c) (n + 4 + 4 + 4) d) (n + 4 + 4 + 4 + 4) e
/-- the bytes F are the text -/
def OutI (F : Int → Int) (n : Int) (tx : List Int) : Prop := n = (tx.length : Int) ∧ ∀ j : Nat, j < tx.length → F (j : Int) = tx.getD j 0
theorem OutI.nil (F : Int → Int) : OutI F 0 [] := ⟨rfl, fun j hj => absurd hj (Nat.not_lt_zero j)⟩
theorem OutI.add {F : Int → Int} {n : Int} {tx : List Int} (h : OutI F n tx) (c : Int) : OutI (upI F n c) (n + 1) (tx ++ [c]) := by
  obtain ⟨h1, h2⟩ := h
  refine ⟨by rw [List.length_append]; simp only [List.length_singleton]; omega, fun j hj => ?_⟩
  rw [List.length_append, List.length_singleton] at hj
  by_cases q : j = tx.length
  · rw [upI_e _ _ (by omega), q]
    simp [List.getD]
  · rw [upI_n _ _ (by omega), h2 j (by omega), List.getD_eq_getElem?_getD, List.getD_eq_getElem?_getD, List.getElem?_append_left (by omega)]
def dgL (z : Int) : List Int := (List.range (dgs z).toNat).map (fun k : Nat => dgt z (k : Int))
theorem dgs_bd (z : Int) : 1 ≤ dgs z ∧ dgs z ≤ 4 := by
  unfold dgs
  (repeat' split) <;> omega
theorem dgL_len (z : Int) : ((dgL z).length : Int) = dgs z := by
  have := dgs_bd z
  unfold dgL
  rw [List.length_map, List.length_range]
  omega
theorem OutI.num {F F2 : Int → Int} {n z : Int} {tx : List Int} (h : OutI F n tx) (hF : ∀ j : Int, F2 j = if n ≤ j ∧ j < n + dgs z then dgt z (j - n) else F j) : OutI F2 (n + dgs z) (tx ++ dgL z) := by
  obtain ⟨h1, h2⟩ := h
  have hl := dgL_len z
  refine ⟨by rw [List.length_append]; omega, fun j hj => ?_⟩
  rw [List.length_append] at hj
  rw [hF]
  by_cases q : j < tx.length
  · rw [if_neg (by omega), h2 j q, List.getD_eq_getElem?_getD, List.getD_eq_getElem?_getD, List.getElem?_append_left q]
  · rw [if_pos (by omega)]
    have hk : j - tx.length < (dgs z).toNat := by omega
    rw [List.getD_eq_getElem?_getD, List.getElem?_append_right (by omega)]
    unfold dgL
    rw [List.getElem?_map, List.getElem?_range hk]
    show dgt z _ = dgt z _
    congr 1
    omega
