/-! ===== the model: what it remembers ===== -/
/-- past, with one more -/
def remP (rm : Int) (PA N : Int → Int) : Int → Int := fun j => if rm = 6 then (if j < 475 then PA (j + 95) else N (j - 475)) else if 95 * rm ≤ j ∧ j < 95 * rm + 95 then N (j - 95 * rm) else PA j
/-- the net of one section -/
def secN (PA : Int → Int) (k : Int) (N : Int → Int) : Int → Int := fun j => if 0 ≤ j ∧ j < 95 then PA (95 * k + j) else N j
theorem upI_comm (F : Int → Int) {a b : Int} (h : a ≠ b) (x y : Int) : upI (upI F a x) b y = upI (upI F b y) a x := funext fun j => by
  simp only [upI]
  (repeat' split) <;> first | rfl | omega
theorem addSN4 (N : Int → Int) (h : 0 ≤ N 4) (a b c : Int) : addSN N a b c 4 = N 4 + 1 := by
  unfold addSN
  rw [upI_n _ _ (by omega), upI_n _ _ (by omega), upI_n _ _ (by omega), upI_e _ _ rfl]
theorem remP_of {rm r1 : Int} {PA P0 N : Int → Int} {j : Int} (hc : (¬ rm = 6 ∧ r1 = rm ∧ P0 = PA) ∨ (rm = 6 ∧ r1 = 5 ∧ ∀ j : Int, 0 ≤ j → j < 475 → P0 j = PA (j + 95))) (a : 0 ≤ j) (b : j < 570) : (if 95 * r1 ≤ j ∧ j < 95 * r1 + 95 then N (j - 95 * r1) else P0 j) = remP rm PA N j := by
  unfold remP
  rcases hc with ⟨c1, rfl, rfl⟩ | ⟨c1, rfl, c3⟩
  · rw [if_neg c1]
  · rw [if_pos c1]
    by_cases q : j < 475
    · rw [if_pos q, if_neg (by omega)]; exact c3 j a q
    · rw [if_neg q, if_pos (by omega)]; rfl
