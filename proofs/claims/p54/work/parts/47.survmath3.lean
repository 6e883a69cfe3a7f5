theorem enF_bd (N : Int → Int) (p y e : Int) : 0 ≤ enF N p y e ∧ enF N p y e ≤ 4 := by
  unfold enF enN
  split
  · omega
  · have := endE_ge (v := vE N p y e (lgF N p y e - 1))
    omega
theorem lgF_bd (N : Int → Int) (p y e : Int) : lgF N p y e ≤ 60 := by
  rcases isN_lgF N p y e with ⟨-, h⟩ | ⟨-, k, h, h1, -⟩ <;> omega
theorem ixN_in {N : Int → Int} {y : Int} (h : 0 ≤ y ∧ y < N 0) : ixN N y = nX N y := by
  unfold ixN nX
  rw [if_neg (by omega), if_neg (by omega)]
/-- the best slant below t that ends so; str: the first one of equal score -/
def BestI (N : Int → Int) (y e x : Int) (sc : Int → Int) (str : Prop) (t vb vw : Int) : Prop :=
  (vb = -1 ∧ ∀ p : Int, 0 ≤ p → p < t → enF N p y e ≠ x) ∨ ((0 ≤ vb ∧ vb < t) ∧ enF N vb y e = x ∧ vw = sc vb ∧ (∀ p : Int, 0 ≤ p → p < t → enF N p y e = x → sc p ≤ vw) ∧ (str → ∀ p : Int, 0 ≤ p → p < vb → enF N p y e = x → sc p < vw))
theorem BestI.bd {N : Int → Int} {y e x : Int} {sc : Int → Int} {str : Prop} {t vb vw : Int} (h : BestI N y e x sc str t vb vw) (ht : 0 ≤ t) : -1 ≤ vb ∧ (vb < t ∨ vb = -1) := by
  rcases h with ⟨a, -⟩ | ⟨a, -⟩ <;> omega
/-- what consider() does -/
def ConS (vb vw s0 z0 vb2 vw2 : Int) : Prop := (vb = -1 ∨ vw < z0) ∧ vb2 = s0 ∧ vw2 = z0 ∨ ¬ (vb = -1 ∨ vw < z0) ∧ vb2 = vb ∧ vw2 = vw
/-- within a part the sums and the power go one way -/
theorem PartN.mono {N : Int → Int} (h : NOk0 N) {y e f t en p p' : Int} (hP : PartN N y e f t en) (hy : 0 ≤ y ∧ y < N 0) (he : e = 0 ∨ e = 1) (f0 : 0 ≤ f) (h1 : f ≤ p) (h2 : p ≤ p') (h3 : p' < t) : shF N p y e ≤ shF N p' y e ∧ tmF N p y e ≤ tmF N p' y e ∧ pwF N p' y e ≤ pwF N p y e := by
  obtain ⟨⟨a1, a2⟩, a3, a4, -⟩ := hP
  have b1 := a4 p h1 (by omega)
  have b2 := a4 p' (by omega) h3
  exact sum_mono h (by omega) h2 (fun z z0 z1 => (b1.1 z z0 z1).symm.trans (b2.1 z z0 z1)) ⟨hy.1, hy.2, by unfold nX at a2; omega⟩ he (by rw [b1.2.2, b2.2.2])
