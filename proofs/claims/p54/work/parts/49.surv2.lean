theorem ConS.bd {vb vw s0 z0 vb2 vw2 a b : Int} (h : ConS vb vw s0 z0 vb2 vw2) (h1 : a ≤ vw ∧ vw ≤ b) (h2 : a ≤ z0 ∧ z0 ≤ b) : a ≤ vw2 ∧ vw2 ≤ b := by
  rcases h with ⟨-, -, e⟩ | ⟨-, -, e⟩ <;> omega
