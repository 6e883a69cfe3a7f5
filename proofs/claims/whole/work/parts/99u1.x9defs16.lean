theorem sh8_y {F N : Int → Int} {n i y lo hi j : Int} (h : nhF F n lo hi (sh7 F N n i y) = .inr j) : 0 ≤ y ∧ y < N 0 := by
  obtain ⟨j1, h1, _⟩ := pb_ok h
  obtain ⟨j2, h2, _⟩ := pb_ok h1
  obtain ⟨j3, h3, _⟩ := pb_ok h2
  obtain ⟨j4, h4, _⟩ := pb_ok h3
  obtain ⟨j5, h5, h6⟩ := pb_ok h4
  by_cases g : 0 ≤ y ∧ y < N 0
  · exact g
  · rw [if_pos (bI_t g)] at h6
    cases h6
