/-! ===== two rays in one layer ===== -/
def CndM (A4 B4 : Int → Int) (n m : Nat) (t : Int) : Prop := t = 0 ∨ (∃ k : Nat, k < n ∧ t = sF A4 (k + 1)) ∨ ∃ k : Nat, k < m ∧ t = sF B4 (k + 1)
def TogM (A0 A4 B0 B4 : Int → Int) (n m : Nat) (t : Int) : Prop := ∃ i j : Nat, i < n ∧ j < m ∧ (sF A4 i ≤ t ∧ t < sF A4 (i + 1)) ∧ (sF B4 j ≤ t ∧ t < sF B4 (j + 1)) ∧ A0 (i : Int) = B0 (j : Int)
def PosF (F : Int → Int) (n : Nat) : Prop := ∀ i : Nat, i < n → 1 ≤ F (i : Int)
theorem sF_lt {F : Int → Int} {n : Nat} (h : PosF F n) : ∀ (j i : Nat), i < j → j ≤ n → sF F i < sF F j
  | 0, i, hij, _ => absurd hij (Nat.not_lt_zero i)
  | j + 1, i, hij, hj => by
    have := h j (by omega)
    rw [sF_s]
    rcases Nat.lt_succ_iff_lt_or_eq.mp hij with q | q
    · have := sF_lt h j i q (by omega)
      omega
    · subst q; omega
theorem sF_le {F : Int → Int} {n : Nat} (h : PosF F n) {j i : Nat} (hij : i ≤ j) (hj : j ≤ n) : sF F i ≤ sF F j := by
  rcases Nat.lt_or_eq_of_le hij with q | q
  · exact Int.le_of_lt (sF_lt h j i q hj)
  · rw [q]; exact Int.le_refl _
def MtI (A0 A4 B0 B4 : Int → Int) (n m i j : Nat) (t : Int) : Prop := i ≤ n ∧ j ≤ m ∧ sF A4 i ≤ t ∧ (i < n → t < sF A4 (i + 1)) ∧ sF B4 j ≤ t ∧ (j < m → t < sF B4 (j + 1)) ∧ CndM A4 B4 n m t ∧ ∀ t', CndM A4 B4 n m t' → t' < t → ¬ TogM A0 A4 B0 B4 n m t'
/-- the leg at a time is one -/
theorem leg_one {F : Int → Int} {n : Nat} (h : PosF F n) {a i : Nat} {t : Int} (ha : a < n) (hi : i < n) (a1 : sF F a ≤ t) (a2 : t < sF F (a + 1)) (i1 : sF F i ≤ t) (i2 : t < sF F (i + 1)) : a = i := by
  rcases Nat.lt_trichotomy a i with g | g | g
  · have := sF_le h (i := a + 1) (j := i) (by omega) (by omega)
    omega
  · exact g
  · have := sF_le h (i := i + 1) (j := a) (by omega) (by omega)
    omega
theorem MtI.step {A0 A4 B0 B4 : Int → Int} {n m i j i2 j2 : Nat} {t : Int} (hA : PosF A4 n) (hB : PosF B4 m) (h : MtI A0 A4 B0 B4 n m i j t) (hi : i < n) (hj : j < m) (hne : ¬ A0 (i : Int) = B0 (j : Int))
    (ci : sF A4 (i + 1) = min (sF A4 (i + 1)) (sF B4 (j + 1)) ∧ i2 = i + 1 ∨ ¬ sF A4 (i + 1) = min (sF A4 (i + 1)) (sF B4 (j + 1)) ∧ i2 = i) (cj : sF B4 (j + 1) = min (sF A4 (i + 1)) (sF B4 (j + 1)) ∧ j2 = j + 1 ∨ ¬ sF B4 (j + 1) = min (sF A4 (i + 1)) (sF B4 (j + 1)) ∧ j2 = j) :
    MtI A0 A4 B0 B4 n m i2 j2 (min (sF A4 (i + 1)) (sF B4 (j + 1))) := by
  obtain ⟨h1, h2, h3, h4, h5, h6, h7, h8⟩ := h
  have g4 := h4 hi
  have g6 := h6 hj
  have nA : i + 1 < n → sF A4 (i + 1) < sF A4 (i + 1 + 1) := fun q => sF_lt hA (i + 1 + 1) (i + 1) (by omega) q
  have nB : j + 1 < m → sF B4 (j + 1) < sF B4 (j + 1 + 1) := fun q => sF_lt hB (j + 1 + 1) (j + 1) (by omega) q
  refine ⟨by omega, by omega, ?_, fun q => ?_, ?_, fun q => ?_, ?_, fun t' hc ht => ?_⟩
  · rcases ci with ⟨a, rfl⟩ | ⟨a, rfl⟩ <;> omega
  · rcases ci with ⟨a, rfl⟩ | ⟨a, rfl⟩
    · have := nA q
      omega
    · omega
  · rcases cj with ⟨a, rfl⟩ | ⟨a, rfl⟩ <;> omega
  · rcases cj with ⟨a, rfl⟩ | ⟨a, rfl⟩
    · have := nB q
      omega
    · omega
  · rcases Int.le_total (sF A4 (i + 1)) (sF B4 (j + 1)) with q | q
    · exact Or.inr (Or.inl ⟨i, hi, by omega⟩)
    · exact Or.inr (Or.inr ⟨j, hj, by omega⟩)
  · rcases Int.lt_or_le t' t with g | g
    · exact h8 t' hc g
    · intro hT
      obtain ⟨a, b, ha, hb, ⟨a1, a2⟩, ⟨b1, b2⟩, e⟩ := hT
      have ea := leg_one hA ha hi a1 a2 (by omega) (by omega)
      have eb := leg_one hB hb hj b1 b2 (by omega) (by omega)
      subst ea
      subst eb
      exact hne e
