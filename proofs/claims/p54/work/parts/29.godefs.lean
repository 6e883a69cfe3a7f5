/-- what goOn() does: the new end, layer, direction, power, counts, and its answer -/
def GoR (N : Int → Int) (pp lg ly dn pw en tr mr cr en2 ly2 dn2 pw2 tr2 mr2 cr2 x : Int) : Prop :=
  x = whE (evN N pp lg ly dn pw) ∧ (en2 = if 3 ≤ evN N pp lg ly dn pw then endE (evN N pp lg ly dn pw) else en) ∧ (ly2 = if evN N pp lg ly dn pw = 0 then ahd ly dn else ly) ∧ (dn2 = if evN N pp lg ly dn pw = 1 then 1 - dn else if evN N pp lg ly dn pw = 2 then 0 else dn) ∧
  (pw2 = if evN N pp lg ly dn pw = 0 then ppN N ly (ahd ly dn) pw else if evN N pp lg ly dn pw = 2 then pw * N 3 / 100 else if evN N pp lg ly dn pw = 7 then 0 else pw) ∧ (tr2 = tr + if evN N pp lg ly dn pw = 1 then 1 else 0) ∧ (mr2 = mr + if evN N pp lg ly dn pw = 2 ∨ evN N pp lg ly dn pw = 7 then 1 else 0) ∧ cr2 = cr + if evN N pp lg ly dn pw = 0 then 1 else 0
theorem GoR.c5 {N : Int → Int} {pp lg ly dn pw en tr mr cr : Int} (h : evN N pp lg ly dn pw = 5) : GoR N pp lg ly dn pw en tr mr cr 2 ly dn pw tr mr cr 5 := by
  unfold GoR
  rw [h]
  refine ⟨rfl, rfl, rfl, rfl, rfl, ?_, ?_, ?_⟩ <;> simp
theorem GoR.c3 {N : Int → Int} {pp lg ly dn pw en tr mr cr : Int} (h : evN N pp lg ly dn pw = 3) : GoR N pp lg ly dn pw en tr mr cr 0 ly dn pw tr mr cr 3 := by
  unfold GoR
  rw [h]
  refine ⟨rfl, rfl, rfl, rfl, rfl, ?_, ?_, ?_⟩ <;> simp
theorem GoR.c4 {N : Int → Int} {pp lg ly dn pw en tr mr cr : Int} (h : evN N pp lg ly dn pw = 4) : GoR N pp lg ly dn pw en tr mr cr 1 ly dn pw tr mr cr 4 := by
  unfold GoR
  rw [h]
  refine ⟨rfl, rfl, rfl, rfl, rfl, ?_, ?_, ?_⟩ <;> simp
theorem GoR.c6 {N : Int → Int} {pp lg ly dn pw en tr mr cr : Int} (h : evN N pp lg ly dn pw = 6) : GoR N pp lg ly dn pw en tr mr cr 3 ly dn pw tr mr cr 6 := by
  unfold GoR
  rw [h]
  refine ⟨rfl, rfl, rfl, rfl, rfl, ?_, ?_, ?_⟩ <;> simp
theorem GoR.c0 {N : Int → Int} {pp lg ly dn pw en tr mr cr z : Int} (h : evN N pp lg ly dn pw = 0) (hz : z = ahd ly dn) : GoR N pp lg ly dn pw en tr mr cr en z dn (ppN N ly z pw) tr mr (cr + 1) 0 := by
  subst hz
  unfold GoR
  rw [h]
  refine ⟨rfl, rfl, rfl, rfl, rfl, ?_, ?_, ?_⟩ <;> simp
theorem GoR.c1 {N : Int → Int} {pp lg ly dn pw en tr mr cr : Int} (h : evN N pp lg ly dn pw = 1) : GoR N pp lg ly dn pw en tr mr cr en ly (1 - dn) pw (tr + 1) mr cr 1 := by
  unfold GoR
  rw [h]
  refine ⟨rfl, rfl, rfl, rfl, rfl, ?_, ?_, ?_⟩ <;> simp
theorem GoR.c27 {N : Int → Int} {pp lg ly dn pw en tr mr cr en2 dn2 x : Int} (h : evN N pp lg ly dn pw = if pw * N 3 / 100 = 0 then 7 else 2) (hm : (pw * N 3 / 100 = 0 ∧ en2 = 2 ∧ dn2 = dn ∧ x = 5) ∨ (¬ pw * N 3 / 100 = 0 ∧ en2 = en ∧ dn2 = 0 ∧ x = 2)) : GoR N pp lg ly dn pw en tr mr cr en2 ly dn2 (pw * N 3 / 100) tr (mr + 1) cr x := by
  unfold GoR
  rcases hm with ⟨a, rfl, rfl, rfl⟩ | ⟨a, rfl, rfl, rfl⟩
  · rw [if_pos a] at h
    rw [h]
    refine ⟨rfl, rfl, rfl, rfl, ?_, ?_, ?_, ?_⟩ <;> simp [a]
  · rw [if_neg a] at h
    rw [h]
    refine ⟨rfl, rfl, rfl, rfl, rfl, ?_, ?_, ?_⟩ <;> simp
theorem RunI.en_bd {N : Int → Int} {p y0 e0 : Int} {k : Nat} {ly dn lg en sh le tm pw tr mr cr de : Int} (h : RunI N p y0 e0 k ly dn lg en sh le tm pw tr mr cr de) : -1 ≤ en ∧ en ≤ 4 := by
  obtain ⟨-, h⟩ := h
  rcases h with ⟨hb, he, -⟩ | ⟨hb, hw, j, rfl, ho, hv', he'⟩ | ⟨hb, rfl, he', hw⟩
  · omega
  · have := endE_ge (v := vE N p y0 e0 j)
    omega
  · omega
theorem RunI.sums {N : Int → Int} (hN : NOk0 N) {p y0 e0 : Int} {k : Nat} {ly dn lg en sh le tm pw tr mr cr de : Int} (h : RunI N p y0 e0 k ly dn lg en sh le tm pw tr mr cr de) (hk : k ≤ 60) (he : en = -1) (p0 : 0 ≤ p) (he0 : e0 = 0 ∨ e0 = 1) : (lg = (k : Int)) ∧ (0 ≤ sh ∧ sh ≤ 29970000) ∧ (0 ≤ le ∧ le ≤ 29970000) ∧ (0 ≤ tm ∧ tm ≤ 119880000) ∧ (0 ≤ tr ∧ tr ≤ 60) ∧ (0 ≤ mr ∧ mr ≤ 60) ∧ (0 ≤ cr ∧ cr ≤ 60) ∧ -1 ≤ de ∧ de ≤ 9 := by
  obtain ⟨hs, h⟩ := h
  rcases h with ⟨hb, -, hw, ho, hy, hd⟩ | ⟨hb, hw, j, rfl, ho, hv', he'⟩ | ⟨hb, rfl, he', hw⟩
  · exact hs.bd hN hk p0 (Or.inr hb) he0 (fun i hi => ho i (by omega))
  · have := endE_ge (v := vE N p y0 e0 j)
    omega
  · omega
