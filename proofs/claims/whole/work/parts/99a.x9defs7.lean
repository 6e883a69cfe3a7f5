/-! ===== bests, one slant after the other ===== -/
theorem BestI.tk1 {N : Int → Int} {y e x : Int} {sc : Int → Int} {str : Prop} {w vb vw : Int} (h : BestI N y e x sc str w vb vw) (h0 : 0 ≤ w) (he : enF N w y e = x) (hb : vb = -1 ∨ vw < sc w) : BestI N y e x sc str (w + 1) w (sc w) := by
  rcases h with ⟨a, b⟩ | ⟨a, b, c, d, g⟩
  · refine Or.inr ⟨by omega, he, rfl, fun p p0 p1 hp => ?_, fun _ p p0 p1 hp => absurd hp (b p p0 p1)⟩
    by_cases q : p < w
    · exact absurd hp (b p p0 q)
    · rw [show p = w by omega]; exact Int.le_refl _
  · refine Or.inr ⟨by omega, he, rfl, fun p p0 p1 hp => ?_, fun _ p p0 p1 hp => ?_⟩
    · by_cases q : p < w
      · have := d p p0 q hp; omega
      · rw [show p = w by omega]; exact Int.le_refl _
    · have := d p p0 p1 hp; omega
theorem BestI.stay {N : Int → Int} {y e x : Int} {sc : Int → Int} {str : Prop} {w vb vw : Int} (h : BestI N y e x sc str w vb vw) (hb : ¬ vb = -1) (hv : ¬ vw < sc w) : BestI N y e x sc str (w + 1) vb vw := by
  rcases h with ⟨a, b⟩ | ⟨a, b, c, d, g⟩
  · exact absurd a hb
  · refine Or.inr ⟨by omega, b, c, fun p p0 p1 hp => ?_, g⟩
    by_cases q : p < w
    · exact d p p0 q hp
    · rw [show p = w by omega]; omega
theorem BestI.pass {N : Int → Int} {y e x : Int} {sc : Int → Int} {str : Prop} {w vb vw : Int} (h : BestI N y e x sc str w vb vw) (he : ¬ enF N w y e = x) : BestI N y e x sc str (w + 1) vb vw :=
  h.skip (by omega) (fun p a b => by rw [show p = w by omega]; exact he)
theorem BestI.one {N : Int → Int} {y e x : Int} {sc : Int → Int} {str str2 : Prop} {t vb vw wb ww : Int} (h : BestI N y e x sc str t vb vw) (g : BestI N y e x sc str2 t wb ww) : (vb = -1 ↔ wb = -1) ∧ (¬ vb = -1 → vw = ww) ∧ (str → str2 → vb = wb) := by
  rcases h with ⟨a, b⟩ | ⟨a, b, c, d, f⟩
  · rcases g with ⟨a', b'⟩ | ⟨a', b', c', d', f'⟩
    · exact ⟨by omega, fun z => absurd a z, fun _ _ => by omega⟩
    · exact absurd b' (b wb a'.1 a'.2)
  · rcases g with ⟨a', b'⟩ | ⟨a', b', c', d', f'⟩
    · exact absurd b (b' vb a.1 a.2)
    · have e1 := d wb a'.1 a'.2 b'
      have e2 := d' vb a.1 a.2 b
      refine ⟨by omega, fun _ => by omega, fun s s2 => ?_⟩
      rcases Int.lt_trichotomy vb wb with q | q | q
      · have := f' s2 vb a.1 q b; omega
      · exact q
      · have := f s wb a'.1 q b'; omega
theorem LowR.one {N : Int → Int} {y e x r s : Int} (h : LowR N y e x r) (g : LowR N y e x s) : r = s := by
  rcases h with ⟨a, b⟩ | ⟨a, b, c⟩
  · rcases g with ⟨a', b'⟩ | ⟨a', b', c'⟩
    · omega
    · exact absurd b' (b s a'.1 a'.2)
  · rcases g with ⟨a', b'⟩ | ⟨a', b', c'⟩
    · exact absurd b (b' r a.1 a.2)
    · rcases Int.lt_trichotomy r s with q | q | q
      · exact absurd b (c' r a.1 q)
      · exact q
      · exact absurd b' (c s a'.1 q)
/-- the greatest sum of shifts of those that end so, below w -/
def FarR (N : Int → Int) (y e x w mm : Int) : Prop := ∃ vb vw : Int, BestI N y e x (scG N y e 2) True w vb vw ∧ mm = if vb = -1 then -1 else vw
theorem FarR.zero (N : Int → Int) (y e x : Int) : FarR N y e x 0 (-1) := ⟨-1, 0, Or.inl ⟨rfl, fun p a b => by omega⟩, rfl⟩
theorem FarR.pass {N : Int → Int} {y e x w mm : Int} (h : FarR N y e x w mm) (he : ¬ enF N w y e = x) : FarR N y e x (w + 1) mm := by
  obtain ⟨vb, vw, a, b⟩ := h
  exact ⟨vb, vw, a.pass he, b⟩
theorem FarR.max {N : Int → Int} (hN : NOk0 N) {y e x w mm : Int} (h : FarR N y e x w mm) (h0 : 0 ≤ w) (hx : e = 0 ∨ e = 1) (he : enF N w y e = x) : FarR N y e x (w + 1) (max mm (shF N w y e)) := by
  obtain ⟨vb, vw, a, b⟩ := h
  have sb := (shF_bd hN h0 hx (y := y)).1
  have es : scG N y e 2 w = shF N w y e := rfl
  by_cases q : vb = -1
  · rw [if_pos q] at b
    refine ⟨w, _, a.tk1 h0 he (Or.inl q), ?_⟩
    rw [if_neg (by omega), es]
    omega
  · rw [if_neg q] at b
    by_cases g : vw < scG N y e 2 w
    · refine ⟨w, _, a.tk1 h0 he (Or.inr g), ?_⟩
      rw [if_neg (by omega), es]
      omega
    · refine ⟨vb, vw, a.stay q g, ?_⟩
      rw [if_neg q]
      omega
theorem iabs_bd (a : Int) : 0 ≤ iabs a ∧ (iabs a = a ∨ iabs a = -a) := by
  unfold iabs
  split <;> omega
