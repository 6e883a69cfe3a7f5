theorem enF_bd (N : Int → Int) (p y e : Int) : 0 ≤ enF N p y e ∧ enF N p y e ≤ 4 := by
  unfold enF enN
  split
  · omega
  · have := endE_ge (v := vE N p y e (lgF N p y e - 1))
    omega
theorem lgF_bd (N : Int → Int) (p y e : Int) : lgF N p y e ≤ 60 := by
  rcases isN_lgF N p y e with ⟨-, h⟩ | ⟨-, k, h, h1, -⟩ <;> omega
theorem ixN_in {N : Int → Int} {y : Int} (h : 0 ≤ y ∧ y < N 0) : ixN N y = nX N y := by
  unfold ixN nX
  rw [if_neg (by omega), if_neg (by omega)]
theorem stu_keep {N : Int → Int} {w f u u' : Int} (hz : ∀ z : Int, -1 ≤ z → z < w → f < ixN N z → u ≤ ixN N z) (h : f < ixN N w → u' ≤ ixN N w) (hu : u' ≤ u) : ∀ z : Int, -1 ≤ z → z < w + 1 → f < ixN N z → u' ≤ ixN N z := fun z a b c => by
  by_cases q : z = w
  · subst q; exact h c
  · have := hz z a (by omega) c
    omega
theorem gap_step {w g g' : Int} (h : w = 0 ∧ g ≤ 4000 ∨ 1 ≤ w ∧ g ≤ gB (w - 1).toNat) (h1 : w = 0 → g' ≤ g) (h2 : 1 ≤ w → g' ≤ g / 2) : w + 1 = 0 ∧ g' ≤ 4000 ∨ 1 ≤ w + 1 ∧ g' ≤ gB (w + 1 - 1).toNat := by
  refine Or.inr ?_
  rcases h with ⟨a, b⟩ | ⟨a, b⟩
  · have := h1 a
    subst a
    exact ⟨by decide, by show g' ≤ 4000; omega⟩
  · have := h2 a
    rw [show (w + 1 - 1).toNat = (w - 1).toNat + 1 by omega, gB]
    exact ⟨by omega, by omega⟩
theorem gB_le31 {k : Nat} (h : 31 ≤ k) : gB k = 0 := by
  obtain ⟨d, rfl⟩ : ∃ d, k = 31 + d := ⟨k - 31, by omega⟩
  induction d with
  | zero => decide
  | succ d ih =>
    rw [show 31 + (d + 1) = (31 + d) + 1 by omega, gB, ih (by omega)]
    rfl
theorem gap_end {w g : Int} (h : w = 0 ∧ g ≤ 4000 ∨ 1 ≤ w ∧ g ≤ gB (w - 1).toNat) (hw : 32 ≤ w) : g ≤ 0 := by
  rcases h with ⟨a, b⟩ | ⟨a, b⟩
  · omega
  · rw [gB_le31 (by omega)] at b
    exact b
theorem gap2_step {w g g' : Int} (h0 : 0 ≤ w) (h : g ≤ gB w.toNat) (h2 : g' ≤ g / 2) : g' ≤ gB (w + 1).toNat := by
  rw [show (w + 1).toNat = w.toNat + 1 by omega, gB]
  omega
theorem gap2_end {w g : Int} (h : g ≤ gB w.toNat) (hw : 32 ≤ w) : g ≤ 0 := by
  rw [gB_le31 (by omega)] at h
  exact h
theorem MN_pos {N : Int → Int} (h : NOk0 N) {y e f : Int} (hy : 0 ≤ y ∧ y < N 0) (he : e = 0 ∨ e = 1) (f0 : 0 ≤ f) (f1 : f < nX N y) : 1 ≤ MN N y e f := by
  have a := rk_bd h hy he f0 f1
  have b := plN_bd N (nX N y) f (N 0 + 2).toNat
  unfold MN
  omega
/-- how many of the first slants end so -/
def cntS (N : Int → Int) (y e x : Int) : Nat → Int
  | 0 => 0
  | k + 1 => cntS N y e x k + if enF N (k : Int) y e = x then 1 else 0
theorem cntS_add (N : Int → Int) (y e x v : Int) (f : Nat) : ∀ d : Nat, (∀ p : Int, (f : Int) ≤ p → p < f + d → enF N p y e = v) → cntS N y e x (f + d) = cntS N y e x f + if v = x then (d : Int) else 0
  | 0, _ => by
    rw [Nat.add_zero]
    split <;> simp
  | d + 1, h => by
    rw [← Nat.add_assoc, cntS, cntS_add N y e x v f d (fun p a b => h p a (by omega)), h ((f + d : Nat) : Int) (by omega) (by omega)]
    split <;> omega
theorem cntS_part {N : Int → Int} {y e f t en x : Int} (h : PartN N y e f t en) (f0 : 0 ≤ f) : cntS N y e x t.toNat = cntS N y e x f.toNat + if en = x then t - f else 0 := by
  obtain ⟨⟨h1, h2⟩, h3, h4, -⟩ := h
  have := cntS_add N y e x en f.toNat (t - f).toNat (fun p a b => (h4 p (by omega) (by omega)).2.1)
  rw [show f.toNat + (t - f).toNat = t.toNat by omega, show ((t - f).toNat : Int) = t - f by omega] at this
  exact this
theorem cntS_bd (N : Int → Int) (y e x : Int) : ∀ k : Nat, 0 ≤ cntS N y e x k ∧ cntS N y e x k ≤ k
  | 0 => by simp [cntS]
  | k + 1 => by
    have := cntS_bd N y e x k
    simp only [cntS]
    split <;> omega
/-- the best slant below t that ends so; str: the first one of equal score -/
def BestI (N : Int → Int) (y e x : Int) (sc : Int → Int) (str : Prop) (t vb vw : Int) : Prop :=
  (vb = -1 ∧ ∀ p : Int, 0 ≤ p → p < t → enF N p y e ≠ x) ∨ ((0 ≤ vb ∧ vb < t) ∧ enF N vb y e = x ∧ vw = sc vb ∧ (∀ p : Int, 0 ≤ p → p < t → enF N p y e = x → sc p ≤ vw) ∧ (str → ∀ p : Int, 0 ≤ p → p < vb → enF N p y e = x → sc p < vw))
theorem BestI.bd {N : Int → Int} {y e x : Int} {sc : Int → Int} {str : Prop} {t vb vw : Int} (h : BestI N y e x sc str t vb vw) (ht : 0 ≤ t) : -1 ≤ vb ∧ (vb < t ∨ vb = -1) := by
  rcases h with ⟨a, -⟩ | ⟨a, -⟩ <;> omega
theorem BestI.skip {N : Int → Int} {y e x : Int} {sc : Int → Int} {str : Prop} {f t vb vw : Int} (h : BestI N y e x sc str f vb vw) (hft : f ≤ t) (hp : ∀ p : Int, f ≤ p → p < t → enF N p y e ≠ x) : BestI N y e x sc str t vb vw := by
  rcases h with ⟨a, b⟩ | ⟨a, b, c, d, g⟩
  · exact Or.inl ⟨a, fun p p0 p1 => if q : p < f then b p p0 q else hp p (by omega) p1⟩
  · exact Or.inr ⟨by omega, b, c, fun p p0 p1 pe => if q : p < f then d p p0 q pe else absurd pe (hp p (by omega) p1), g⟩
/-- what consider() does -/
def ConS (vb vw s0 z0 vb2 vw2 : Int) : Prop := (vb = -1 ∨ vw < z0) ∧ vb2 = s0 ∧ vw2 = z0 ∨ ¬ (vb = -1 ∨ vw < z0) ∧ vb2 = vb ∧ vw2 = vw
theorem BestI.take {N : Int → Int} {y e x : Int} {sc : Int → Int} {str : Prop} {f t vb vw s0 vb2 vw2 : Int} (h : BestI N y e x sc str f vb vw) (f0 : 0 ≤ f) (hc : ConS vb vw s0 (sc s0) vb2 vw2) (hs : f ≤ s0 ∧ s0 < t) (he : enF N s0 y e = x) (hm : ∀ p : Int, f ≤ p → p < t → enF N p y e = x → sc p ≤ sc s0) (hf : str → ∀ p : Int, f ≤ p → p < s0 → enF N p y e = x → sc p < sc s0) : BestI N y e x sc str t vb2 vw2 := by
  rcases h with ⟨a, b⟩ | ⟨a, b, c, d, g⟩
  · rcases hc with ⟨-, rfl, rfl⟩ | ⟨k, -⟩
    · exact Or.inr ⟨by omega, he, rfl, fun p p0 p1 pe => if q : p < f then absurd pe (b p p0 q) else hm p (by omega) p1 pe, fun st p p0 p1 pe => if q : p < f then absurd pe (b p p0 q) else hf st p (by omega) p1 pe⟩
    · exact absurd (Or.inl a) k
  · rcases hc with ⟨k, rfl, rfl⟩ | ⟨k, rfl, rfl⟩
    · have hlt : vw < sc vb2 := k.resolve_left (by omega)
      exact Or.inr ⟨by omega, he, rfl, fun p p0 p1 pe => if q : p < f then by have := d p p0 q pe; omega else hm p (by omega) p1 pe, fun st p p0 p1 pe => if q : p < f then by have := d p p0 q pe; omega else hf st p (by omega) p1 pe⟩
    · have hle : sc s0 ≤ vw2 := by
        have := fun q => k (Or.inr q)
        omega
      exact Or.inr ⟨by omega, b, c, fun p p0 p1 pe => if q : p < f then d p p0 q pe else by have := hm p (by omega) p1 pe; omega, g⟩
def scG (N : Int → Int) (y e g p : Int) : Int := if g = 0 then -(tmF N p y e) else if g = 1 then pwF N p y e else shF N p y e
def nsG (N : Int → Int) (y e tg p : Int) : Int := -(iabs (shF N p y e - tg))
/-- within a part the sums and the power go one way -/
theorem PartN.mono {N : Int → Int} (h : NOk0 N) {y e f t en p p' : Int} (hP : PartN N y e f t en) (hy : 0 ≤ y ∧ y < N 0) (he : e = 0 ∨ e = 1) (f0 : 0 ≤ f) (h1 : f ≤ p) (h2 : p ≤ p') (h3 : p' < t) : shF N p y e ≤ shF N p' y e ∧ tmF N p y e ≤ tmF N p' y e ∧ pwF N p' y e ≤ pwF N p y e := by
  obtain ⟨⟨a1, a2⟩, a3, a4, -⟩ := hP
  have b1 := a4 p h1 (by omega)
  have b2 := a4 p' (by omega) h3
  exact sum_mono h (by omega) h2 (fun z z0 z1 => (b1.1 z z0 z1).symm.trans (b2.1 z z0 z1)) ⟨hy.1, hy.2, by unfold nX at a2; omega⟩ he (by rw [b1.2.2, b2.2.2])
theorem PartN.best {N : Int → Int} (h : NOk0 N) {y e f t en g vb vw vb2 vw2 s0 : Int} (hP : PartN N y e f t en) (hy : 0 ≤ y ∧ y < N 0) (he : e = 0 ∨ e = 1) (f0 : 0 ≤ f) (hg : g = 0 ∨ g = 1 ∨ g = 2) (hB : BestI N y e en (scG N y e g) (g ≠ 2) f vb vw) (hs : s0 = if g = 2 then t - 1 else f) (hc : ConS vb vw s0 (scG N y e g s0) vb2 vw2) : BestI N y e en (scG N y e g) (g ≠ 2) t vb2 vw2 := by
  have hq := hP
  obtain ⟨⟨a1, a2⟩, a3, a4, -⟩ := hq
  have hsr : f ≤ s0 ∧ s0 < t := by rw [hs]; split <;> omega
  refine hB.take f0 hc hsr (a4 s0 hsr.1 hsr.2).2.1 (fun p p0 p1 _ => ?_) (fun st p p0 p1 _ => ?_)
  · unfold scG
    rcases hg with rfl | rfl | rfl
    · rw [if_neg (by decide)] at hs
      subst hs
      have := hP.mono h hy he f0 (Int.le_refl _) p0 p1
      simp only [if_true]
      omega
    · rw [if_neg (by decide)] at hs
      subst hs
      have := hP.mono h hy he f0 (Int.le_refl _) p0 p1
      rw [if_neg (by decide), if_pos rfl, if_neg (by decide), if_pos rfl]
      omega
    · rw [if_pos rfl] at hs
      have := hP.mono h hy he f0 p0 (show p ≤ s0 by omega) hsr.2
      rw [if_neg (by decide), if_neg (by decide), if_neg (by decide), if_neg (by decide)]
      omega
  · rw [if_neg st] at hs
    omega
/-- firstReaching(): the first slant of the part with at least so much -/
def FstR (N : Int → Int) (y e f t tg r : Int) : Prop := (f ≤ r ∧ r ≤ t) ∧ (∀ p : Int, f ≤ p → p < r → shF N p y e < tg) ∧ ∀ p : Int, r ≤ p → p < t → tg ≤ shF N p y e
theorem near_below {N : Int → Int} (h : NOk0 N) {y e f t r tg vb vw vb2 vw2 s0 : Int} (hP : PartN N y e f t 0) (hy : 0 ≤ y ∧ y < N 0) (he : e = 0 ∨ e = 1) (f0 : 0 ≤ f) (hB : BestI N y e 0 (nsG N y e tg) True f vb vw) (hr : FstR N y e f t tg r) (hlt : f < r) (hs : FstR N y e f t (shF N (r - 1) y e) s0) (hc : ConS vb vw s0 (shF N (r - 1) y e - tg) vb2 vw2) : BestI N y e 0 (nsG N y e tg) True r vb2 vw2 := by
  obtain ⟨r1, r2, r3⟩ := hr
  obtain ⟨s1, s2, s3⟩ := hs
  have hP2 := hP
  obtain ⟨⟨a1, a2⟩, a3, a4, -⟩ := hP2
  have hsr : s0 ≤ r - 1 := by
    rcases Int.lt_or_le (r - 1) s0 with q | q
    · have := s2 (r - 1) (by omega) q; omega
    · exact q
  have es : shF N s0 y e = shF N (r - 1) y e := by
    have x1 := s3 s0 (Int.le_refl _) (by omega)
    have x2 := (hP.mono h hy he f0 s1.1 hsr (by omega)).1
    omega
  have el := r2 (r - 1) (by omega) (by omega)
  have e0 : nsG N y e tg s0 = shF N (r - 1) y e - tg := by unfold nsG iabs; rw [es, if_neg (by omega)]; omega
  rw [← e0] at hc
  refine hB.take f0 hc ⟨s1.1, by omega⟩ (a4 s0 s1.1 (by omega)).2.1 (fun p p0 p1 _ => ?_) (fun _ p p0 p1 _ => ?_)
  · rw [e0]
    have := r2 p p0 p1
    have := (hP.mono h hy he f0 p0 (show p ≤ r - 1 by omega) (by omega)).1
    unfold nsG iabs
    rw [if_neg (by omega)]
    omega
  · rw [e0]
    have := s2 p p0 p1
    unfold nsG iabs
    rw [if_neg (by omega)]
    omega
theorem near_above {N : Int → Int} (h : NOk0 N) {y e f t r tg vb vw vb2 vw2 : Int} (hP : PartN N y e f t 0) (hy : 0 ≤ y ∧ y < N 0) (he : e = 0 ∨ e = 1) (f0 : 0 ≤ f) (hB : BestI N y e 0 (nsG N y e tg) True r vb vw) (hr : FstR N y e f t tg r) (hlt : r < t) (hc : ConS vb vw r (tg - shF N r y e) vb2 vw2) : BestI N y e 0 (nsG N y e tg) True t vb2 vw2 := by
  obtain ⟨r1, r2, r3⟩ := hr
  have hP2 := hP
  obtain ⟨⟨a1, a2⟩, a3, a4, -⟩ := hP2
  have el := r3 r (Int.le_refl _) hlt
  have e0 : nsG N y e tg r = tg - shF N r y e := by unfold nsG iabs; rw [if_pos (by omega)]; omega
  rw [← e0] at hc
  refine hB.take (by omega) hc ⟨Int.le_refl _, hlt⟩ (a4 r r1.1 hlt).2.1 (fun p p0 p1 _ => ?_) (fun _ p p0 p1 _ => by omega)
  rw [e0]
  have := r3 p p0 p1
  have := (hP.mono h hy he f0 r1.1 p0 p1).1
  unfold nsG iabs
  rw [if_pos (by omega)]
  omega
theorem shF_bd {N : Int → Int} (h : NOk0 N) {p y e : Int} (p0 : 0 ≤ p) (he : e = 0 ∨ e = 1) : (0 ≤ shF N p y e ∧ shF N p y e ≤ 29970000) ∧ (0 ≤ tmF N p y e ∧ tmF N p y e ≤ 119880000) ∧ 0 ≤ pwF N p y e ∧ pwF N p y e ≤ 1000000 := by
  rcases isN_lgF N p y e with ⟨hb, hn⟩ | ⟨hb, k, hn, hk, ho, hv⟩
  · unfold shF tmF pwF pwN
    rw [hn]
    exact ⟨by simp [smN], by simp [smN], by simp⟩
  · have hl := lgF_bd N p y e
    have s := SumI.bd h (k := lgF N p y e) ⟨rfl, rfl, rfl, rfl, rfl, rfl, rfl, rfl⟩ hl p0 (Or.inr hb) he (by rw [hn]; exact ho)
    have g := on_bd h p0 hb he k (by omega) ho
    have q1 := (lost_bd h g.1.1 g.1.2 p0 g.2.1 g.2.2.2.1 g.2.2.2.2).2.2
    refine ⟨s.2.1, s.2.2.2.1, ?_⟩
    unfold pwF pwN
    rw [hn, if_neg (by omega), nx_w, if_neg (by omega), if_neg (by omega)]
    have : kN N p y e k = qN N p (yN N p y e k) (wN N p y e k) := rfl
    split <;> omega
