/-! ===== changes of a scene's numbers ===== -/
def insLN (N : Int → Int) (y a b c : Int) : Int → Int := fun j => if j = 0 then N 0 + 1 else if 5 + 3 * y ≤ j ∧ j < 8 + 3 * y then sel3 (j - 5 - 3 * y) a b c else if 8 + 3 * y ≤ j ∧ j < 8 + 3 * N 0 then N (j - 3) else N j
def remLN (N : Int → Int) (y : Int) : Int → Int := fun j => if j = 0 then N 0 - 1 else if 5 + 3 * y ≤ j ∧ j < 2 + 3 * N 0 then N (j + 3) else N j
def swpLN (N : Int → Int) (y x : Int) : Int → Int := fun j => if 5 + 3 * y ≤ j ∧ j < 8 + 3 * y then N (j - 3 * y + 3 * x) else if 5 + 3 * x ≤ j ∧ j < 8 + 3 * x then N (j - 3 * x + 3 * y) else N j
def remSN (N : Int → Int) (r : Int) : Int → Int := fun j => if j = 4 then N 4 - 1 else if 35 + 3 * r ≤ j ∧ j < 32 + 3 * N 4 then N (j + 3) else N j
theorem ScOk.ins {N : Int → Int} {ou mi bo ln : Int} {LF : Int → Int} {sn : Int} {SF : Int → Int} (h : ScOk N ou mi bo ln LF sn SF) (hN : NOk0 N) (hl : N 0 < 10) {y a b c : Int} (hy : 0 ≤ y ∧ y ≤ N 0) {F2 : Int → Int} (hF : ∀ r k : Int, 0 ≤ k → k < 3 → F2 (r * 3 + k) = if r = y then sel3 k a b c else if y < r ∧ r ≤ ln then LF ((r - 1) * 3 + k) else LF (r * 3 + k)) : ScOk (insLN N y a b c) ou mi bo (ln + 1) F2 sn SF := by
  obtain ⟨e0, e1, e2, e3, e4, e5, e6⟩ := h
  have n0 := hN.1
  refine ⟨?_, ?_, ?_, ?_, ?_, fun r k a1 a2 a3 a4 => ?_, fun r k a1 a2 a3 a4 => ?_⟩
  · exact (show insLN N y a b c 0 = N 0 + 1 from if_pos rfl).trans (by omega)
  · simp only [insLN]; rw [if_neg (by omega), if_neg (by omega), if_neg (by omega)]; exact e1
  · simp only [insLN]; rw [if_neg (by omega), if_neg (by omega), if_neg (by omega)]; exact e2
  · simp only [insLN]; rw [if_neg (by omega), if_neg (by omega), if_neg (by omega)]; exact e3
  · simp only [insLN]; rw [if_neg (by omega), if_neg (by omega), if_neg (by omega)]; exact e4
  · rw [hF r k a3 a4]
    simp only [insLN]
    rw [if_neg (show ¬ 5 + 3 * r + k = 0 by omega)]
    by_cases q : r = y
    · rw [if_pos q, if_pos (by omega), show 5 + 3 * r + k - 5 - 3 * y = k by omega]
    · rw [if_neg q, if_neg (show ¬ (5 + 3 * y ≤ 5 + 3 * r + k ∧ 5 + 3 * r + k < 8 + 3 * y) by omega)]
      by_cases g : y < r ∧ r ≤ ln
      · rw [if_pos g, if_pos (by omega), e5 (r - 1) k (by omega) (by omega) a3 a4]
        congr 1; omega
      · rw [if_neg g, if_neg (by omega)]
        exact e5 r k a1 (by omega) a3 a4
  · simp only [insLN]; rw [if_neg (by omega), if_neg (by omega), if_neg (by omega)]; exact e6 r k a1 a2 a3 a4
theorem NOk0.ins {N : Int → Int} (h : NOk0 N) (hl : N 0 < 10) {y a b c : Int} (hy : 0 ≤ y ∧ y ≤ N 0) (ha : 1000 ≤ a ∧ a ≤ 4000) (hb : 1 ≤ b ∧ b ≤ 999) (hc : 0 ≤ c ∧ c ≤ 99) : NOk0 (insLN N y a b c) := by
  obtain ⟨n0, n1, n2, n3, n4, n5⟩ := h
  have o : ∀ j : Int, j ≠ 0 → j < 5 ∨ 35 ≤ j → insLN N y a b c j = N j := fun j h1 h2 => by
    simp only [insLN]; rw [if_neg h1, if_neg (by omega), if_neg (by omega)]
  have z : insLN N y a b c 0 = N 0 + 1 := if_pos rfl
  have l : ∀ r k : Int, 0 ≤ r → r ≤ N 0 → 0 ≤ k → k < 3 → insLN N y a b c (5 + 3 * r + k) = if r = y then sel3 k a b c else if y < r then N (5 + 3 * (r - 1) + k) else N (5 + 3 * r + k) := fun r k h0 h1 k0 k1 => by
    simp only [insLN]
    rw [if_neg (by omega)]
    by_cases q : r = y
    · rw [if_pos (by omega), if_pos q]; congr 1; omega
    · rw [if_neg (by omega), if_neg q]
      by_cases g : y < r
      · rw [if_pos (by omega), if_pos g]; congr 1; omega
      · rw [if_neg (by omega), if_neg g]
  refine ⟨by rw [z]; omega, by rw [o 1 (by decide) (by decide)]; exact n1, by rw [o 2 (by decide) (by decide), o 3 (by decide) (by decide)]; exact n2, by rw [o 4 (by decide) (by decide)]; exact n3, fun r h0 h1 => ?_, fun r h0 h1 => ?_⟩
  · rw [z] at h1
    rw [l r 0 h0 (by omega) (by decide) (by decide), l r 1 h0 (by omega) (by decide) (by decide), l r 2 h0 (by omega) (by decide) (by decide)]
    by_cases q : r = y
    · rw [if_pos q, if_pos q, if_pos q]; exact ⟨ha, hb, hc⟩
    · rw [if_neg q, if_neg q, if_neg q]
      by_cases g : y < r
      · rw [if_pos g, if_pos g, if_pos g]; exact n4 (r - 1) (by omega) (by omega)
      · rw [if_neg g, if_neg g, if_neg g]; exact n4 r h0 (by omega)
  · rw [o 4 (by decide) (by decide)] at h1
    rw [o _ (by omega) (by omega), o _ (by omega) (by omega), o _ (by omega) (by omega)]
    exact n5 r h0 h1
theorem ScOk.rem {N : Int → Int} {ou mi bo ln : Int} {LF : Int → Int} {sn : Int} {SF : Int → Int} (h : ScOk N ou mi bo ln LF sn SF) (hN : NOk0 N) {y : Int} (hy : 0 ≤ y ∧ y < N 0) {F2 : Int → Int} (hF : ∀ r k : Int, 0 ≤ k → k < 3 → F2 (r * 3 + k) = if y ≤ r ∧ r < ln - 1 then LF ((r + 1) * 3 + k) else LF (r * 3 + k)) : ScOk (remLN N y) ou mi bo (ln - 1) F2 sn SF := by
  obtain ⟨e0, e1, e2, e3, e4, e5, e6⟩ := h
  have n0 := hN.1
  refine ⟨?_, ?_, ?_, ?_, ?_, fun r k a1 a2 a3 a4 => ?_, fun r k a1 a2 a3 a4 => ?_⟩
  · exact (show remLN N y 0 = N 0 - 1 from if_pos rfl).trans (by omega)
  · simp only [remLN]; rw [if_neg (by omega), if_neg (by omega)]; exact e1
  · simp only [remLN]; rw [if_neg (by omega), if_neg (by omega)]; exact e2
  · simp only [remLN]; rw [if_neg (by omega), if_neg (by omega)]; exact e3
  · simp only [remLN]; rw [if_neg (by omega), if_neg (by omega)]; exact e4
  · rw [hF r k a3 a4]
    simp only [remLN]
    rw [if_neg (show ¬ 5 + 3 * r + k = 0 by omega)]
    by_cases q : y ≤ r ∧ r < ln - 1
    · rw [if_pos q, if_pos (by omega), e5 (r + 1) k (by omega) (by omega) a3 a4]
      congr 1; omega
    · rw [if_neg q, if_neg (by omega)]
      exact e5 r k a1 (by omega) a3 a4
  · simp only [remLN]; rw [if_neg (by omega), if_neg (by omega)]; exact e6 r k a1 a2 a3 a4
theorem NOk0.rem {N : Int → Int} (h : NOk0 N) {y : Int} (hy : 0 ≤ y ∧ y < N 0) : NOk0 (remLN N y) := by
  obtain ⟨n0, n1, n2, n3, n4, n5⟩ := h
  have o : ∀ j : Int, j ≠ 0 → j < 5 ∨ 35 ≤ j → remLN N y j = N j := fun j h1 h2 => by
    simp only [remLN]; rw [if_neg h1, if_neg (by omega)]
  have z : remLN N y 0 = N 0 - 1 := if_pos rfl
  have l : ∀ r k : Int, 0 ≤ r → r < N 0 - 1 → 0 ≤ k → k < 3 → remLN N y (5 + 3 * r + k) = if y ≤ r then N (5 + 3 * (r + 1) + k) else N (5 + 3 * r + k) := fun r k h0 h1 k0 k1 => by
    simp only [remLN]
    rw [if_neg (by omega)]
    by_cases g : y ≤ r
    · rw [if_pos (by omega), if_pos g]; congr 1; omega
    · rw [if_neg (by omega), if_neg g]
  refine ⟨by rw [z]; omega, by rw [o 1 (by decide) (by decide)]; exact n1, by rw [o 2 (by decide) (by decide), o 3 (by decide) (by decide)]; exact n2, by rw [o 4 (by decide) (by decide)]; exact n3, fun r h0 h1 => ?_, fun r h0 h1 => ?_⟩
  · rw [z] at h1
    rw [l r 0 h0 (by omega) (by decide) (by decide), l r 1 h0 (by omega) (by decide) (by decide), l r 2 h0 (by omega) (by decide) (by decide)]
    by_cases g : y ≤ r
    · rw [if_pos g, if_pos g, if_pos g]; exact n4 (r + 1) (by omega) (by omega)
    · rw [if_neg g, if_neg g, if_neg g]; exact n4 r h0 (by omega)
  · rw [o 4 (by decide) (by decide)] at h1
    rw [o _ (by omega) (by omega), o _ (by omega) (by omega), o _ (by omega) (by omega)]
    exact n5 r h0 h1
theorem ScOk.swp {N : Int → Int} {ou mi bo ln : Int} {LF : Int → Int} {sn : Int} {SF : Int → Int} (h : ScOk N ou mi bo ln LF sn SF) (hN : NOk0 N) {y x : Int} (hy : 0 ≤ y ∧ y < N 0) (hx : 0 ≤ x ∧ x < N 0) {F2 : Int → Int} (hF : ∀ r k : Int, 0 ≤ k → k < 3 → F2 (r * 3 + k) = if r = y then LF (x * 3 + k) else if r = x then LF (y * 3 + k) else LF (r * 3 + k)) : ScOk (swpLN N y x) ou mi bo ln F2 sn SF := by
  obtain ⟨e0, e1, e2, e3, e4, e5, e6⟩ := h
  have n0 := hN.1
  refine ⟨?_, ?_, ?_, ?_, ?_, fun r k a1 a2 a3 a4 => ?_, fun r k a1 a2 a3 a4 => ?_⟩
  · simp only [swpLN]; rw [if_neg (by omega), if_neg (by omega)]; exact e0
  · simp only [swpLN]; rw [if_neg (by omega), if_neg (by omega)]; exact e1
  · simp only [swpLN]; rw [if_neg (by omega), if_neg (by omega)]; exact e2
  · simp only [swpLN]; rw [if_neg (by omega), if_neg (by omega)]; exact e3
  · simp only [swpLN]; rw [if_neg (by omega), if_neg (by omega)]; exact e4
  · rw [hF r k a3 a4]
    simp only [swpLN]
    by_cases q : r = y
    · rw [if_pos q, if_pos (by omega), e5 x k hx.1 (by omega) a3 a4]; congr 1; omega
    · rw [if_neg q, if_neg (show ¬ (5 + 3 * y ≤ 5 + 3 * r + k ∧ 5 + 3 * r + k < 8 + 3 * y) by omega)]
      by_cases g : r = x
      · rw [if_pos g, if_pos (by omega), e5 y k hy.1 (by omega) a3 a4]; congr 1; omega
      · rw [if_neg g, if_neg (by omega)]
        exact e5 r k a1 a2 a3 a4
  · simp only [swpLN]; rw [if_neg (by omega), if_neg (by omega)]; exact e6 r k a1 a2 a3 a4
theorem NOk0.swp {N : Int → Int} (h : NOk0 N) {y x : Int} (hy : 0 ≤ y ∧ y < N 0) (hx : 0 ≤ x ∧ x < N 0) : NOk0 (swpLN N y x) := by
  obtain ⟨n0, n1, n2, n3, n4, n5⟩ := h
  have o : ∀ j : Int, j < 5 ∨ 35 ≤ j → swpLN N y x j = N j := fun j h2 => by
    simp only [swpLN]; rw [if_neg (by omega), if_neg (by omega)]
  have l : ∀ r k : Int, 0 ≤ r → r < N 0 → 0 ≤ k → k < 3 → swpLN N y x (5 + 3 * r + k) = if r = y then N (5 + 3 * x + k) else if r = x then N (5 + 3 * y + k) else N (5 + 3 * r + k) := fun r k h0 h1 k0 k1 => by
    simp only [swpLN]
    by_cases q : r = y
    · rw [if_pos (by omega), if_pos q]; congr 1; omega
    · rw [if_neg (by omega), if_neg q]
      by_cases g : r = x
      · rw [if_pos (by omega), if_pos g]; congr 1; omega
      · rw [if_neg (by omega), if_neg g]
  refine ⟨by rw [o 0 (by decide)]; exact n0, by rw [o 1 (by decide)]; exact n1, by rw [o 2 (by decide), o 3 (by decide)]; exact n2, by rw [o 4 (by decide)]; exact n3, fun r h0 h1 => ?_, fun r h0 h1 => ?_⟩
  · rw [o 0 (by decide)] at h1
    rw [l r 0 h0 h1 (by decide) (by decide), l r 1 h0 h1 (by decide) (by decide), l r 2 h0 h1 (by decide) (by decide)]
    by_cases q : r = y
    · rw [if_pos q, if_pos q, if_pos q]; exact n4 x hx.1 hx.2
    · rw [if_neg q, if_neg q, if_neg q]
      by_cases g : r = x
      · rw [if_pos g, if_pos g, if_pos g]; exact n4 y hy.1 hy.2
      · rw [if_neg g, if_neg g, if_neg g]; exact n4 r h0 h1
  · rw [o 4 (by decide)] at h1
    rw [o _ (by omega), o _ (by omega), o _ (by omega)]
    exact n5 r h0 h1
theorem ScOk.remS {N : Int → Int} {ou mi bo ln : Int} {LF : Int → Int} {sn : Int} {SF : Int → Int} (h : ScOk N ou mi bo ln LF sn SF) (hN : NOk0 N) {y : Int} (hy : 0 ≤ y ∧ y < N 4) {F2 : Int → Int} (hF : ∀ r k : Int, 0 ≤ k → k < 3 → F2 (r * 3 + k) = if y ≤ r ∧ r < sn - 1 then SF ((r + 1) * 3 + k) else SF (r * 3 + k)) : ScOk (remSN N y) ou mi bo ln LF (sn - 1) F2 := by
  obtain ⟨e0, e1, e2, e3, e4, e5, e6⟩ := h
  have n0 := hN.1
  refine ⟨?_, ?_, ?_, ?_, ?_, fun r k a1 a2 a3 a4 => ?_, fun r k a1 a2 a3 a4 => ?_⟩
  · simp only [remSN]; rw [if_neg (by omega), if_neg (by omega)]; exact e0
  · simp only [remSN]; rw [if_neg (by omega), if_neg (by omega)]; exact e1
  · simp only [remSN]; rw [if_neg (by omega), if_neg (by omega)]; exact e2
  · simp only [remSN]; rw [if_neg (by omega), if_neg (by omega)]; exact e3
  · exact (show remSN N y 4 = N 4 - 1 from if_pos rfl).trans (by omega)
  · simp only [remSN]; rw [if_neg (by omega), if_neg (by omega)]; exact e5 r k a1 a2 a3 a4
  · rw [hF r k a3 a4]
    simp only [remSN]
    rw [if_neg (show ¬ 35 + 3 * r + k = 4 by omega)]
    by_cases q : y ≤ r ∧ r < sn - 1
    · rw [if_pos q, if_pos (by omega), e6 (r + 1) k (by omega) (by omega) a3 a4]
      congr 1; omega
    · rw [if_neg q, if_neg (by omega)]
      exact e6 r k a1 (by omega) a3 a4
theorem NOk0.remS {N : Int → Int} (h : NOk0 N) {y : Int} (hy : 0 ≤ y ∧ y < N 4) : NOk0 (remSN N y) := by
  obtain ⟨n0, n1, n2, n3, n4, n5⟩ := h
  have o : ∀ j : Int, j ≠ 4 → j < 35 → remSN N y j = N j := fun j h1 h2 => by
    simp only [remSN]; rw [if_neg h1, if_neg (by omega)]
  have z : remSN N y 4 = N 4 - 1 := if_pos rfl
  have l : ∀ r k : Int, 0 ≤ r → r < N 4 - 1 → 0 ≤ k → k < 3 → remSN N y (35 + 3 * r + k) = if y ≤ r then N (35 + 3 * (r + 1) + k) else N (35 + 3 * r + k) := fun r k h0 h1 k0 k1 => by
    simp only [remSN]
    rw [if_neg (by omega)]
    by_cases g : y ≤ r
    · rw [if_pos (by omega), if_pos g]; congr 1; omega
    · rw [if_neg (by omega), if_neg g]
  refine ⟨by rw [o 0 (by decide) (by decide)]; exact n0, by rw [o 1 (by decide) (by decide)]; exact n1, by rw [o 2 (by decide) (by decide), o 3 (by decide) (by decide)]; exact n2, by rw [z]; omega, fun r h0 h1 => ?_, fun r h0 h1 => ?_⟩
  · rw [o 0 (by decide) (by decide)] at h1
    rw [o _ (by omega) (by omega), o _ (by omega) (by omega), o _ (by omega) (by omega)]
    exact n4 r h0 h1
  · rw [z] at h1
    rw [l r 0 h0 h1 (by decide) (by decide), l r 1 h0 h1 (by decide) (by decide), l r 2 h0 h1 (by decide) (by decide)]
    by_cases g : y ≤ r
    · rw [if_pos g, if_pos g, if_pos g]; exact n5 (r + 1) (by omega) (by omega)
    · rw [if_neg g, if_neg g, if_neg g]; exact n5 r h0 (by omega)
theorem ScOk.setL {N : Int → Int} {ou mi bo ln : Int} {LF : Int → Int} {sn : Int} {SF : Int → Int} (h : ScOk N ou mi bo ln LF sn SF) (hN : NOk0 N) {y w v : Int} (hy : 0 ≤ y ∧ y < N 0) (hw : 0 ≤ w ∧ w < 3) : ScOk (upI N (5 + 3 * y + w) v) ou mi bo ln (upI LF (y * 3 + w) v) sn SF := by
  obtain ⟨e0, e1, e2, e3, e4, e5, e6⟩ := h
  have n0 := hN.1
  refine ⟨by rw [upI_n _ _ (by omega)]; exact e0, by rw [upI_n _ _ (by omega)]; exact e1, by rw [upI_n _ _ (by omega)]; exact e2, by rw [upI_n _ _ (by omega)]; exact e3, by rw [upI_n _ _ (by omega)]; exact e4, fun r k a1 a2 a3 a4 => ?_, fun r k a1 a2 a3 a4 => by rw [upI_n _ _ (by omega)]; exact e6 r k a1 a2 a3 a4⟩
  by_cases q : r = y ∧ k = w
  · rw [upI_e _ _ (by omega), upI_e _ _ (by omega)]
  · rw [upI_n _ _ (by omega), upI_n _ _ (by omega)]; exact e5 r k a1 a2 a3 a4
theorem ScOk.setS {N : Int → Int} {ou mi bo ln : Int} {LF : Int → Int} {sn : Int} {SF : Int → Int} (h : ScOk N ou mi bo ln LF sn SF) (hN : NOk0 N) {y w v : Int} (hy : 0 ≤ y ∧ y < N 4) (hw : 0 ≤ w ∧ w < 3) : ScOk (upI N (35 + 3 * y + w) v) ou mi bo ln LF sn (upI SF (y * 3 + w) v) := by
  obtain ⟨e0, e1, e2, e3, e4, e5, e6⟩ := h
  have n0 := hN.1
  refine ⟨by rw [upI_n _ _ (by omega)]; exact e0, by rw [upI_n _ _ (by omega)]; exact e1, by rw [upI_n _ _ (by omega)]; exact e2, by rw [upI_n _ _ (by omega)]; exact e3, by rw [upI_n _ _ (by omega)]; exact e4, fun r k a1 a2 a3 a4 => by rw [upI_n _ _ (by omega)]; exact e5 r k a1 a2 a3 a4, fun r k a1 a2 a3 a4 => ?_⟩
  by_cases q : r = y ∧ k = w
  · rw [upI_e _ _ (by omega), upI_e _ _ (by omega)]
  · rw [upI_n _ _ (by omega), upI_n _ _ (by omega)]; exact e6 r k a1 a2 a3 a4
theorem NOk0.setL {N : Int → Int} (h : NOk0 N) {y w v : Int} (hy : 0 ≤ y ∧ y < N 0) (hv : isVal w v) : NOk0 (upI N (5 + 3 * y + w) v) := by
  obtain ⟨n0, n1, n2, n3, n4, n5⟩ := h
  have hw : 0 ≤ w ∧ w < 3 := by unfold isVal at hv; omega
  have o : ∀ j : Int, j < 5 ∨ 35 ≤ j → upI N (5 + 3 * y + w) v j = N j := fun j hj => upI_n _ _ (by omega)
  refine ⟨by rw [o 0 (by decide)]; exact n0, by rw [o 1 (by decide)]; exact n1, by rw [o 2 (by decide), o 3 (by decide)]; exact n2, by rw [o 4 (by decide)]; exact n3, fun r h0 h1 => ?_, fun r h0 h1 => ?_⟩
  · rw [o 0 (by decide)] at h1
    have h4 := n4 r h0 h1
    simp only [upI]
    unfold isVal at hv
    refine ⟨?_, ?_, ?_⟩
    · split <;> omega
    · split <;> omega
    · split <;> omega
  · rw [o 4 (by decide)] at h1
    rw [o _ (by omega), o _ (by omega), o _ (by omega)]
    exact n5 r h0 h1
theorem NOk0.setS {N : Int → Int} (h : NOk0 N) {y v : Int} (hy : 0 ≤ y ∧ y < N 4) (hv : 0 ≤ v ∧ v ≤ 3999) : NOk0 (upI N (35 + 3 * y + 2) v) := by
  obtain ⟨n0, n1, n2, n3, n4, n5⟩ := h
  have o : ∀ j : Int, j < 35 → upI N (35 + 3 * y + 2) v j = N j := fun j hj => upI_n _ _ (by omega)
  refine ⟨by rw [o 0 (by decide)]; exact n0, by rw [o 1 (by decide)]; exact n1, by rw [o 2 (by decide), o 3 (by decide)]; exact n2, by rw [o 4 (by decide)]; exact n3, fun r h0 h1 => ?_, fun r h0 h1 => ?_⟩
  · rw [o 0 (by decide)] at h1
    rw [o _ (by omega), o _ (by omega), o _ (by omega)]
    exact n4 r h0 h1
  · rw [o 4 (by decide)] at h1
    have h5 := n5 r h0 h1
    simp only [upI]
    refine ⟨?_, ?_, ?_⟩
    · split <;> omega
    · split <;> omega
    · split <;> omega
