/-! ===== what both hold: numbers count only at 0 to 94 ===== -/
theorem ScOk.congr {N M : Int → Int} {ou mi bo ln : Int} {LF : Int → Int} {sn : Int} {SF : Int → Int} (h : ScOk N ou mi bo ln LF sn SF) (hN : NOk0 N) (e : ∀ j : Int, 0 ≤ j → j < 95 → M j = N j) : ScOk M ou mi bo ln LF sn SF := by
  obtain ⟨e0, e1, e2, e3, e4, e5, e6⟩ := h
  have n0 := hN.1
  have n3 := hN.2.2.2.1
  refine ⟨by rw [e 0 (by decide) (by decide)]; exact e0, by rw [e 1 (by decide) (by decide)]; exact e1, by rw [e 2 (by decide) (by decide)]; exact e2, by rw [e 3 (by decide) (by decide)]; exact e3, by rw [e 4 (by decide) (by decide)]; exact e4, fun r k a1 a2 a3 a4 => ?_, fun r k a1 a2 a3 a4 => ?_⟩
  · rw [e _ (by omega) (by omega)]; exact e5 r k a1 a2 a3 a4
  · rw [e _ (by omega) (by omega)]; exact e6 r k a1 a2 a3 a4
theorem NOk0.congr {N M : Int → Int} (h : NOk0 N) (e : ∀ j : Int, 0 ≤ j → j < 95 → M j = N j) : NOk0 M := by
  obtain ⟨n0, n1, n2, n3, n4, n5⟩ := h
  have q0 := e 0 (by decide) (by decide)
  have q4 := e 4 (by decide) (by decide)
  refine ⟨by rw [q0]; exact n0, by rw [e 1 (by decide) (by decide)]; exact n1, by rw [e 2 (by decide) (by decide), e 3 (by decide) (by decide)]; exact n2, by rw [q4]; exact n3, fun r h0 h1 => ?_, fun r h0 h1 => ?_⟩
  · rw [q0] at h1
    rw [e _ (by omega) (by omega), e _ (by omega) (by omega), e _ (by omega) (by omega)]
    exact n4 r h0 h1
  · rw [q4] at h1
    rw [e _ (by omega) (by omega), e _ (by omega) (by omega), e _ (by omega) (by omega)]
    exact n5 r h0 h1
theorem secN_at (PA : Int → Int) (k : Int) (N : Int → Int) {j : Int} (h0 : 0 ≤ j) (h1 : j < 95) : secN PA k N j = PA (95 * k + j) := if_pos ⟨h0, h1⟩
theorem cpyI_at (M N : Int → Int) {j : Int} (h0 : 0 ≤ j) (h1 : j < 95) : cpyI M N 95 j = M j := if_pos ⟨h0, h1⟩
