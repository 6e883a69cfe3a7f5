/-! ===== what both hold: numbers count only at 0 to 94 ===== -/
theorem ScOk.congr {N M : Int → Int} {ou mi bo ln : Int} {LF : Int → Int} {sn : Int} {SF : Int → Int} (h : ScOk N ou mi bo ln LF sn SF) (hN : NOk0 N) (e : ∀ j : Int, 0 ≤ j → j < 95 → M j = N j) : ScOk M ou mi bo ln LF sn SF := by
  obtain ⟨e0, e1, e2, e3, e4, e5, e6⟩ := h
  have n0 := hN.1
  have n3 := hN.2.2.2.1
  refine ⟨by rw [e 0 (by decide) (by decide)]; exact e0, by rw [e 1 (by decide) (by decide)]; exact e1, by rw [e 2 (by decide) (by decide)]; exact e2, by rw [e 3 (by decide) (by decide)]; exact e3, by rw [e 4 (by decide) (by decide)]; exact e4, fun r k a1 a2 a3 a4 => ?_, fun r k a1 a2 a3 a4 => ?_⟩
  · rw [e _ (by omega) (by omega)]; exact e5 r k a1 a2 a3 a4
  · rw [e _ (by omega) (by omega)]; exact e6 r k a1 a2 a3 a4
theorem NOk0.congr {N M : Int → Int} (h : NOk0 N) (e : ∀ j : Int, 0 ≤ j → j < 95 → M j = N j) : NOk0 M := by
  obtain ⟨n0, n1, n2, n3, n4, n5⟩ := h
  have q0 := e 0 (by decide) (by decide)
  have q4 := e 4 (by decide) (by decide)
  refine ⟨by rw [q0]; exact n0, by rw [e 1 (by decide) (by decide)]; exact n1, by rw [e 2 (by decide) (by decide), e 3 (by decide) (by decide)]; exact n2, by rw [q4]; exact n3, fun r h0 h1 => ?_, fun r h0 h1 => ?_⟩
  · rw [q0] at h1
    rw [e _ (by omega) (by omega), e _ (by omega) (by omega), e _ (by omega) (by omega)]
    exact n4 r h0 h1
  · rw [q4] at h1
    rw [e _ (by omega) (by omega), e _ (by omega) (by omega), e _ (by omega) (by omega)]
    exact n5 r h0 h1
theorem NOk.congr {N M : Int → Int} (h : NOk N) (e : ∀ j : Int, 0 ≤ j → j < 95 → M j = N j) : NOk M := ⟨h.1.congr e, by rw [e 0 (by decide) (by decide)]; exact h.2⟩
theorem secN_at (PA : Int → Int) (k : Int) (N : Int → Int) {j : Int} (h0 : 0 ≤ j) (h1 : j < 95) : secN PA k N j = PA (95 * k + j) := if_pos ⟨h0, h1⟩
theorem cpyI_at (M N : Int → Int) {j : Int} (h0 : 0 ≤ j) (h1 : j < 95) : cpyI M N 95 j = M j := if_pos ⟨h0, h1⟩
/-! ===== the history and the slots of both ===== -/
def PstR (o : Nat → Option SR) (nx rm : Int) (PA : Int → Int) : Prop := (0 ≤ nx ∧ nx < 6) ∧ (0 ≤ rm ∧ rm ≤ 6) ∧ ∀ k : Int, 0 ≤ k → k < rm → ∃ r, o ((nx + 6 - rm + k) % 6).toNat = some r ∧ ScR (secN PA k eN0) r ∧ NOk (secN PA k eN0)
theorem PstR.zero (o : Nat → Option SR) (PA : Int → Int) : PstR o 0 0 PA := ⟨by decide, by decide, fun k a b => by omega⟩
theorem ScR.congr {N M : Int → Int} {r : SR} (h : ScR N r) (hN : NOk0 N) (e : ∀ j : Int, 0 ≤ j → j < 95 → M j = N j) : ScR M r := ScOk.congr h hN e
theorem PstR.add {o : Nat → Option SR} {nx rm : Int} {PA P2 N : Int → Int} {u : SR} (h : PstR o nx rm PA) (hu : ScR N u) (hN : NOk N) (hP : ∀ j : Int, 0 ≤ j → j < 570 → P2 j = remP rm PA N j) : PstR (oup o nx.toNat u) ((nx + 1) % 6) (min (rm + 1) 6) P2 := by
  obtain ⟨h1, h2, h3⟩ := h
  refine ⟨by omega, by omega, fun k a b => ?_⟩
  by_cases g : rm = 6
  · by_cases gk : k = 5
    · have ix : (((nx + 1) % 6 + 6 - min (rm + 1) 6 + k) % 6).toNat = nx.toNat := by omega
      have ee : ∀ j : Int, 0 ≤ j → j < 95 → secN P2 k eN0 j = N j := fun j j0 j1 => by
        rw [secN_at P2 k eN0 j0 j1, hP _ (by omega) (by omega)]
        unfold remP
        rw [if_pos g, if_neg (by omega)]
        congr 1; omega
      exact ⟨u, by rw [ix]; unfold oup; rw [if_pos rfl], hu.congr hN.1 ee, hN.congr ee⟩
    · obtain ⟨r, r1, r2, r3⟩ := h3 (k + 1) (by omega) (by omega)
      have ix : (((nx + 1) % 6 + 6 - min (rm + 1) 6 + k) % 6).toNat = ((nx + 6 - rm + (k + 1)) % 6).toNat := by omega
      have ne : ¬ ((nx + 6 - rm + (k + 1)) % 6).toNat = nx.toNat := by omega
      have ee : ∀ j : Int, 0 ≤ j → j < 95 → secN P2 k eN0 j = secN PA (k + 1) eN0 j := fun j j0 j1 => by
        rw [secN_at P2 k eN0 j0 j1, secN_at PA (k + 1) eN0 j0 j1, hP _ (by omega) (by omega)]
        unfold remP
        rw [if_pos g, if_pos (by omega)]
        congr 1; omega
      exact ⟨r, by rw [ix]; unfold oup; rw [if_neg ne]; exact r1, r2.congr r3.1 ee, r3.congr ee⟩
  · by_cases gk : k = rm
    · have ix : (((nx + 1) % 6 + 6 - min (rm + 1) 6 + k) % 6).toNat = nx.toNat := by omega
      have ee : ∀ j : Int, 0 ≤ j → j < 95 → secN P2 k eN0 j = N j := fun j j0 j1 => by
        rw [secN_at P2 k eN0 j0 j1, hP _ (by omega) (by omega)]
        unfold remP
        rw [if_neg g, if_pos (by omega)]
        congr 1; omega
      exact ⟨u, by rw [ix]; unfold oup; rw [if_pos rfl], hu.congr hN.1 ee, hN.congr ee⟩
    · obtain ⟨r, r1, r2, r3⟩ := h3 k (by omega) (by omega)
      have ix : (((nx + 1) % 6 + 6 - min (rm + 1) 6 + k) % 6).toNat = ((nx + 6 - rm + k) % 6).toNat := by omega
      have ne : ¬ ((nx + 6 - rm + k) % 6).toNat = nx.toNat := by omega
      have ee : ∀ j : Int, 0 ≤ j → j < 95 → secN P2 k eN0 j = secN PA k eN0 j := fun j j0 j1 => by
        rw [secN_at P2 k eN0 j0 j1, secN_at PA k eN0 j0 j1, hP _ (by omega) (by omega)]
        unfold remP
        rw [if_neg g, if_neg (by omega)]
      exact ⟨r, by rw [ix]; unfold oup; rw [if_neg ne]; exact r1, r2.congr r3.1 ee, r3.congr ee⟩
theorem PstR.last {o : Nat → Option SR} {nx rm : Int} {PA : Int → Int} (h : PstR o nx rm PA) (h0 : 0 < rm) : (∃ r, o ((nx + 6 - 1) % 6).toNat = some r ∧ ScR (secN PA (rm - 1) eN0) r ∧ NOk (secN PA (rm - 1) eN0)) ∧ PstR o ((nx + 6 - 1) % 6) (rm - 1) PA := by
  obtain ⟨h1, h2, h3⟩ := h
  refine ⟨?_, by omega, by omega, fun k a b => ?_⟩
  · obtain ⟨r, r1, r2⟩ := h3 (rm - 1) (by omega) (by omega)
    have ix : ((nx + 6 - rm + (rm - 1)) % 6).toNat = ((nx + 6 - 1) % 6).toNat := by omega
    rw [ix] at r1
    exact ⟨r, r1, r2⟩
  · obtain ⟨r, r1, r2⟩ := h3 k (by omega) (by omega)
    have ix : (((nx + 6 - 1) % 6 + 6 - (rm - 1) + k) % 6).toNat = ((nx + 6 - rm + k) % 6).toNat := by omega
    rw [← ix] at r1
    exact ⟨r, r1, r2⟩
def SltR (os : Nat → Option SR) (KE JF : Int → Int) : Prop := ∀ k : Int, 0 ≤ k → k < 2 → (JF k = 0 ∧ os k.toNat = none) ∨ (JF k = 1 ∧ ∃ r, os k.toNat = some r ∧ ScR (secN KE k eN0) r ∧ NOk (secN KE k eN0))
theorem SltR.zero (KE : Int → Int) : SltR (fun _ => none) KE (fun _ => 0) := fun _ _ _ => Or.inl ⟨rfl, rfl⟩
theorem SltR.keep {os : Nat → Option SR} {KE K2 JF N : Int → Int} {x : Int} {u : SR} (h : SltR os KE JF) (hx : 0 ≤ x ∧ x ≤ 1) (hu : ScR N u) (hN : NOk N) (hK : ∀ j : Int, K2 j = if 95 * x ≤ j ∧ j < 95 * x + 95 then N (j - 95 * x) else KE j) : SltR (oup os x.toNat u) K2 (upI JF x 1) := fun k a b => by
  by_cases g : k = x
  · subst g
    have ee : ∀ j : Int, 0 ≤ j → j < 95 → secN K2 k eN0 j = N j := fun j j0 j1 => by
      rw [secN_at K2 k eN0 j0 j1, hK, if_pos (by omega)]
      congr 1; omega
    exact Or.inr ⟨upI_e _ _ rfl, u, by unfold oup; rw [if_pos rfl], hu.congr hN.1 ee, hN.congr ee⟩
  · have ne : ¬ k.toNat = x.toNat := by omega
    have e1 : upI JF x 1 k = JF k := upI_n _ _ g
    have e2 : oup os x.toNat u k.toNat = os k.toNat := by unfold oup; rw [if_neg ne]
    have ee : ∀ j : Int, 0 ≤ j → j < 95 → secN K2 k eN0 j = secN KE k eN0 j := fun j j0 j1 => by
      rw [secN_at K2 k eN0 j0 j1, secN_at KE k eN0 j0 j1, hK, if_neg (by omega)]
    rw [e1, e2]
    rcases h k a b with q | ⟨q1, r, q2, q3, q4⟩
    · exact Or.inl q
    · exact Or.inr ⟨q1, r, q2, q3.congr q4.1 ee, q4.congr ee⟩
theorem SltR.j01 {os : Nat → Option SR} {KE JF : Int → Int} (h : SltR os KE JF) : ∀ i : Int, 0 ≤ i → i < 2 → JF i = 0 ∨ JF i = 1 := fun i a b => (h i a b).elim (fun q => Or.inl q.1) (fun q => Or.inr q.1)
theorem SltR.no {os : Nat → Option SR} {KE JF : Int → Int} (h : SltR os KE JF) {k : Int} (a : 0 ≤ k ∧ k < 2) (h0 : ¬ JF k = 1) : os k.toNat = none := (h k a.1 a.2).elim (fun q => q.2) (fun q => absurd q.1 h0)
theorem SltR.yes {os : Nat → Option SR} {KE JF : Int → Int} (h : SltR os KE JF) {k : Int} (a : 0 ≤ k ∧ k < 2) (h1 : JF k = 1) : ∃ r, os k.toNat = some r ∧ ScR (secN KE k eN0) r ∧ NOk (secN KE k eN0) := (h k a.1 a.2).elim (fun q => absurd (q.1.symm.trans h1) (by decide)) (fun q => q.2)
theorem secN_N (PA : Int → Int) (k : Int) (N M : Int → Int) : ∀ j : Int, 0 ≤ j → j < 95 → secN PA k M j = secN PA k N j := fun j a b => (secN_at PA k M a b).trans (secN_at PA k N a b).symm
