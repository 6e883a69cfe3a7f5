/-! ===== a layer more, a shot more ===== -/
theorem addLN_0 (N : Int → Int) (a b c : Int) (h : 0 ≤ N 0) : addLN N a b c 0 = N 0 + 1 := by
  unfold addLN
  rw [upI_n _ _ (by omega), upI_n _ _ (by omega), upI_n _ _ (by omega), upI_s]
theorem addLN_o (N : Int → Int) (a b c : Int) {j : Int} (h : 0 ≤ N 0) (h0 : j ≠ 0) (h1 : j < 5 ∨ 5 + 3 * N 0 + 2 < j) : addLN N a b c j = N j := by
  unfold addLN
  rw [upI_n _ _ (by omega), upI_n _ _ (by omega), upI_n _ _ (by omega), upI_n _ _ h0]
theorem addLN_l (N : Int → Int) (a b c : Int) {r k : Int} (h : 0 ≤ N 0) (h0 : 0 ≤ r) (h1 : r ≤ N 0) (k0 : 0 ≤ k) (k1 : k < 3) : addLN N a b c (5 + 3 * r + k) = if r = N 0 then sel3 k a b c else N (5 + 3 * r + k) := by
  unfold addLN sel3
  simp only [upI]
  (repeat' split) <;> first | rfl | omega
theorem addSN_4 (N : Int → Int) (a b c : Int) (h : 0 ≤ N 4) : addSN N a b c 4 = N 4 + 1 := by
  unfold addSN
  rw [upI_n _ _ (by omega), upI_n _ _ (by omega), upI_n _ _ (by omega), upI_s]
theorem addSN_o (N : Int → Int) (a b c : Int) {j : Int} (h : 0 ≤ N 4) (h0 : j ≠ 4) (h1 : j < 35) : addSN N a b c j = N j := by
  unfold addSN
  rw [upI_n _ _ (by omega), upI_n _ _ (by omega), upI_n _ _ (by omega), upI_n _ _ h0]
theorem addSN_l (N : Int → Int) (a b c : Int) {r k : Int} (h : 0 ≤ N 4) (h0 : 0 ≤ r) (h1 : r ≤ N 4) (k0 : 0 ≤ k) (k1 : k < 3) : addSN N a b c (35 + 3 * r + k) = if r = N 4 then sel3 k a b c else N (35 + 3 * r + k) := by
  unfold addSN sel3
  simp only [upI]
  (repeat' split) <;> first | rfl | omega
theorem ScOk.addL {N : Int → Int} {ou mi bo ln : Int} {LF : Int → Int} {sn : Int} {SF : Int → Int} (h : ScOk N ou mi bo ln LF sn SF) (hN : NOk0 N) (hl : N 0 < 10) {a b c : Int} {F2 : Int → Int} (hF : ∀ r k : Int, 0 ≤ k → k < 3 → F2 (r * 3 + k) = if r = ln then sel3 k a b c else if ln < r ∧ r ≤ ln then LF ((r - 1) * 3 + k) else LF (r * 3 + k)) : ScOk (addLN N a b c) ou mi bo (ln + 1) F2 sn SF := by
  obtain ⟨e0, e1, e2, e3, e4, e5, e6⟩ := h
  obtain ⟨n0, n1, n2, n3, n4, n5⟩ := hN
  refine ⟨?_, ?_, ?_, ?_, ?_, fun r k a1 a2 a3 a4 => ?_, fun r k a1 a2 a3 a4 => ?_⟩
  · rw [addLN_0 _ _ _ _ n0.1]; omega
  · rw [addLN_o _ _ _ _ n0.1 (by decide) (Or.inl (by decide))]; exact e1
  · rw [addLN_o _ _ _ _ n0.1 (by decide) (Or.inl (by decide))]; exact e2
  · rw [addLN_o _ _ _ _ n0.1 (by decide) (Or.inl (by decide))]; exact e3
  · rw [addLN_o _ _ _ _ n0.1 (by decide) (Or.inl (by decide))]; exact e4
  · rw [hF r k a3 a4, addLN_l _ _ _ _ n0.1 a1 (by omega) a3 a4]
    by_cases q : r = ln
    · rw [if_pos q, if_pos (by omega)]
    · rw [if_neg q, if_neg (by omega), if_neg (by omega)]
      exact e5 r k a1 (by omega) a3 a4
  · rw [addLN_o _ _ _ _ n0.1 (by omega) (Or.inr (by omega))]; exact e6 r k a1 a2 a3 a4
theorem ScOk.addS {N : Int → Int} {ou mi bo ln : Int} {LF : Int → Int} {sn : Int} {SF : Int → Int} (h : ScOk N ou mi bo ln LF sn SF) (hN : NOk0 N) {a b c : Int} {F2 : Int → Int} (hF : ∀ r k : Int, 0 ≤ k → k < 3 → F2 (r * 3 + k) = if r = sn then sel3 k a b c else if sn < r ∧ r ≤ sn then SF ((r - 1) * 3 + k) else SF (r * 3 + k)) : ScOk (addSN N a b c) ou mi bo ln LF (sn + 1) F2 := by
  obtain ⟨e0, e1, e2, e3, e4, e5, e6⟩ := h
  obtain ⟨n0, n1, n2, n3, n4, n5⟩ := hN
  refine ⟨?_, ?_, ?_, ?_, ?_, fun r k a1 a2 a3 a4 => ?_, fun r k a1 a2 a3 a4 => ?_⟩
  · rw [addSN_o _ _ _ _ n3.1 (by decide) (by decide)]; exact e0
  · rw [addSN_o _ _ _ _ n3.1 (by decide) (by decide)]; exact e1
  · rw [addSN_o _ _ _ _ n3.1 (by decide) (by decide)]; exact e2
  · rw [addSN_o _ _ _ _ n3.1 (by decide) (by decide)]; exact e3
  · rw [addSN_4 _ _ _ _ n3.1]; omega
  · rw [addSN_o _ _ _ _ n3.1 (by omega) (by omega)]; exact e5 r k a1 a2 a3 a4
  · rw [hF r k a3 a4, addSN_l _ _ _ _ n3.1 a1 (by omega) a3 a4]
    by_cases q : r = sn
    · rw [if_pos q, if_pos (by omega)]
    · rw [if_neg q, if_neg (by omega), if_neg (by omega)]
      exact e6 r k a1 (by omega) a3 a4
theorem NOk0.addL {N : Int → Int} (h : NOk0 N) (hl : N 0 < 10) {a b c : Int} (ha : 1000 ≤ a ∧ a ≤ 4000) (hb : 1 ≤ b ∧ b ≤ 999) (hc : 0 ≤ c ∧ c ≤ 99) : NOk0 (addLN N a b c) := by
  obtain ⟨n0, n1, n2, n3, n4, n5⟩ := h
  have o : ∀ j : Int, j ≠ 0 → j < 5 ∨ 5 + 3 * N 0 + 2 < j → addLN N a b c j = N j := fun j => addLN_o N a b c n0.1
  refine ⟨by rw [addLN_0 _ _ _ _ n0.1]; omega, by rw [o 1 (by decide) (Or.inl (by decide))]; exact n1, by rw [o 2 (by decide) (Or.inl (by decide)), o 3 (by decide) (Or.inl (by decide))]; exact n2, by rw [o 4 (by decide) (Or.inl (by decide))]; exact n3, fun r h0 h1 => ?_, fun r h0 h1 => ?_⟩
  · rw [addLN_0 _ _ _ _ n0.1] at h1
    rw [addLN_l _ _ _ _ n0.1 h0 (by omega) (by decide) (by decide), addLN_l _ _ _ _ n0.1 h0 (by omega) (by decide) (by decide), addLN_l _ _ _ _ n0.1 h0 (by omega) (by decide) (by decide)]
    by_cases q : r = N 0
    · rw [if_pos q, if_pos q, if_pos q]; exact ⟨ha, hb, hc⟩
    · rw [if_neg q, if_neg q, if_neg q]; exact n4 r h0 (by omega)
  · rw [o 4 (by decide) (Or.inl (by decide))] at h1
    rw [o _ (by omega) (Or.inr (by omega)), o _ (by omega) (Or.inr (by omega)), o _ (by omega) (Or.inr (by omega))]
    exact n5 r h0 h1
theorem NOk0.addS {N : Int → Int} (h : NOk0 N) (hl : N 4 < 20) {a b c : Int} (ha : 0 ≤ a ∧ a ≤ 9) (hb : b = 0 ∨ b = 1) (hc : 0 ≤ c ∧ c ≤ 3999) : NOk0 (addSN N a b c) := by
  obtain ⟨n0, n1, n2, n3, n4, n5⟩ := h
  have o : ∀ j : Int, j ≠ 4 → j < 35 → addSN N a b c j = N j := fun j => addSN_o N a b c n3.1
  refine ⟨by rw [o 0 (by decide) (by decide)]; exact n0, by rw [o 1 (by decide) (by decide)]; exact n1, by rw [o 2 (by decide) (by decide), o 3 (by decide) (by decide)]; exact n2, by rw [addSN_4 _ _ _ _ n3.1]; omega, fun r h0 h1 => ?_, fun r h0 h1 => ?_⟩
  · rw [o 0 (by decide) (by decide)] at h1
    rw [o _ (by omega) (by omega), o _ (by omega) (by omega), o _ (by omega) (by omega)]
    exact n4 r h0 h1
  · rw [addSN_4 _ _ _ _ n3.1] at h1
    rw [addSN_l _ _ _ _ n3.1 h0 (by omega) (by decide) (by decide), addSN_l _ _ _ _ n3.1 h0 (by omega) (by decide) (by decide), addSN_l _ _ _ _ n3.1 h0 (by omega) (by decide) (by decide)]
    by_cases q : r = N 4
    · rw [if_pos q, if_pos q, if_pos q]; exact ⟨ha, hb, hc⟩
    · rw [if_neg q, if_neg q, if_neg q]; exact n5 r h0 (by omega)
theorem layE_6 {F : Int → Int} {n i : Int} {N : Int → Int} {ho hb : Int} (h : 10 ≤ N 0) : layE F n i N ho hb = fl F n i 6 := if_pos h
theorem layE_n {F : Int → Int} {n i : Int} {N : Int → Int} {ho hb : Int} (h : ¬ 10 ≤ N 0) : layE F n i N ho hb = pb (numE F n (tkE F n i) 1000 4000) fun a =>
  pb (wdE F n (tkE F n (tkE F n i)) wThick) fun _ =>
  pb (numE F n (tkE F n (tkE F n (tkE F n i))) 1 999) fun b =>
  if isWd F n (tkE F n (tkE F n (tkE F n (tkE F n i)))) wLoss then pb (numE F n (tkE F n (tkE F n (tkE F n (tkE F n (tkE F n i))))) 0 99) fun c => pb (smE F n (tkE F n (tkE F n (tkE F n (tkE F n (tkE F n (tkE F n i))))))) fun _ => .inr (tkE F n (tkE F n (tkE F n (tkE F n (tkE F n (tkE F n (tkE F n i)))))), addLN N a b c, ho, hb)
  else pb (smE F n (tkE F n (tkE F n (tkE F n (tkE F n i))))) fun _ => .inr (tkE F n (tkE F n (tkE F n (tkE F n (tkE F n i)))), addLN N a b 0, ho, hb) := if_neg h
theorem wdE_ok {F : Int → Int} {n i : Int} {w : List Int} (h : okE (wdE F n i w)) : wdE F n i w = .inr () ∧ isWd F n i w := by
  by_cases g : isWd F n i w
  · exact ⟨wdE_t g, g⟩
  · rw [wdE_f g] at h; simp [okE, fl] at h
theorem shoE_6 {F : Int → Int} {n i : Int} {N : Int → Int} {ho hb : Int} (h : 20 ≤ N 4) : shoE F n i N ho hb = fl F n i 6 := if_pos h
theorem shoE_n {F : Int → Int} {n i : Int} {N : Int → Int} {ho hb : Int} (h : ¬ 20 ≤ N 4) : shoE F n i N ho hb = pb (numE F n (tkE F n i) 0 9) fun y =>
  if N 0 ≤ y then fl F n (tkE F n i) 4 else
  if isWd F n (tkE F n (tkE F n i)) wDown ∨ isWd F n (tkE F n (tkE F n i)) wUp then
    pb (numE F n (tkE F n (tkE F n (tkE F n i))) 0 3999) fun p =>
    if N (5 + 3 * y + 0) ≤ p then fl F n (tkE F n (tkE F n (tkE F n i))) 5 else
    pb (smE F n (tkE F n (tkE F n (tkE F n (tkE F n i))))) fun _ => .inr (tkE F n (tkE F n (tkE F n (tkE F n (tkE F n i)))), addSN N y (bI (isWd F n (tkE F n (tkE F n i)) wDown)) p, ho, hb)
  else fl F n (tkE F n (tkE F n i)) 1 := if_neg h
