theorem botE_3 {F : Int → Int} {n i : Int} {N : Int → Int} {ho hb : Int} (h : hb = 1) : botE F n i N ho hb = fl F n i 3 := if_pos h
theorem botE_m {F : Int → Int} {n i : Int} {N : Int → Int} {ho hb : Int} (h : ¬ hb = 1) (hm : isWd F n (tkE F n i) wMirror) : botE F n i N ho hb = pb (numE F n (tkE F n (tkE F n i)) 0 100) fun a => pb (smE F n (tkE F n (tkE F n (tkE F n i)))) fun _ => .inr (tkE F n (tkE F n (tkE F n (tkE F n i))), upI (upI N 2 1) 3 a, ho, 1) := (if_neg h).trans (if_pos hm)
theorem botE_o {F : Int → Int} {n i : Int} {N : Int → Int} {ho hb : Int} (h : ¬ hb = 1) (hm : ¬ isWd F n (tkE F n i) wMirror) (hp : isWd F n (tkE F n i) wOpen) : botE F n i N ho hb = pb (numE F n (tkE F n (tkE F n i)) 1000 4000) fun a => pb (smE F n (tkE F n (tkE F n (tkE F n i)))) fun _ => .inr (tkE F n (tkE F n (tkE F n (tkE F n i))), upI (upI N 2 0) 3 a, ho, 1) := ((if_neg h).trans (if_neg hm)).trans (if_pos hp)
theorem botE_x {F : Int → Int} {n i : Int} {N : Int → Int} {ho hb : Int} (h : ¬ hb = 1) (hm : ¬ isWd F n (tkE F n i) wMirror) (hp : ¬ isWd F n (tkE F n i) wOpen) : botE F n i N ho hb = fl F n (tkE F n i) 1 := ((if_neg h).trans (if_neg hm)).trans (if_neg hp)
theorem ScOk.up23 {N : Int → Int} {ou mi bo ln : Int} {LF : Int → Int} {sn : Int} {SF : Int → Int} (h : ScOk N ou mi bo ln LF sn SF) (m a : Int) : ScOk (upI (upI N 2 m) 3 a) ou m a ln LF sn SF := by
  obtain ⟨e0, e1, e2, e3, e4, e5, e6⟩ := h
  refine ⟨?_, ?_, ?_, upI_s _ _ _, ?_, fun r k a1 a2 a3 a4 => ?_, fun r k a1 a2 a3 a4 => ?_⟩
  · rw [upI_n _ _ (by decide), upI_n _ _ (by decide)]; exact e0
  · rw [upI_n _ _ (by decide), upI_n _ _ (by decide)]; exact e1
  · rw [upI_n _ _ (by decide), upI_s]
  · rw [upI_n _ _ (by decide), upI_n _ _ (by decide)]; exact e4
  · rw [upI_n _ _ (by omega), upI_n _ _ (by omega)]; exact e5 r k a1 a2 a3 a4
  · rw [upI_n _ _ (by omega), upI_n _ _ (by omega)]; exact e6 r k a1 a2 a3 a4
theorem NOk0.up23 {N : Int → Int} (h : NOk0 N) {m a : Int} (ha : m = 0 ∧ 1000 ≤ a ∧ a ≤ 4000 ∨ m = 1 ∧ 0 ≤ a ∧ a ≤ 100) : NOk0 (upI (upI N 2 m) 3 a) := by
  obtain ⟨n0, n1, n2, n3, n4, n5⟩ := h
  refine ⟨?_, ?_, ?_, ?_, fun r h0 h1 => ?_, fun r h0 h1 => ?_⟩
  · rw [upI_n _ _ (by decide), upI_n _ _ (by decide)]; exact n0
  · rw [upI_n _ _ (by decide), upI_n _ _ (by decide)]; exact n1
  · rw [upI_s, upI_n _ _ (by decide), upI_s]; exact ha
  · rw [upI_n _ _ (by decide), upI_n _ _ (by decide)]; exact n3
  · rw [upI_n _ _ (by decide), upI_n _ _ (by decide)] at h1
    rw [upI_n _ _ (by omega), upI_n _ _ (by omega), upI_n _ _ (by omega), upI_n _ _ (by omega), upI_n _ _ (by omega), upI_n _ _ (by omega)]
    exact n4 r h0 h1
  · rw [upI_n _ _ (by decide), upI_n _ _ (by decide)] at h1
    rw [upI_n _ _ (by omega), upI_n _ _ (by omega), upI_n _ _ (by omega), upI_n _ _ (by omega), upI_n _ _ (by omega), upI_n _ _ (by omega)]
    exact n5 r h0 h1
theorem tx_mirror : txI 5 wMirror := ⟨⟨by decide, by decide, by decide⟩, by decide⟩
theorem tx_open : txI 6 wOpen := ⟨⟨by decide, by decide, by decide⟩, by decide⟩
theorem tx_layer : txI 0 wLayer := ⟨⟨by decide, by decide, by decide⟩, by decide⟩
theorem tx_thick : txI 1 wThick := ⟨⟨by decide, by decide, by decide⟩, by decide⟩
theorem tx_loss : txI 2 wLoss := ⟨⟨by decide, by decide, by decide⟩, by decide⟩
theorem tx_outside : txI 3 wOutside := ⟨⟨by decide, by decide, by decide⟩, by decide⟩
theorem tx_bottom : txI 4 wBottom := ⟨⟨by decide, by decide, by decide⟩, by decide⟩
theorem tx_shot : txI 7 wShot := ⟨⟨by decide, by decide, by decide⟩, by decide⟩
theorem tx_down : txI 8 wDown := ⟨⟨by decide, by decide, by decide⟩, by decide⟩
theorem tx_up : txI 9 wUp := ⟨⟨by decide, by decide, by decide⟩, by decide⟩
