/-- what stands behind a statement without an error -/
def StmR (F : Int → Int) (n tp : Int) (x : PE PT) (p t k v ho hb ou mi bo ln : Int) (LF : Int → Int) (sn : Int) (SF : Int → Int) : Prop := ∀ r, x = .inr r → TokI F n r.1 p t k v ∧ (tp < r.1 ∧ r.1 ≤ n) ∧ ScOk r.2.1 ou mi bo ln LF sn SF ∧ NOk0 r.2.1 ∧ (ho = r.2.2.1 ∧ hb = r.2.2.2) ∧ (ho = 0 ∨ ho = 1) ∧ (hb = 0 ∨ hb = 1)
theorem StmR.no {F : Int → Int} {n tp : Int} {x : PE PT} {p t k v ho hb ou mi bo ln : Int} {LF : Int → Int} {sn : Int} {SF : Int → Int} (h : ¬ okE x) : StmR F n tp x p t k v ho hb ou mi bo ln LF sn SF := fun r hr => by
  rw [hr] at h
  exact absurd rfl h
theorem StmR.yes {F : Int → Int} {n tp : Int} {x : PE PT} {p t k v ho hb ou mi bo ln : Int} {LF : Int → Int} {sn : Int} {SF : Int → Int} {r : PT} (hx : x = .inr r) (h : TokI F n r.1 p t k v ∧ (tp < r.1 ∧ r.1 ≤ n) ∧ ScOk r.2.1 ou mi bo ln LF sn SF ∧ NOk0 r.2.1 ∧ (ho = r.2.2.1 ∧ hb = r.2.2.2) ∧ (ho = 0 ∨ ho = 1) ∧ (hb = 0 ∨ hb = 1)) : StmR F n tp x p t k v ho hb ou mi bo ln LF sn SF := fun r' hr => by
  rw [hx] at hr
  cases hr
  exact h
theorem outE_3 {F : Int → Int} {n i : Int} {N : Int → Int} {ho hb : Int} (h : ho = 1) : outE F n i N ho hb = fl F n i 3 := if_pos h
theorem outE_n {F : Int → Int} {n i : Int} {N : Int → Int} {ho hb : Int} (h : ¬ ho = 1) : outE F n i N ho hb = pb (numE F n (tkE F n i) 1000 4000) fun a => pb (smE F n (tkE F n (tkE F n i))) fun _ => .inr (tkE F n (tkE F n (tkE F n i)), upI N 1 a, 1, hb) := if_neg h
theorem pb_inr {α β : Type} {x : PE α} {f : α → PE β} {a : α} (h : x = .inr a) : pb x f = f a := by rw [h]; rfl
theorem ScOk.up1 {N : Int → Int} {ou mi bo ln : Int} {LF : Int → Int} {sn : Int} {SF : Int → Int} (h : ScOk N ou mi bo ln LF sn SF) (a : Int) : ScOk (upI N 1 a) a mi bo ln LF sn SF := by
  obtain ⟨e0, e1, e2, e3, e4, e5, e6⟩ := h
  refine ⟨by rw [upI_n _ _ (by decide)]; exact e0, upI_s _ _ _, by rw [upI_n _ _ (by decide)]; exact e2, by rw [upI_n _ _ (by decide)]; exact e3, by rw [upI_n _ _ (by decide)]; exact e4, fun r k a1 a2 a3 a4 => by rw [upI_n _ _ (by omega)]; exact e5 r k a1 a2 a3 a4, fun r k a1 a2 a3 a4 => by rw [upI_n _ _ (by omega)]; exact e6 r k a1 a2 a3 a4⟩
theorem NOk0.up1 {N : Int → Int} (h : NOk0 N) {a : Int} (ha : 1000 ≤ a ∧ a ≤ 4000) : NOk0 (upI N 1 a) := by
  obtain ⟨n0, n1, n2, n3, n4, n5⟩ := h
  refine ⟨by rw [upI_n _ _ (by decide)]; exact n0, by rw [upI_s]; exact ha, by rw [upI_n _ _ (by decide), upI_n _ _ (by decide)]; exact n2, by rw [upI_n _ _ (by decide)]; exact n3, fun r h0 h1 => ?_, fun r h0 h1 => ?_⟩
  · rw [upI_n _ _ (by decide)] at h1
    rw [upI_n _ _ (by omega), upI_n _ _ (by omega), upI_n _ _ (by omega)]
    exact n4 r h0 h1
  · rw [upI_n _ _ (by decide)] at h1
    rw [upI_n _ _ (by omega), upI_n _ _ (by omega), upI_n _ _ (by omega)]
    exact n5 r h0 h1
