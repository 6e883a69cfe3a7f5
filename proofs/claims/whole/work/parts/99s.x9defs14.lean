/-! ===== the model's statements ===== -/
section STM
variable {F N : Int → Int} {n i ho hb : Int}
/-- what a statement leaves, if it is without an error -/
def StmM (x : PE PT) (N2 : Int → Int) (ho2 hb2 : Int) : Prop := ∀ t, x = .inr t → N2 = t.2.1 ∧ ho2 = t.2.2.1 ∧ hb2 = t.2.2.2 ∧ NOk0 t.2.1
theorem MSt.okS {p t k v c e : Int} {y : PE PT} (h : MSt F n (pb y fun t => .inr t.1) p t k v c e) (hc : c = 0) : ∃ t, y = .inr t := by
  cases y with
  | inl a => have := h.2.2.1; omega
  | inr r => exact ⟨r, rfl⟩
theorem MSt.noS {p t k v c e : Int} {y : PE PT} (h : MSt F n (pb y fun t => .inr t.1) p t k v c e) (hc : ¬ c = 0) (N2 : Int → Int) (ho2 hb2 : Int) : StmM y N2 ho2 hb2 := fun r hr => by
  subst hr
  exact absurd h.1 hc
/-- the first steps of a statement -/
abbrev x1F (F : Int → Int) (n i b d : Int) : PE Int := pb (.inr i) fun i => if b = 1 then fl F n i d else .inr i
abbrev goF (F : Int → Int) (n : Int) (x : PE Int) : PE Int := pb x fun i => .inr (tkE F n i)
abbrev nuF (F : Int → Int) (n lo hi : Int) (x : PE Int) : PE Int := pb x fun i => pb (numE F n i lo hi) fun _ => .inr (tkE F n i)
abbrev nhF (F : Int → Int) (n lo hi : Int) (x : PE Int) : PE Int := pb x fun i => pb (numE F n i lo hi) fun _ => .inr i
abbrev naF (F : Int → Int) (n lo hi : Int) (w : List Int) (x : PE Int) : PE Int := pb x fun i => pb (wdE F n i w) fun _ => pb (numE F n (tkE F n i) lo hi) fun _ => .inr (tkE F n (tkE F n i))
abbrev smF (F : Int → Int) (n : Int) (x : PE Int) : PE Int := pb x fun i => pb (smE F n i) fun _ => .inr (tkE F n i)
abbrev ifF (F : Int → Int) (n b d : Int) (x : PE Int) : PE Int := pb x fun i => if b = 1 then fl F n i d else .inr i
theorem x1F_n {b d : Int} (h : ¬ b = 1) : x1F F n i b d = .inr i := if_neg h
theorem x1F_y {b d : Int} (h : b = 1) : x1F F n i b d = fl F n i d := if_pos h
theorem out_eq (hb : Int) : smF F n (nuF F n 1000 4000 (goF F n (x1F F n i ho 3))) = pb (outE F n i N ho hb) fun t => .inr t.1 := by
  by_cases h : ho = 1
  · rw [outE_3 h, x1F_y h]; rfl
  · rw [outE_n h, x1F_n h]
    show pb (pb (numE F n (tkE F n i) 1000 4000) fun _ => .inr (tkE F n (tkE F n i))) _ = pb (pb (numE F n (tkE F n i) 1000 4000) _) _
    cases numE F n (tkE F n i) 1000 4000 with
    | inl a => rfl
    | inr a =>
      show pb (smE F n (tkE F n (tkE F n i))) _ = pb (pb (smE F n (tkE F n (tkE F n i))) _) _
      cases smE F n (tkE F n (tkE F n i)) <;> rfl
theorem out_ok {r : Int} (hN : NOk0 N) (hr : ∀ j, goF F n (x1F F n i ho 3) = .inr j → okE (numE F n j 1000 4000) → r = tkV F n j) : StmM (outE F n i N ho hb) (upI N 1 r) 1 hb := fun t ht => by
  by_cases h : ho = 1
  · rw [outE_3 h] at ht; cases ht
  · rw [outE_n h] at ht
    obtain ⟨a, ha, ht⟩ := pb_ok ht
    obtain ⟨u, _, ht⟩ := pb_ok ht
    cases ht
    have ok : okE (numE F n (tkE F n i) 1000 4000) := by rw [ha]; rfl
    have q := numE_ok ok
    have e : a = tkV F n (tkE F n i) := by have z := q.1; rw [ha] at z; cases z; rfl
    have e2 := hr (tkE F n i) (by rw [x1F_n h]; rfl) ok
    subst e
    rw [e2]
    exact ⟨rfl, rfl, rfl, hN.up1 q.2.2⟩
theorem insLN_add (N : Int → Int) (h : 0 ≤ N 0) (a b c : Int) : insLN N (N 0) a b c = addLN N a b c := funext fun j => by
  simp only [insLN, addLN, upI, sel3]
  (repeat' split) <;> first | rfl | omega
theorem lay_x4 (h : ¬ 10 ≤ N 0) {a : Int} (ha : numE F n (tkE F n i) 1000 4000 = .inr a) : nuF F n 1000 4000 (goF F n (x1F F n i (bI (10 ≤ N 0)) 6)) = .inr (tkE F n (tkE F n i)) := by
  rw [x1F_n (bIn h)]
  show pb (numE F n (tkE F n i) 1000 4000) _ = _
  rw [ha]; rfl
abbrev layX (F N : Int → Int) (n i : Int) : PE Int := naF F n 1 999 wThick (nuF F n 1000 4000 (goF F n (x1F F n i (bI (10 ≤ N 0)) 6)))
theorem layX_n (h : ¬ 10 ≤ N 0) : layX F N n i = pb (numE F n (tkE F n i) 1000 4000) fun _ => pb (wdE F n (tkE F n (tkE F n i)) wThick) fun _ => pb (numE F n (tkE F n (tkE F n (tkE F n i))) 1 999) fun _ => .inr (tkE F n (tkE F n (tkE F n (tkE F n i)))) := by
  unfold layX
  rw [x1F_n (bIn h)]
  show pb (pb (numE F n (tkE F n i) 1000 4000) fun _ => .inr (tkE F n (tkE F n i))) _ = _
  cases numE F n (tkE F n i) 1000 4000 <;> rfl
theorem layX_y (h : 10 ≤ N 0) : layX F N n i = fl F n i 6 := by
  unfold layX
  rw [x1F_y (bI_t h)]
  rfl
theorem lay_eqT (hw : wdX F n (layX F N n i) wLoss = true) : smF F n (naF F n 0 99 wLoss (layX F N n i)) = pb (layE F n i N ho hb) fun t => .inr t.1 := by
  by_cases h : 10 ≤ N 0
  · rw [layX_y h] at hw; cases hw
  · rw [layE_n h]
    rw [layX_n h] at hw ⊢
    cases h1 : numE F n (tkE F n i) 1000 4000 with
    | inl a => rfl
    | inr a =>
      rw [h1] at hw
      simp only [pb] at hw ⊢
      cases h2 : wdE F n (tkE F n (tkE F n i)) wThick with
      | inl u => rfl
      | inr u =>
        rw [h2] at hw
        simp only [] at hw ⊢
        cases h3 : numE F n (tkE F n (tkE F n (tkE F n i))) 1 999 with
        | inl u => rfl
        | inr u =>
          rw [h3] at hw
          simp only [] at hw ⊢
          have hw2 : isWd F n (tkE F n (tkE F n (tkE F n (tkE F n i)))) wLoss := hw
          rw [if_pos hw2]
          simp only [smF, naF, pb]
          rw [wdE_t hw2]
          simp only []
          cases numE F n (tkE F n (tkE F n (tkE F n (tkE F n (tkE F n i))))) 0 99 with
          | inl u => rfl
          | inr c =>
            simp only []
            cases smE F n (tkE F n (tkE F n (tkE F n (tkE F n (tkE F n (tkE F n i)))))) <;> rfl
theorem lay_eqF (hw : ¬ wdX F n (layX F N n i) wLoss = true) : smF F n (layX F N n i) = pb (layE F n i N ho hb) fun t => .inr t.1 := by
  by_cases h : 10 ≤ N 0
  · rw [layX_y h, layE_6 h]; rfl
  · rw [layE_n h]
    rw [layX_n h] at hw ⊢
    cases h1 : numE F n (tkE F n i) 1000 4000 with
    | inl a => rfl
    | inr a =>
      rw [h1] at hw
      simp only [pb] at hw ⊢
      cases h2 : wdE F n (tkE F n (tkE F n i)) wThick with
      | inl u => rfl
      | inr u =>
        rw [h2] at hw
        simp only [] at hw ⊢
        cases h3 : numE F n (tkE F n (tkE F n (tkE F n i))) 1 999 with
        | inl u => rfl
        | inr u =>
          rw [h3] at hw
          simp only [] at hw ⊢
          have hw2 : ¬ isWd F n (tkE F n (tkE F n (tkE F n (tkE F n i)))) wLoss := hw
          rw [if_neg hw2]
          simp only [smF, pb]
          cases smE F n (tkE F n (tkE F n (tkE F n (tkE F n i)))) <;> rfl
/-- a layer's numbers, where it is without an error -/
theorem lay_ok {a b c : Int} (hN : NOk0 N) (ha : ∀ j, goF F n (x1F F n i (bI (10 ≤ N 0)) 6) = .inr j → okE (numE F n j 1000 4000) → a = tkV F n j)
    (hb1 : ∀ j, nuF F n 1000 4000 (goF F n (x1F F n i (bI (10 ≤ N 0)) 6)) = .inr j → okE (wdE F n j wThick) → okE (numE F n (tkE F n j) 1 999) → b = tkV F n (tkE F n j))
    (hc : (wdX F n (layX F N n i) wLoss = true ∧ ∀ j, layX F N n i = .inr j → okE (wdE F n j wLoss) → okE (numE F n (tkE F n j) 0 99) → c = tkV F n (tkE F n j)) ∨ (¬ wdX F n (layX F N n i) wLoss = true ∧ c = 0)) : ∀ t, layE F n i N ho hb = .inr t → N 0 < 10 ∧ (addLN N a b c = t.2.1 ∧ ho = t.2.2.1 ∧ hb = t.2.2.2 ∧ NOk0 t.2.1) := fun t ht => by
  by_cases h : 10 ≤ N 0
  · rw [layE_6 h] at ht; cases ht
  · rw [layE_n h] at ht
    obtain ⟨a1, h1, ht⟩ := pb_ok ht
    obtain ⟨u, h2, ht⟩ := pb_ok ht
    obtain ⟨b1, h3, ht⟩ := pb_ok ht
    have o1 : okE (numE F n (tkE F n i) 1000 4000) := by rw [h1]; rfl
    have o2 : okE (wdE F n (tkE F n (tkE F n i)) wThick) := by rw [h2]; rfl
    have o3 : okE (numE F n (tkE F n (tkE F n (tkE F n i))) 1 999) := by rw [h3]; rfl
    have q1 := numE_ok o1
    have q3 := numE_ok o3
    have e1 : a1 = tkV F n (tkE F n i) := by have z := q1.1; rw [h1] at z; cases z; rfl
    have e3 : b1 = tkV F n (tkE F n (tkE F n (tkE F n i))) := by have z := q3.1; rw [h3] at z; cases z; rfl
    have f1 := ha (tkE F n i) (by rw [x1F_n (bIn h)]; rfl) o1
    have f3 := hb1 (tkE F n (tkE F n i)) (lay_x4 h h1) o2 o3
    have hX : layX F N n i = .inr (tkE F n (tkE F n (tkE F n (tkE F n i)))) := by rw [layX_n h, h1]; simp only [pb]; rw [h2]; simp only []; rw [h3]
    subst e1 e3
    rw [hX] at hc
    refine ⟨by omega, ?_⟩
    rcases hc with ⟨w, hc⟩ | ⟨w, hc⟩
    · have w2 : isWd F n (tkE F n (tkE F n (tkE F n (tkE F n i)))) wLoss := w
      rw [if_pos w2] at ht
      obtain ⟨c1, h5, ht⟩ := pb_ok ht
      obtain ⟨u2, _, ht⟩ := pb_ok ht
      cases ht
      have o5 : okE (numE F n (tkE F n (tkE F n (tkE F n (tkE F n (tkE F n i))))) 0 99) := by rw [h5]; rfl
      have q5 := numE_ok o5
      have e5 : c1 = tkV F n (tkE F n (tkE F n (tkE F n (tkE F n (tkE F n i))))) := by have z := q5.1; rw [h5] at z; cases z; rfl
      have f5 := hc _ rfl (by rw [wdE_t w2]; rfl) o5
      subst e5
      rw [f1, f3, f5]
      exact ⟨rfl, rfl, rfl, hN.addL (by omega) q1.2.2 q3.2.2 q5.2.2⟩
    · have w2 : ¬ isWd F n (tkE F n (tkE F n (tkE F n (tkE F n i)))) wLoss := w
      rw [if_neg w2] at ht
      obtain ⟨u2, _, ht⟩ := pb_ok ht
      cases ht
      rw [f1, f3, hc]
      exact ⟨rfl, rfl, rfl, hN.addL (by omega) q1.2.2 q3.2.2 (by omega)⟩
end STM
