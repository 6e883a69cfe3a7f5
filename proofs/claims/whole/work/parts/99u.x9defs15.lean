section STM2
variable {F N : Int → Int} {n i ho hb : Int}
theorem StmM.nil {x : PE PT} (h : ∀ t, x ≠ .inr t) (N2 : Int → Int) (a b : Int) : StmM x N2 a b := fun t ht => absurd ht (h t)
theorem ifF_n {b d j : Int} (h : ¬ b = 1) : ifF F n b d (.inr j) = .inr j := if_neg h
theorem ifF_y {b d j : Int} (h : b = 1) : ifF F n b d (.inr j) = fl F n j d := if_pos h
abbrev botX (F : Int → Int) (n i hb : Int) : PE Int := goF F n (x1F F n i hb 3)
theorem botX_n (h : ¬ hb = 1) : botX F n i hb = .inr (tkE F n i) := by
  unfold botX
  rw [x1F_n h]; rfl
theorem botX_y (h : hb = 1) : botX F n i hb = fl F n i 3 := by
  unfold botX
  rw [x1F_y h]; rfl
theorem open_no (h : isWd F n i wOpen) : ¬ isWd F n i wMirror := fun g => by
  have a := (isWd_iff.mp h).2.1
  have b := (isWd_iff.mp g).2.1
  have e1 : (wOpen.length : Int) = 4 := rfl
  have e2 : (wMirror.length : Int) = 6 := rfl
  omega
theorem num_sm (lo hi j : Int) (f : Int → PT) (hf : ∀ a, (f a).1 = tkE F n (tkE F n j)) : smF F n (nuF F n lo hi (.inr j)) = pb (pb (numE F n j lo hi) fun a => pb (smE F n (tkE F n j)) fun _ => .inr (f a)) fun t => .inr t.1 := by
  show pb (pb (numE F n j lo hi) fun _ => .inr (tkE F n j)) _ = _
  cases numE F n j lo hi with
  | inl a => rfl
  | inr a =>
    show pb (smE F n (tkE F n j)) _ = pb (pb (smE F n (tkE F n j)) _) _
    cases smE F n (tkE F n j) with
    | inl u => rfl
    | inr u => exact congrArg Sum.inr (hf a).symm
theorem bot_eqO (h : wdX F n (botX F n i hb) wOpen = true) : smF F n (nuF F n 1000 4000 (goF F n (ifF F n 0 1 (botX F n i hb)))) = pb (botE F n i N ho hb) fun t => .inr t.1 := by
  by_cases g : hb = 1
  · rw [botX_y g] at h; cases h
  · rw [botX_n g] at h ⊢
    rw [botE_o g (open_no h) h, ifF_n (by decide)]
    exact num_sm 1000 4000 _ _ (fun _ => rfl)
theorem bot_eqM (h : wdX F n (botX F n i hb) wMirror = true) : smF F n (nuF F n 0 100 (goF F n (ifF F n 0 1 (botX F n i hb)))) = pb (botE F n i N ho hb) fun t => .inr t.1 := by
  by_cases g : hb = 1
  · rw [botX_y g] at h; cases h
  · rw [botX_n g] at h ⊢
    rw [botE_m g h, ifF_n (by decide)]
    exact num_sm 0 100 _ _ (fun _ => rfl)
theorem bot_eqX (h : ¬ wdX F n (botX F n i hb) wOpen = true) (h2 : ¬ wdX F n (botX F n i hb) wMirror = true) : smF F n (nuF F n 0 100 (goF F n (ifF F n 1 1 (botX F n i hb)))) = (pb (botE F n i N ho hb) fun t => .inr t.1) ∧ ∀ t, botE F n i N ho hb ≠ .inr t := by
  by_cases g : hb = 1
  · rw [botX_y g, botE_3 g]
    exact ⟨rfl, fun t z => nomatch z⟩
  · rw [botX_n g] at h h2 ⊢
    rw [botE_x g h2 h, ifF_y rfl]
    exact ⟨rfl, fun t z => nomatch z⟩
theorem bot_okO {r : Int} (hN : NOk0 N) (h : wdX F n (botX F n i hb) wOpen = true) (hr : ∀ j, goF F n (ifF F n 0 1 (botX F n i hb)) = .inr j → okE (numE F n j 1000 4000) → r = tkV F n j) : StmM (botE F n i N ho hb) (upI (upI N 2 0) 3 r) ho 1 := fun t ht => by
  by_cases g : hb = 1
  · rw [botX_y g] at h; cases h
  · rw [botX_n g] at h hr
    rw [botE_o g (open_no h) h] at ht
    obtain ⟨a, ha, ht⟩ := pb_ok ht
    obtain ⟨u, _, ht⟩ := pb_ok ht
    cases ht
    have ok : okE (numE F n (tkE F n (tkE F n i)) 1000 4000) := by rw [ha]; rfl
    have q := numE_ok ok
    have e : a = tkV F n (tkE F n (tkE F n i)) := by have z := q.1; rw [ha] at z; cases z; rfl
    have e2 := hr (tkE F n (tkE F n i)) (by rw [ifF_n (by decide)]; rfl) ok
    subst e
    rw [e2]
    exact ⟨rfl, rfl, rfl, hN.up23 (Or.inl ⟨rfl, q.2.2⟩)⟩
theorem bot_okM {r : Int} (hN : NOk0 N) (h : wdX F n (botX F n i hb) wMirror = true) (hr : ∀ j, goF F n (ifF F n 0 1 (botX F n i hb)) = .inr j → okE (numE F n j 0 100) → r = tkV F n j) : StmM (botE F n i N ho hb) (upI (upI N 2 1) 3 r) ho 1 := fun t ht => by
  by_cases g : hb = 1
  · rw [botX_y g] at h; cases h
  · rw [botX_n g] at h hr
    rw [botE_m g h] at ht
    obtain ⟨a, ha, ht⟩ := pb_ok ht
    obtain ⟨u, _, ht⟩ := pb_ok ht
    cases ht
    have ok : okE (numE F n (tkE F n (tkE F n i)) 0 100) := by rw [ha]; rfl
    have q := numE_ok ok
    have e : a = tkV F n (tkE F n (tkE F n i)) := by have z := q.1; rw [ha] at z; cases z; rfl
    have e2 := hr (tkE F n (tkE F n i)) (by rw [ifF_n (by decide)]; rfl) ok
    subst e
    rw [e2]
    exact ⟨rfl, rfl, rfl, hN.up23 (Or.inr ⟨rfl, q.2.2⟩)⟩
theorem MSt.swap {p t k v c e p' t' k' v' c' e' : Int} {x : PE Int} {f g : Int → PE Int} (h0 : MSt F n x p t k v c e) (hc : ¬ c = 0) (h : MSt F n (pb x f) p' t' k' v' c' e') : MSt F n (pb x g) p' t' k' v' c' e' := by
  obtain ⟨a, rfl⟩ := h0.bad hc
  exact h
abbrev sh2 (F N : Int → Int) (n i : Int) : PE Int := goF F n (x1F F n i (bI (20 ≤ N 4)) 6)
abbrev sh5 (F N : Int → Int) (n i y : Int) : PE Int := goF F n (ifF F n (bI (¬ (0 ≤ y ∧ y < N 0))) 4 (nhF F n 0 9 (sh2 F N n i)))
abbrev sh7 (F N : Int → Int) (n i y : Int) : PE Int := goF F n (ifF F n (bI (¬ wdX F n (sh5 F N n i y) wDown = true ∧ ¬ wdX F n (sh5 F N n i y) wUp = true)) 1 (sh5 F N n i y))
abbrev sh9 (F N : Int → Int) (n i y p : Int) : PE Int := ifF F n (bI (N (5 + 3 * y + 0) ≤ p)) 5 (nhF F n 0 3999 (sh7 F N n i y))
theorem nhF_l {lo hi j : Int} {a : Int × Int} (h : numE F n j lo hi = .inl a) : nhF F n lo hi (.inr j) = .inl a := by
  show pb (numE F n j lo hi) _ = _
  rw [h]; rfl
theorem nhF_r {lo hi j a : Int} (h : numE F n j lo hi = .inr a) : nhF F n lo hi (.inr j) = .inr j := by
  show pb (numE F n j lo hi) _ = _
  rw [h]; rfl
theorem num_v {lo hi j a : Int} (h : numE F n j lo hi = .inr a) : okE (numE F n j lo hi) ∧ a = tkV F n j ∧ lo ≤ a ∧ a ≤ hi := by
  have ok : okE (numE F n j lo hi) := by rw [h]; rfl
  have q := numE_ok ok
  have e : a = tkV F n j := by have z := q.1; rw [h] at z; cases z; rfl
  exact ⟨ok, e, by rw [e]; exact q.2.2⟩
theorem sho_eq {y p : Int} (hN : NOk0 N) (hy : ∀ j, sh2 F N n i = .inr j → okE (numE F n j 0 9) → y = tkV F n j) (hp : ∀ j, sh7 F N n i y = .inr j → okE (numE F n j 0 3999) → p = tkV F n j) :
    smF F n (goF F n (sh9 F N n i y p)) = (pb (shoE F n i N ho hb) fun t => .inr t.1) ∧ ∀ t, shoE F n i N ho hb = .inr t → N 4 < 20 ∧ (addSN N y (bI (wdX F n (sh5 F N n i y) wDown = true)) p = t.2.1 ∧ ho = t.2.2.1 ∧ hb = t.2.2.2 ∧ NOk0 t.2.1) := by
  by_cases h : 20 ≤ N 4
  · have e1 : sh2 F N n i = fl F n i 6 := by unfold sh2; rw [x1F_y (bI_t h)]; rfl
    unfold sh9 sh7 sh5
    rw [e1, shoE_6 h]
    exact ⟨rfl, fun t z => nomatch z⟩
  · have e1 : sh2 F N n i = .inr (tkE F n i) := by unfold sh2; rw [x1F_n (bIn h)]; rfl
    rw [shoE_n h]
    unfold sh9
    cases h1 : numE F n (tkE F n i) 0 9 with
    | inl a =>
      unfold sh7 sh5
      rw [e1, nhF_l h1]
      exact ⟨rfl, fun t z => nomatch z⟩
    | inr a =>
      obtain ⟨o1, ea, b1⟩ := num_v h1
      have ey := hy _ e1 o1
      have eya : y = a := by omega
      subst eya
      by_cases h4 : N 0 ≤ y
      · have e5 : sh5 F N n i y = fl F n (tkE F n i) 4 := by unfold sh5; rw [e1, nhF_r h1, ifF_y (bI_t (by omega))]; rfl
        unfold sh7
        simp only [e5]
        refine ⟨?_, fun t z => ?_⟩
        · simp only [pb]
          rw [if_pos h4]
          rfl
        · simp only [pb] at z
          rw [if_pos h4] at z
          cases z
      · have e5 : sh5 F N n i y = .inr (tkE F n (tkE F n i)) := by unfold sh5; rw [e1, nhF_r h1, ifF_n (bIn (by omega))]; rfl
        simp only [pb]
        rw [if_neg h4]
        by_cases hw : isWd F n (tkE F n (tkE F n i)) wDown ∨ isWd F n (tkE F n (tkE F n i)) wUp
        · rw [if_pos hw]
          have e7 : sh7 F N n i y = .inr (tkE F n (tkE F n (tkE F n i))) := by
            unfold sh7
            simp only [e5]
            rw [ifF_n (bIn (fun z => hw.elim (fun q => z.1 q) (fun q => z.2 q)))]
            rfl
          rw [e7] at hp ⊢
          rw [e5]
          cases h2 : numE F n (tkE F n (tkE F n (tkE F n i))) 0 3999 with
          | inl c =>
            rw [nhF_l h2]
            exact ⟨rfl, fun t z => nomatch z⟩
          | inr c =>
            obtain ⟨o2, ec, b2⟩ := num_v h2
            have ep := hp _ rfl o2
            have epc : p = c := by omega
            subst epc
            rw [nhF_r h2]
            simp only []
            by_cases h5 : N (5 + 3 * y + 0) ≤ p
            · rw [ifF_y (bI_t h5), if_pos h5]
              exact ⟨rfl, fun t z => nomatch z⟩
            · rw [ifF_n (bIn h5), if_neg h5]
              show pb (smE F n (tkE F n (tkE F n (tkE F n (tkE F n i))))) _ = _ ∧ _
              cases h6 : smE F n (tkE F n (tkE F n (tkE F n (tkE F n i)))) with
              | inl u => exact ⟨rfl, fun t z => nomatch z⟩
              | inr u =>
                refine ⟨rfl, fun t z => ?_⟩
                cases z
                refine ⟨by omega, rfl, rfl, rfl, hN.addS (by omega) b1 ?_ b2⟩
                have := bI_01 (isWd F n (tkE F n (tkE F n i)) wDown)
                omega
        · rw [if_neg hw]
          have e7 : sh7 F N n i y = fl F n (tkE F n (tkE F n i)) 1 := by
            unfold sh7
            simp only [e5]
            rw [ifF_y (bI_t ⟨fun q => hw (Or.inl q), fun q => hw (Or.inr q)⟩)]
            rfl
          rw [e7]
          exact ⟨rfl, fun t z => nomatch z⟩
end STM2
