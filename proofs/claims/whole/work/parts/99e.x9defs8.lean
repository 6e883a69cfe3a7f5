/-! ===== the model: two shots ===== -/
def OthR (N : Int → Int) (r ol : Int) (O0 O1 O4 : Int → Int) : Prop := ol = (gS N r : Int) ∧ ∀ i : Nat, i < gS N r → O0 (i : Int) = ykS N r i ∧ O1 (i : Int) = ekS N r i ∧ O4 (i : Int) = tqS N r i
theorem alk_of {N : Int → Int} {r s : Int} {k : Nat} (h1 : k ≤ gS N r) (h2 : k ≤ gS N s) (h3 : ∀ i : Nat, i < k → ykS N r i = ykS N s i ∧ ekS N r i = ekS N s i) (h4 : k = gS N r ∨ k = gS N s ∨ ¬ (ykS N r k = ykS N s k ∧ ekS N r k = ekS N s k)) : (k : Int) = (alkS N r s : Int) := by
  have q : alkS N r s = k := by
    refine cpf_eq (by omega) (fun i hi => decide_eq_true (h3 i hi)) (fun hlt => ?_)
    rcases h4 with h4 | h4 | h4
    · omega
    · omega
    · exact fun z => h4 (of_decide_eq_true z)
  omega
/-- the layer of the leg at a time, by its sums -/
def LayB (A0 A4 : Int → Int) (n : Nat) (t r : Int) : Prop := (∃ i : Nat, i < n ∧ (sF A4 i ≤ t ∧ t < sF A4 (i + 1)) ∧ r = A0 (i : Int)) ∨ (r = -1 ∧ ∀ i : Nat, i < n → sF A4 (i + 1) ≤ t)
theorem LayB.no {A0 A4 B0 B4 : Int → Int} {n m : Nat} {t : Int} (hA : ∀ i : Nat, i < n → 0 ≤ A0 (i : Int)) (h : LayB A0 A4 n t (-1)) : ¬ TogM A0 A4 B0 B4 n m t := by
  intro ⟨i, j, hi, hj, a, b, c⟩
  rcases h with ⟨k, hk, d, e⟩ | ⟨_, d⟩
  · have := hA k hk; omega
  · have := d i hi; omega
theorem LayB.yes {A0 A4 B0 B4 : Int → Int} {n m : Nat} {t r : Int} (hA : ∀ i : Nat, i < n → 0 ≤ A0 (i : Int)) (h : LayB A0 A4 n t r) (g : LayB B0 B4 m t r) (hr : ¬ r = -1) : TogM A0 A4 B0 B4 n m t := by
  rcases h with ⟨i, hi, d, e⟩ | ⟨d, _⟩
  · rcases g with ⟨j, hj, d', e'⟩ | ⟨d', _⟩
    · exact ⟨i, j, hi, hj, d, d', by omega⟩
    · exact absurd d' hr
  · exact absurd d hr
theorem LayB.ne {A0 A4 B0 B4 : Int → Int} {n m : Nat} {t r s : Int} (pA : PosF A4 n) (pB : PosF B4 m) (hA : ∀ i : Nat, i < n → 0 ≤ A0 (i : Int)) (h : LayB A0 A4 n t r) (g : LayB B0 B4 m t s) (hr : ¬ r = s) : ¬ TogM A0 A4 B0 B4 n m t := by
  intro ⟨i, j, hi, hj, a, b, c⟩
  rcases h with ⟨i', hi', d, e⟩ | ⟨_, d⟩
  · have q := leg_one pA hi hi' a.1 a.2 d.1 d.2
    subst q
    rcases g with ⟨j', hj', d', e'⟩ | ⟨_, d'⟩
    · have q := leg_one pB hj hj' b.1 b.2 d'.1 d'.2
      subst q
      omega
    · have := d' j hj; omega
  · have := d i hi; omega
/-- the first of those times that were tried -/
def SnR (A0 A4 B0 B4 : Int → Int) (n m a b : Nat) (r : Int) : Prop := (r = -1 ∧ ∀ t, CndM A4 B4 a b t → ¬ TogM A0 A4 B0 B4 n m t) ∨ (CndM A4 B4 a b r ∧ TogM A0 A4 B0 B4 n m r ∧ ∀ t, CndM A4 B4 a b t → t < r → ¬ TogM A0 A4 B0 B4 n m t)
theorem CndM.sA {A4 B4 : Int → Int} {k : Nat} {t : Int} (h : CndM A4 B4 (k + 1) 0 t) : CndM A4 B4 k 0 t ∨ t = sF A4 (k + 1) := by
  rcases h with h | ⟨j, hj, h⟩ | ⟨j, hj, h⟩
  · exact Or.inl (Or.inl h)
  · by_cases q : j = k
    · subst q; exact Or.inr h
    · exact Or.inl (Or.inr (Or.inl ⟨j, by omega, h⟩))
  · exact absurd hj (Nat.not_lt_zero _)
theorem CndM.sB {A4 B4 : Int → Int} {n k : Nat} {t : Int} (h : CndM A4 B4 n (k + 1) t) : CndM A4 B4 n k t ∨ t = sF B4 (k + 1) := by
  rcases h with h | ⟨j, hj, h⟩ | ⟨j, hj, h⟩
  · exact Or.inl (Or.inl h)
  · exact Or.inl (Or.inr (Or.inl ⟨j, hj, h⟩))
  · by_cases q : j = k
    · subst q; exact Or.inr h
    · exact Or.inl (Or.inr (Or.inr ⟨j, by omega, h⟩))
theorem CndM.uA {A4 B4 : Int → Int} {k : Nat} {t : Int} (h : CndM A4 B4 k 0 t) : CndM A4 B4 (k + 1) 0 t := by
  rcases h with h | ⟨j, hj, h⟩ | ⟨j, hj, h⟩
  · exact Or.inl h
  · exact Or.inr (Or.inl ⟨j, by omega, h⟩)
  · exact absurd hj (Nat.not_lt_zero _)
theorem CndM.uB {A4 B4 : Int → Int} {n k : Nat} {t : Int} (h : CndM A4 B4 n k t) : CndM A4 B4 n (k + 1) t := by
  rcases h with h | ⟨j, hj, h⟩ | ⟨j, hj, h⟩
  · exact Or.inl h
  · exact Or.inr (Or.inl ⟨j, hj, h⟩)
  · exact Or.inr (Or.inr ⟨j, by omega, h⟩)
theorem sn_step {C D T : Int → Prop} {r t : Int} (hT : ∀ u, T u → 0 ≤ u) (hD : ∀ u, D u → C u ∨ u = t) (hC : ∀ u, C u → D u) (ht : D t) (h : (r = -1 ∧ ∀ u, C u → ¬ T u) ∨ (C r ∧ T r ∧ ∀ u, C u → u < r → ¬ T u)) {r2 : Int} (hn : (¬ T t ∧ r2 = r) ∨ (T t ∧ (r = -1 ∨ t < r) ∧ r2 = t) ∨ (T t ∧ ¬ r = -1 ∧ ¬ t < r ∧ r2 = r)) : (r2 = -1 ∧ ∀ u, D u → ¬ T u) ∨ (D r2 ∧ T r2 ∧ ∀ u, D u → u < r2 → ¬ T u) := by
  rcases hn with ⟨a, rfl⟩ | ⟨a, b, rfl⟩ | ⟨a, b, c, rfl⟩
  · rcases h with ⟨h1, h2⟩ | ⟨h1, h2, h3⟩
    · exact Or.inl ⟨h1, fun u hu z => (hD u hu).elim (fun q => h2 u q z) (fun q => a (q ▸ z))⟩
    · exact Or.inr ⟨hC _ h1, h2, fun u hu hl z => (hD u hu).elim (fun q => h3 u q hl z) (fun q => a (q ▸ z))⟩
  · refine Or.inr ⟨ht, a, fun u hu hl z => ?_⟩
    rcases hD u hu with q | q
    · rcases h with ⟨h1, h2⟩ | ⟨h1, h2, h3⟩
      · exact h2 u q z
      · have := hT _ h2
        exact h3 u q (by omega) z
    · omega
  · rcases h with ⟨h1, h2⟩ | ⟨h1, h2, h3⟩
    · exact absurd h1 b
    · exact Or.inr ⟨hC _ h1, h2, fun u hu hl z => (hD u hu).elim (fun q => h3 u q hl z) (fun q => by omega)⟩
theorem TogM.nn {A0 A4 B0 B4 : Int → Int} {n m : Nat} (pA : PosF A4 n) : ∀ t : Int, TogM A0 A4 B0 B4 n m t → 0 ≤ t := by
  intro t ⟨i, j, hi, _, a, _, _⟩
  have := sF_le pA (i := 0) (j := i) (Nat.zero_le _) (Nat.le_of_lt hi)
  have e : sF A4 0 = 0 := rfl
  omega
theorem SnR.zero {A0 A4 B0 B4 : Int → Int} {n m : Nat} (b r : Int) (hb : (b = 1 ∧ TogM A0 A4 B0 B4 n m 0 ∧ r = 0) ∨ (b = 0 ∧ ¬ TogM A0 A4 B0 B4 n m 0 ∧ r = -1)) : SnR A0 A4 B0 B4 n m 0 0 r := by
  have c0 : ∀ t, CndM A4 B4 0 0 t → t = 0 := by
    intro t h
    rcases h with h | ⟨j, hj, h⟩ | ⟨j, hj, h⟩
    · exact h
    · exact absurd hj (Nat.not_lt_zero _)
    · exact absurd hj (Nat.not_lt_zero _)
  rcases hb with ⟨_, a, rfl⟩ | ⟨_, a, rfl⟩
  · exact Or.inr ⟨Or.inl rfl, a, fun t h hl => absurd (c0 t h) (by omega)⟩
  · exact Or.inl ⟨rfl, fun t h z => a (c0 t h ▸ z)⟩
theorem SnR.a {A0 A4 B0 B4 : Int → Int} {n m k : Nat} {r r2 : Int} (pA : PosF A4 n) (h : SnR A0 A4 B0 B4 n m k 0 r) (hn : (¬ TogM A0 A4 B0 B4 n m (sF A4 (k + 1)) ∧ r2 = r) ∨ (TogM A0 A4 B0 B4 n m (sF A4 (k + 1)) ∧ (r = -1 ∨ sF A4 (k + 1) < r) ∧ r2 = sF A4 (k + 1)) ∨ (TogM A0 A4 B0 B4 n m (sF A4 (k + 1)) ∧ ¬ r = -1 ∧ ¬ sF A4 (k + 1) < r ∧ r2 = r)) : SnR A0 A4 B0 B4 n m (k + 1) 0 r2 :=
  sn_step (TogM.nn pA) (fun _ hu => hu.sA) (fun _ hu => hu.uA) (Or.inr (Or.inl ⟨k, Nat.lt_succ_self _, rfl⟩)) h hn
theorem SnR.b {A0 A4 B0 B4 : Int → Int} {n m k : Nat} {r r2 : Int} (pA : PosF A4 n) (h : SnR A0 A4 B0 B4 n m n k r) (hn : (¬ TogM A0 A4 B0 B4 n m (sF B4 (k + 1)) ∧ r2 = r) ∨ (TogM A0 A4 B0 B4 n m (sF B4 (k + 1)) ∧ (r = -1 ∨ sF B4 (k + 1) < r) ∧ r2 = sF B4 (k + 1)) ∨ (TogM A0 A4 B0 B4 n m (sF B4 (k + 1)) ∧ ¬ r = -1 ∧ ¬ sF B4 (k + 1) < r ∧ r2 = r)) : SnR A0 A4 B0 B4 n m n (k + 1) r2 :=
  sn_step (TogM.nn pA) (fun _ hu => hu.sB) (fun _ hu => hu.uB) (Or.inr (Or.inr ⟨k, Nat.lt_succ_self _, rfl⟩)) h hn
theorem TogM.symm {A0 A4 B0 B4 : Int → Int} {n m : Nat} {t : Int} (h : TogM A0 A4 B0 B4 n m t) : TogM B0 B4 A0 A4 m n t := by
  obtain ⟨i, j, hi, hj, a, b, c⟩ := h
  exact ⟨j, i, hj, hi, b, a, c.symm⟩
theorem CndM.symm {A4 B4 : Int → Int} {n m : Nat} {t : Int} (h : CndM A4 B4 n m t) : CndM B4 A4 m n t := by
  rcases h with h | h | h
  · exact Or.inl h
  · exact Or.inr (Or.inr h)
  · exact Or.inr (Or.inl h)
theorem SnR.meet {A0 A4 B0 B4 : Int → Int} {n m : Nat} {r : Int} (h : SnR A0 A4 B0 B4 n m n m r) : MeetR B0 B4 A0 A4 m n r := by
  rcases h with ⟨a, b⟩ | ⟨a, b, c⟩
  · exact Or.inl ⟨a, fun t ht g => b t ht.symm g.symm⟩
  · exact Or.inr ⟨a.symm, b.symm, fun t ht hl g => c t ht.symm hl g.symm⟩
theorem SnR.tg {N : Int → Int} {r s x lg mr en pw ol : Int} {B0 B1 B2 B3 B4 B5 B6 O0 O1 O4 : Int → Int} (h : FolS N s lg mr en pw B0 B1 B2 B3 B4 B5 B6) (g : OthR N r ol O0 O1 O4) (hx : SnR B0 B4 O0 O4 (gS N s) (gS N r) (gS N s) (gS N r) x) : tgR N r s x :=
  hx.meet.congr (fun i hi => (g.2 i hi).1) (fun i hi => (g.2 i hi).2.2) (fun i hi => (h.at0 hi).1) (fun i hi => (h.at0 hi).2.2.2)
theorem FolS.pos {N : Int → Int} (hN : NOk0 N) {s lg mr en pw : Int} {B0 B1 B2 B3 B4 B5 B6 : Int → Int} (hs : 0 ≤ s ∧ s < N 4) (h : FolS N s lg mr en pw B0 B1 B2 B3 B4 B5 B6) : PosF B4 (gS N s) ∧ (∀ i : Nat, i < gS N s → 0 ≤ B0 (i : Int) ∧ B0 (i : Int) ≤ 9) ∧ (∀ k : Nat, k ≤ gS N s → 0 ≤ sF B4 k ∧ sF B4 k ≤ 1998000 * k) ∧ gS N s ≤ 60 := by
  have sb := sho_bd hN hs.1 hs.2
  have fb := FolR.bd hN h sb.2.2.1 sb.2.1
  have e : lg = (gS N s : Int) := h.1
  refine ⟨fun i hi => (fb.2.2.2 (i : Int) (by omega) (by omega)).2.2.2.2.1, fun i hi => ?_, fun k hk => smN_bd k (fun i hi => ?_), by omega⟩
  · have z := (fb.2.2.2 (i : Int) (by omega) (by omega)).1
    exact ⟨z.1, z.2.1⟩
  · have z := (fb.2.2.2 (i : Int) (by omega) (by omega)).2.2.2.2
    exact ⟨by omega, z.2⟩
theorem OthR.pos {N : Int → Int} {r ol lg mr en pw : Int} {O0 O1 O4 B0 B1 B2 B3 B4 B5 B6 : Int → Int} (hN : NOk0 N) (hs : 0 ≤ r ∧ r < N 4) (g : OthR N r ol O0 O1 O4) (h : FolS N r lg mr en pw B0 B1 B2 B3 B4 B5 B6) : PosF O4 (gS N r) ∧ (∀ i : Nat, i < gS N r → 0 ≤ O0 (i : Int) ∧ O0 (i : Int) ≤ 9) ∧ (∀ k : Nat, k ≤ gS N r → 0 ≤ sF O4 k ∧ sF O4 k ≤ 1998000 * k) ∧ gS N r ≤ 60 := by
  obtain ⟨p1, p2, p3, p4⟩ := FolS.pos hN hs h
  have e4 : ∀ i : Nat, i < gS N r → O4 (i : Int) = B4 (i : Int) := fun i hi => (g.2 i hi).2.2.trans (h.at0 hi).2.2.2.symm
  refine ⟨fun i hi => by rw [e4 i hi]; exact p1 i hi, fun i hi => by rw [(g.2 i hi).1, ← (h.at0 hi).1]; exact p2 i hi, fun k hk => by rw [sF_congr e4 hk]; exact p3 k hk, p4⟩
theorem FolS.e1 {N : Int → Int} (hN : NOk0 N) {s lg mr en pw : Int} {B0 B1 B2 B3 B4 B5 B6 : Int → Int} (hs : 0 ≤ s ∧ s < N 4) (h : FolS N s lg mr en pw B0 B1 B2 B3 B4 B5 B6) : ∀ i : Nat, i < gS N s → 0 ≤ B1 (i : Int) ∧ B1 (i : Int) ≤ 1 := fun i hi => by
  have sb := sho_bd hN hs.1 hs.2
  have fb := FolR.bd hN h sb.2.2.1 sb.2.1
  have e : lg = (gS N s : Int) := h.1
  exact (fb.2.2.2 (i : Int) (by omega) (by omega)).2.1
theorem OthR.e1 {N : Int → Int} {r ol lg mr en pw : Int} {O0 O1 O4 B0 B1 B2 B3 B4 B5 B6 : Int → Int} (hN : NOk0 N) (hs : 0 ≤ r ∧ r < N 4) (g : OthR N r ol O0 O1 O4) (h : FolS N r lg mr en pw B0 B1 B2 B3 B4 B5 B6) : ∀ i : Nat, i < gS N r → 0 ≤ O1 (i : Int) ∧ O1 (i : Int) ≤ 1 := fun i hi => by
  rw [(g.2 i hi).2.1, ← (h.at0 hi).2.1]; exact FolS.e1 hN hs h i hi
