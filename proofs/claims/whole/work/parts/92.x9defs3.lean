/-! ===== a ray followed, as the model does ===== -/
def FolR (N : Int → Int) (p y e lg mr en pw : Int) (B0 B1 B2 B3 B4 B5 B6 : Int → Int) : Prop := lg = (lgF N p y e : Int) ∧ mr = smN (mrK N p y e) (lgF N p y e) ∧ en = enF N p y e ∧ pw = pwF N p y e ∧ FilI N p y e (lgF N p y e) B0 B1 B2 B3 B4 B5 B6
theorem FolR.of {N : Int → Int} {p y e : Int} {k : Nat} {ly dn lg en sh le tm pw tr mr cr de : Int} {B0 B1 B2 B3 B4 B5 B6 : Int → Int} (h : RunI N p y e k ly dn lg en sh le tm pw tr mr cr de) (hk : k ≤ 60) (hx : en ≠ -1) (f : FilI N p y e k B0 B1 B2 B3 B4 B5 B6) : FolR N p y e lg mr en pw B0 B1 B2 B3 B4 B5 B6 := by
  obtain ⟨a, b, c, d⟩ := h.done hk (Or.inr hx)
  have q := lgF_eq a
  subst q
  exact ⟨b.1, b.2.2.2.2.2.1, c, d, f⟩
theorem FolR.none {N : Int → Int} {p y e : Int} {B0 B1 B2 B3 B4 B5 B6 : Int → Int} (h : ¬ begN N y p) : FolR N p y e 0 0 4 0 B0 B1 B2 B3 B4 B5 B6 := by
  have z : lgF N p y e = 0 := if_neg h
  unfold FolR enF pwF
  rw [z]
  exact ⟨rfl, rfl, rfl, rfl, fun i hi => absurd hi (Nat.not_lt_zero i)⟩
theorem wb_mir {N : Int → Int} (hN : NOk0 N) {p y e q : Int} (h : wbN N p y e q = 2) : N 2 = 1 := by
  have xb := ixN_bd hN (ahd y e)
  by_cases hm : N 2 = 1 ∧ N 0 ≤ ahd y e
  · exact hm.1
  · have i : ihN N y e = ixN N (ahd y e) := if_neg hm
    unfold wbN at h
    rw [i] at h
    (repeat' split at h) <;> omega
/-- the numbers of a path in range -/
theorem FolR.bd {N : Int → Int} (hN : NOk0 N) {p y e lg mr en pw : Int} {B0 B1 B2 B3 B4 B5 B6 : Int → Int} (h : FolR N p y e lg mr en pw B0 B1 B2 B3 B4 B5 B6) (hp : 0 ≤ p) (he : e = 0 ∨ e = 1) : (0 ≤ lg ∧ lg ≤ 60) ∧ (0 ≤ en ∧ en ≤ 4) ∧ (0 ≤ pw ∧ pw ≤ 1000000) ∧ ∀ i : Int, 0 ≤ i → i < lg → (0 ≤ B0 i ∧ B0 i ≤ 9 ∧ B0 i < N 0) ∧ (0 ≤ B1 i ∧ B1 i ≤ 1) ∧ (0 ≤ B2 i ∧ B2 i ≤ 499500) ∧ (1 ≤ B3 i ∧ B3 i ≤ 499500) ∧ 1 ≤ B4 i ∧ B4 i ≤ 1998000 := by
  obtain ⟨h1, h2, h3, h4, h5⟩ := h
  have hl := lgF_bd N p y e
  have eb := enF_bd N p y e
  have pb := (shF_bd hN hp he (p := p) (y := y) (e := e)).2.2
  refine ⟨by omega, by omega, by omega, fun i i0 i1 => ?_⟩
  have q := h5 i.toNat (by omega)
  rw [Int.toNat_of_nonneg i0] at q
  rcases isN_lgF N p y e with ⟨-, z⟩ | ⟨hb, k, z, z60, ho, hv⟩
  · omega
  · have g := on_bd hN hp hb he i.toNat (by omega) (fun j hj => ho j (by omega))
    have n0 := hN.1
    have b := leg_bd hN g.1.1 g.1.2 hp g.2.1
    rw [q.1, q.2.1, q.2.2.1, q.2.2.2.1, q.2.2.2.2.1]
    unfold shK leK tmK
    exact ⟨⟨g.1.1, by omega, g.1.2⟩, by have := g.2.2.1; omega, b.1, b.2.1, by omega, by omega⟩
