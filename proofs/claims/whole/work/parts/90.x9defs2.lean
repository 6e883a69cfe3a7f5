/-! ===== the model's ray ===== -/
theorem ppA (q a b : Int) : q * (a - b) * (a - b) = q * ((b - a) * (b - a)) := by
  have e : (a - b) * (a - b) = (b - a) * (b - a) := by
    rw [← Int.neg_sub b a, Int.neg_mul_neg]
  rw [Int.mul_assoc, e]
theorem upI_upI (F : Int → Int) (k a b : Int) : upI (upI F k a) k b = upI F k b := funext fun j => by
  unfold upI
  split <;> rfl
/-- what goOnBy() does -/
def GoM (N : Int → Int) (w lg mr en pw ly dn : Int) (A6 : Int → Int) (mr2 en2 pw2 ly2 dn2 : Int) (B6 : Int → Int) : Prop :=
  (w = 0 ∧ ly2 = ahd ly dn ∧ pw2 = ppN N ly (ahd ly dn) pw ∧ dn2 = dn ∧ mr2 = mr ∧ en2 = en ∧ B6 = A6) ∨
  (w = 1 ∧ ly2 = ly ∧ pw2 = pw ∧ dn2 = 1 - dn ∧ mr2 = mr ∧ en2 = en ∧ B6 = A6) ∨
  (w = 2 ∧ ly2 = ly ∧ pw2 = pw * N 3 / 100 ∧ dn2 = 0 ∧ mr2 = mr + 1 ∧ ((pw * N 3 / 100 = 0 ∧ en2 = 2 ∧ B6 = upI A6 (lg - 1) 5) ∨ (¬ pw * N 3 / 100 = 0 ∧ en2 = en ∧ B6 = A6)))
theorem wb_ev {N : Int → Int} (hN : NOk0 N) {p y e q k : Int} (hp : 0 ≤ p) (hy : 0 ≤ y ∧ y < N 0) (he : e = 0 ∨ e = 1) (hk : k ≤ 60) :
    (¬ ebN k (wbN N p y e q) = -1 → 3 ≤ evN N p k y e q ∧ evN N p k y e q ≤ 6 ∧ endE (evN N p k y e q) = ebN k (wbN N p y e q) ∧ (if ebN k (wbN N p y e q) = 3 then 6 else wbN N p y e q) = whE (evN N p k y e q)) ∧
    (ebN k (wbN N p y e q) = -1 → ((wbN N p y e q = 0 ∧ evN N p k y e q = 0 ∧ 0 ≤ ahd y e ∧ ahd y e < N 0) ∨ (wbN N p y e q = 1 ∧ evN N p k y e q = 1) ∨ (wbN N p y e q = 2 ∧ evN N p k y e q = if q * N 3 / 100 = 0 then 7 else 2))) := by
  have n0 := hN.1
  have n1 := hN.2.1
  have n2 := hN.2.2.1
  have hA : ahd y e = y + 1 ∨ ahd y e = y - 1 := by unfold ahd; split <;> omega
  by_cases q0 : q = 0
  · have w : wbN N p y e q = 5 := if_pos q0
    have v : evN N p k y e q = 5 := if_pos q0
    rw [w, v]
    exact ⟨fun _ => ⟨by decide, by decide, rfl, rfl⟩, fun h => absurd h (show ¬ ebN k 5 = -1 from (by decide : ¬ (2 : Int) = -1))⟩
  by_cases hm : N 2 = 1 ∧ N 0 ≤ ahd y e
  · have i : ihN N y e = -1 := if_pos hm
    have x : ixN N (ahd y e) = 0 := by
      unfold ixN
      rw [if_neg (by omega), if_pos hm.2, if_pos hm.1]
    have w : wbN N p y e q = 2 := by unfold wbN; rw [if_neg q0, if_pos i]
    by_cases k6 : 60 ≤ k
    · have v : evN N p k y e q = 6 := by unfold evN; rw [if_neg q0, if_neg (by omega), if_pos k6]
      have b : ebN k 2 = 3 := by unfold ebN; rw [if_neg (by decide), if_neg (by decide), if_neg (by decide), if_pos (by omega)]
      rw [w, v, b]
      exact ⟨fun _ => ⟨by decide, by decide, rfl, rfl⟩, fun h => absurd h (by decide)⟩
    · have v : evN N p k y e q = if q * N 3 / 100 = 0 then 7 else 2 := by unfold evN; rw [if_neg q0, if_neg (by omega), if_neg k6, if_pos hm]
      have b : ebN k 2 = -1 := by unfold ebN; rw [if_neg (by decide), if_neg (by decide), if_neg (by decide), if_neg (by omega)]
      rw [w, v, b]
      exact ⟨fun h => absurd rfl h, fun _ => Or.inr (Or.inr ⟨rfl, rfl⟩)⟩
  · have i : ihN N y e = ixN N (ahd y e) := if_neg hm
    have xb := ixN_bd hN (ahd y e)
    by_cases hx : ixN N (ahd y e) ≤ p
    · have w : wbN N p y e q = 1 := by unfold wbN; rw [if_neg q0, if_neg (by omega), if_pos (by omega)]
      by_cases k6 : 60 ≤ k
      · have v : evN N p k y e q = 6 := by unfold evN; rw [if_neg q0, if_neg (by omega), if_pos k6]
        have b : ebN k 1 = 3 := by unfold ebN; rw [if_neg (by decide), if_neg (by decide), if_neg (by decide), if_pos (by omega)]
        rw [w, v, b]
        exact ⟨fun _ => ⟨by decide, by decide, rfl, rfl⟩, fun h => absurd h (by decide)⟩
      · have v : evN N p k y e q = 1 := by unfold evN; rw [if_neg q0, if_neg (by omega), if_neg k6, if_neg hm]
        have b : ebN k 1 = -1 := by unfold ebN; rw [if_neg (by decide), if_neg (by decide), if_neg (by decide), if_neg (by omega)]
        rw [w, v, b]
        exact ⟨fun h => absurd rfl h, fun _ => Or.inr (Or.inl ⟨rfl, rfl⟩)⟩
    · by_cases hin : 0 ≤ ahd y e ∧ ahd y e < N 0
      · have w : wbN N p y e q = 0 := by unfold wbN; rw [if_neg q0, if_neg (by omega), if_neg (by omega), if_pos hin]
        by_cases k6 : 60 ≤ k
        · have v : evN N p k y e q = 6 := by unfold evN; rw [if_neg q0, if_pos (by omega), if_pos hin, if_pos k6]
          have b : ebN k 0 = 3 := by unfold ebN; rw [if_neg (by decide), if_neg (by decide), if_neg (by decide), if_pos (by omega)]
          rw [w, v, b]
          exact ⟨fun _ => ⟨by decide, by decide, rfl, rfl⟩, fun h => absurd h (by decide)⟩
        · have v : evN N p k y e q = 0 := by unfold evN; rw [if_neg q0, if_pos (by omega), if_pos hin, if_neg k6]
          have b : ebN k 0 = -1 := by unfold ebN; rw [if_neg (by decide), if_neg (by decide), if_neg (by decide), if_neg (by omega)]
          rw [w, v, b]
          exact ⟨fun h => absurd rfl h, fun _ => Or.inl ⟨rfl, rfl, hin⟩⟩
      · by_cases e1 : e = 1
        · have w : wbN N p y e q = 4 := by unfold wbN; rw [if_neg q0, if_neg (by omega), if_neg (by omega), if_neg hin, if_pos e1]
          have v : evN N p k y e q = 4 := by unfold evN; rw [if_neg q0, if_pos (by omega), if_neg hin, if_pos e1]
          rw [w, v]
          exact ⟨fun _ => ⟨by decide, by decide, rfl, rfl⟩, fun h => absurd h (show ¬ ebN k 4 = -1 from (by decide : ¬ (1 : Int) = -1))⟩
        · have w : wbN N p y e q = 3 := by unfold wbN; rw [if_neg q0, if_neg (by omega), if_neg (by omega), if_neg hin, if_neg e1]
          have v : evN N p k y e q = 3 := by unfold evN; rw [if_neg q0, if_pos (by omega), if_neg hin, if_neg e1]
          rw [w, v]
          exact ⟨fun _ => ⟨by decide, by decide, rfl, rfl⟩, fun h => absurd h (show ¬ ebN k 3 = -1 from (by decide : ¬ (0 : Int) = -1))⟩
theorem wbN_bd (N : Int → Int) (p y e q : Int) : 0 ≤ wbN N p y e q ∧ wbN N p y e q ≤ 5 := by
  unfold wbN
  (repeat' split) <;> omega
theorem ebN_bd (k w : Int) : -1 ≤ ebN k w ∧ ebN k w ≤ 3 := by
  unfold ebN
  (repeat' split) <;> omega
theorem RunI.lt60 {N : Int → Int} {p y0 e0 : Int} {k : Nat} {ly dn lg en sh le tm pw tr mr cr de : Int} (h : RunI N p y0 e0 k ly dn lg en sh le tm pw tr mr cr de) (hk : k ≤ 60) (he : en = -1) : k < 60 := by
  obtain ⟨-, -, ho, -⟩ := h.alive he
  rcases Nat.lt_or_ge k 60 with q | q
  · exact q
  · have a := ho 59 (by omega)
    have b : 3 ≤ vE N p y0 e0 59 := evN_60 N p _ _ _ _ (by decide)
    omega
theorem RunI.dn {N : Int → Int} {p y0 e0 : Int} {k : Nat} {ly dn lg en sh le tm pw tr mr cr de : Int} (h : RunI N p y0 e0 k ly dn lg en sh le tm pw tr mr cr de) (he : ¬ en = -1) (ly2 dn2 : Int) : RunI N p y0 e0 k ly2 dn2 lg en sh le tm pw tr mr cr de :=
  ⟨h.1, h.2.elim (fun z => absurd z.2.1 he) (fun z => Or.inr z)⟩
theorem RunI.mdE {N : Int → Int} (hN : NOk0 N) {p y0 e0 : Int} {k : Nat} {ly dn lg en sh le tm pw tr mr cr de : Int} {M0 M1 M2 M3 M4 M5 M6 : Int → Int} (h : RunI N p y0 e0 k ly dn lg en sh le tm pw tr mr cr de) (hk : k ≤ 60) (he : en = -1) (hp : 0 ≤ p) (he0 : e0 = 0 ∨ e0 = 1) (f : FilI N p y0 e0 k M0 M1 M2 M3 M4 M5 M6) (hne : ¬ ebN (lg + 1) (wbN N p ly dn (qN N p ly pw)) = -1) :
    (RunI N p y0 e0 (k + 1) ly dn (lg + 1) (ebN (lg + 1) (wbN N p ly dn (qN N p ly pw))) (sh + shN N p ly) (le + leN N p ly) (tm + tmN N p ly) (qN N p ly pw) tr mr cr (max de ly)) ∧
    FilI N p y0 e0 (k + 1) (upI M0 lg ly) (upI M1 lg dn) (upI M2 lg (shN N p ly)) (upI M3 lg (leN N p ly)) (upI M4 lg (tmN N p ly)) (upI M5 lg (qN N p ly pw)) (upI M6 lg (if ebN (lg + 1) (wbN N p ly dn (qN N p ly pw)) = 3 then 6 else wbN N p ly dn (qN N p ly pw))) := by
  have b := h.bd hN hk he hp he0
  have l6 := h.lt60 hk he
  have hlg : lg = (k : Int) := h.1.1
  obtain ⟨v1, v2, v3, v4⟩ := (wb_ev hN (q := qN N p ly pw) hp b.1 b.2.2.1 (show lg + 1 ≤ 60 by omega)).1 hne
  have n7 : ¬ evN N p (lg + 1) ly dn (qN N p ly pw) = 7 := by omega
  refine ⟨h.step he rfl (by rw [if_pos v1, v3]) (by rw [if_neg (by omega)]) (by rw [if_neg (by omega), if_neg (by omega)]) (by rw [if_neg (by omega), if_neg (by omega), if_neg n7]) (by rw [if_neg (by omega)]; omega) (by rw [if_neg (by omega)]; omega) (by rw [if_neg (by omega)]; omega), ?_⟩
  exact FilI.step h he f hlg v4
theorem RunI.mdG {N : Int → Int} (hN : NOk0 N) {p y0 e0 : Int} {k : Nat} {ly dn lg en sh le tm pw tr mr cr de : Int} {M0 M1 M2 M3 M4 M5 M6 : Int → Int} (h : RunI N p y0 e0 k ly dn lg en sh le tm pw tr mr cr de) (hk : k ≤ 60) (he : en = -1) (hp : 0 ≤ p) (he0 : e0 = 0 ∨ e0 = 1) (f : FilI N p y0 e0 k M0 M1 M2 M3 M4 M5 M6) (heq : ebN (lg + 1) (wbN N p ly dn (qN N p ly pw)) = -1) {mr2 en2 pw2 ly2 dn2 : Int} {B6 : Int → Int}
    (g : GoM N (wbN N p ly dn (qN N p ly pw)) (lg + 1) mr (-1) (qN N p ly pw) ly dn (upI M6 lg (wbN N p ly dn (qN N p ly pw))) mr2 en2 pw2 ly2 dn2 B6) :
    ∃ tr2 cr2 : Int, (RunI N p y0 e0 (k + 1) ly2 dn2 (lg + 1) en2 (sh + shN N p ly) (le + leN N p ly) (tm + tmN N p ly) pw2 tr2 mr2 cr2 (max de ly)) ∧
    FilI N p y0 e0 (k + 1) (upI M0 lg ly) (upI M1 lg dn) (upI M2 lg (shN N p ly)) (upI M3 lg (leN N p ly)) (upI M4 lg (tmN N p ly)) (upI M5 lg (qN N p ly pw)) B6 := by
  have b := h.bd hN hk he hp he0
  have l6 := h.lt60 hk he
  have hlg : lg = (k : Int) := h.1.1
  subst he
  rcases (wb_ev hN (q := qN N p ly pw) hp b.1 b.2.2.1 (show lg + 1 ≤ 60 by omega)).2 heq with ⟨w, v, -, -⟩ | ⟨w, v⟩ | ⟨w, v⟩
  · rw [w] at g
    rcases g with ⟨-, g1, g2, g3, g4, g5, g6⟩ | ⟨g0, -⟩ | ⟨g0, -⟩
    · refine ⟨_, _, h.step rfl rfl ?_ ?_ ?_ ?_ rfl ?_ rfl, ?_⟩
      · rw [v]; exact g5
      · rw [v]; exact g1
      · rw [v]; exact g3
      · rw [v]; exact g2
      · rw [v]; simpa using g4
      · rw [g6]; exact FilI.step h rfl f hlg (by rw [v]; rfl)
    · omega
    · omega
  · rw [w] at g
    rcases g with ⟨g0, -⟩ | ⟨-, g1, g2, g3, g4, g5, g6⟩ | ⟨g0, -⟩
    · omega
    · refine ⟨_, _, h.step rfl rfl ?_ ?_ ?_ ?_ rfl ?_ rfl, ?_⟩
      · rw [v]; exact g5
      · rw [v]; exact g1
      · rw [v]; exact g3
      · rw [v]; exact g2
      · rw [v]; simpa using g4
      · rw [g6]; exact FilI.step h rfl f hlg (by rw [v]; rfl)
    · omega
  · rw [w] at g
    rcases g with ⟨g0, -⟩ | ⟨g0, -⟩ | ⟨-, g1, g2, g3, g4, g5⟩
    · omega
    · omega
    · rcases g5 with ⟨z, g5, g6⟩ | ⟨z, g5, g6⟩
      · rw [if_pos z] at v
        refine ⟨_, _, RunI.dn (ly := ly2) (dn := dn) (h.step rfl rfl ?_ ?_ ?_ ?_ rfl ?_ rfl) (by omega) ly2 dn2, ?_⟩
        · rw [v]; exact g5
        · rw [v]; exact g1
        · rw [v]; rfl
        · rw [v]; rw [g2]; exact z
        · rw [v]; simpa using g4
        · rw [g6, show lg + 1 - 1 = lg by omega, upI_upI]; exact FilI.step h rfl f hlg (by rw [v]; rfl)
      · rw [if_neg z] at v
        refine ⟨_, _, h.step rfl rfl ?_ ?_ ?_ ?_ rfl ?_ rfl, ?_⟩
        · rw [v]; exact g5
        · rw [v]; exact g1
        · rw [v]; exact g3
        · rw [v]; exact g2
        · rw [v]; simpa using g4
        · rw [g6]; exact FilI.step h rfl f hlg (by rw [v]; rfl)
