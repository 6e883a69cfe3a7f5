/-! ===== what the law asks of a path, as mathematics ===== -/
abbrev begS (N : Int → Int) (r : Int) : Prop := begN N (sY N r) (sP N r)
def wS (N : Int → Int) (r : Int) (k : Nat) : Int := wN N (sP N r) (sY N r) (sD N r) k
def kS (N : Int → Int) (r : Int) (k : Nat) : Int := kN N (sP N r) (sY N r) (sD N r) k
def vS (N : Int → Int) (r : Int) (k : Nat) : Int := vE N (sP N r) (sY N r) (sD N r) k
def lkS (N : Int → Int) (r : Int) (k : Nat) : Int := leK N (sP N r) (sY N r) (sD N r) k
def evS (N : Int → Int) (r : Int) (k : Nat) : Int := whE (vS N r k)
def legA (N : Int → Int) (r x z : Int) : Int := pick7 z (ykS N r x.toNat) (ekS N r x.toNat) (skS N r x.toNat) (lkS N r x.toNat) (tqS N r x.toNat) (kS N r x.toNat) (evS N r x.toNat)
def e2S (N : Int → Int) (r : Int) : Nat → Int
  | 0 => 0
  | k + 1 => e2S N r k + if vS N r k = 2 then 1 else 0
theorem gS_pos {N : Int → Int} {r : Int} (hb : begS N r) : ∃ k : Nat, gS N r = k + 1 ∧ k < 60 ∧ (∀ i : Nat, i < k → vS N r i < 3) ∧ 3 ≤ vS N r k := by
  rcases isN_lgF N (sP N r) (sY N r) (sD N r) with ⟨a, -⟩ | ⟨-, k, a, b, c, d⟩
  · exact absurd hb a
  · exact ⟨k, a, b, c, d⟩
theorem gS_no {N : Int → Int} {r : Int} (hb : ¬ begS N r) : gS N r = 0 := by
  rcases isN_lgF N (sP N r) (sY N r) (sD N r) with ⟨-, a⟩ | ⟨a, -⟩
  · exact a
  · exact absurd a hb
theorem pthB {N : Int → Int} (hN : NOk0 N) {r : Int} (hr : 0 ≤ r ∧ r < N 4) (hb : begS N r) {k : Nat} (hk : k < gS N r) : (0 ≤ ykS N r k ∧ ykS N r k < N 0) ∧ sP N r < nX N (ykS N r k) ∧ (ekS N r k = 0 ∨ ekS N r k = 1) ∧ (0 ≤ wS N r k ∧ wS N r k ≤ 1000000) ∧ (0 ≤ kS N r k ∧ kS N r k ≤ wS N r k) ∧ (0 ≤ skS N r k ∧ skS N r k ≤ 499500) ∧ (1 ≤ lkS N r k ∧ lkS N r k ≤ 499500) ∧ (1 ≤ tqS N r k ∧ tqS N r k ≤ 1998000) := by
  obtain ⟨j, e, j60, ho, hv⟩ := gS_pos hb
  have s := sho_bd hN hr.1 hr.2
  have h := on_bd hN s.2.2.1 hb s.2.1 k (by omega) (fun i hi => ho i (by omega))
  have l := lost_bd hN h.1.1 h.1.2 s.2.2.1 h.2.1 h.2.2.2.1 h.2.2.2.2
  have g := leg_bd hN h.1.1 h.1.2 s.2.2.1 h.2.1
  exact ⟨h.1, h.2.1, h.2.2.1, h.2.2.2, l.2.2, g.1, g.2.1, g.2.2.1⟩
theorem evN_0 {N : Int → Int} {p k y e q : Int} (h : evN N p k y e q = 0) : p < ixN N (ahd y e) ∧ 0 ≤ ahd y e ∧ ahd y e < N 0 := by
  unfold evN at h
  split at h
  · omega
  · split at h
    · next c1 =>
      split at h
      · next c2 => exact ⟨c1, c2⟩
      · split at h <;> omega
    · split at h
      · omega
      · split at h
        · split at h <;> omega
        · omega
theorem evN_1 {N : Int → Int} {p k y e q : Int} (h : evN N p k y e q = 1) : ¬ p < ixN N (ahd y e) := by
  unfold evN at h
  split at h
  · omega
  · split at h
    · next c1 =>
      split at h
      · split at h <;> omega
      · split at h <;> omega
    · next c1 => exact c1
theorem evN_2 {N : Int → Int} {p k y e q : Int} (h : evN N p k y e q = 2 ∨ evN N p k y e q = 7) : N 2 = 1 := by
  unfold evN at h
  split at h
  · omega
  · split at h
    · split at h
      · split at h <;> omega
      · split at h <;> omega
    · split at h
      · omega
      · split at h
        · next c => exact c.1
        · omega
theorem evN_34 {N : Int → Int} {p k y e q : Int} (h : evN N p k y e q = 3 ∨ evN N p k y e q = 4) : p < ixN N (ahd y e) ∧ ¬ (0 ≤ ahd y e ∧ ahd y e < N 0) ∧ (e = 1 ↔ evN N p k y e q = 4) := by
  unfold evN at h ⊢
  split at h
  · omega
  · next c0 =>
    rw [if_neg c0]
    split at h
    · next c1 =>
      rw [if_pos c1]
      split at h
      · split at h <;> omega
      · next c2 =>
        rw [if_neg c2]
        refine ⟨c1, c2, ?_⟩
        split <;> omega
    · split at h
      · omega
      · split at h
        · split at h <;> omega
        · omega
theorem wS_next {N : Int → Int} (hN : NOk0 N) {r : Int} (hr : 0 ≤ r ∧ r < N 4) (hb : begS N r) {k : Nat} (hk : k < gS N r) : 0 ≤ wS N r (k + 1) ∧ wS N r (k + 1) ≤ kS N r k := by
  have b := pthB hN hr hb hk
  have e : wS N r (k + 1) = _ := nx_w N (sP N r) (sY N r) (sD N r) k
  rw [e]
  by_cases c0 : vE N (sP N r) (sY N r) (sD N r) k = 0
  · rw [if_pos c0]
    have z := evN_0 c0
    have q := (pp_bd hN b.1.1 b.1.2 z.2.1 z.2.2 b.2.2.2.2.1.1 (by have := b.2.2.2.1; omega)).1
    exact q
  · rw [if_neg c0]
    by_cases c2 : vE N (sP N r) (sY N r) (sD N r) k = 2
    · rw [if_pos c2]
      have z := evN_2 (Or.inl c2)
      have n2 := hN.2.2.1
      exact (mi_bd b.2.2.2.2.1.1 (by have := b.2.2.2.1; omega) (by omega) (by omega)).2
    · rw [if_neg c2]
      split
      · exact ⟨Int.le_refl _, b.2.2.2.2.1.1⟩
      · exact ⟨b.2.2.2.2.1.1, Int.le_refl _⟩
theorem pthC {N : Int → Int} {r : Int} (k : Nat) : ykS N r (k + 1) = (if vS N r k = 0 then ahd (ykS N r k) (ekS N r k) else ykS N r k) ∧ ekS N r (k + 1) = (if vS N r k = 1 then 1 - ekS N r k else if vS N r k = 2 then 0 else ekS N r k) := ⟨nx_y N (sP N r) (sY N r) (sD N r) k, nx_e N (sP N r) (sY N r) (sD N r) k⟩
theorem vS_rng (N : Int → Int) (r : Int) (k : Nat) : 0 ≤ vS N r k ∧ vS N r k ≤ 7 := evN_rng _ _ _ _ _ _
theorem evS_v (N : Int → Int) (r : Int) (k : Nat) : evS N r k = if vS N r k = 7 then 5 else vS N r k := rfl
/-- the step of the law's own layer and direction -/
theorem pthD {N : Int → Int} {r : Int} {k : Nat} (h : vS N r k < 3) : (evS N r k = 0 → ykS N r (k + 1) = ahd (ykS N r k) (ekS N r k) ∧ ekS N r (k + 1) = ekS N r k) ∧ (evS N r k = 1 → ykS N r (k + 1) = ykS N r k ∧ ekS N r (k + 1) = 1 - ekS N r k) ∧ (evS N r k = 2 → ykS N r (k + 1) = ykS N r k ∧ ekS N r (k + 1) = 0) := by
  obtain ⟨a, b⟩ := pthC (N := N) (r := r) k
  have e : evS N r k = vS N r k := by rw [evS_v, if_neg (by omega)]
  rw [e, a, b]
  refine ⟨fun z => ?_, fun z => ?_, fun z => ?_⟩
  · rw [if_pos z, if_neg (by omega), if_neg (by omega)]; exact ⟨rfl, rfl⟩
  · rw [if_neg (by omega), if_pos z]; exact ⟨rfl, rfl⟩
  · rw [if_neg (by omega), if_neg (by omega), if_pos z]; exact ⟨rfl, rfl⟩
/-- what is behind the sides -/
theorem pthE {N : Int → Int} (hN : NOk0 N) {r : Int} (hr : 0 ≤ r ∧ r < N 4) (hb : begS N r) {k : Nat} (hk : k < gS N r) : (evS N r k = 3 → sP N r < N 1) ∧ (evS N r k = 4 → N 2 ≠ 1 ∧ sP N r < N 3) ∧ (evS N r k = 1 → critZ N (ykS N r k) (ahd (ykS N r k) (ekS N r k)) ≤ sP N r) := by
  have b := pthB hN hr hb hk
  have s := sho_bd hN hr.1 hr.2
  have g := vS_rng N r k
  rw [evS_v]
  refine ⟨fun z => ?_, fun z => ?_, fun z => ?_⟩
  · have z : vS N r k = 3 := by split at z <;> omega
    obtain ⟨a1, a2, a3⟩ := evN_34 (Or.inl z)
    have a3 : ekS N r k = 1 ↔ vS N r k = 4 := a3
    have a1 : sP N r < ixN N (ahd (ykS N r k) (ekS N r k)) := a1
    have a2 : ¬ (0 ≤ ahd (ykS N r k) (ekS N r k) ∧ ahd (ykS N r k) (ekS N r k) < N 0) := a2
    have e0 : ekS N r k ≠ 1 := fun q => by have := a3.mp q; omega
    have ea : ahd (ykS N r k) (ekS N r k) = ykS N r k - 1 := if_neg e0
    rw [ea] at a1 a2
    unfold ixN at a1
    rw [if_pos (by omega)] at a1
    exact a1
  · have z : vS N r k = 4 := by split at z <;> omega
    obtain ⟨a1, a2, a3⟩ := evN_34 (Or.inr z)
    have a3 : ekS N r k = 1 ↔ vS N r k = 4 := a3
    have a1 : sP N r < ixN N (ahd (ykS N r k) (ekS N r k)) := a1
    have a2 : ¬ (0 ≤ ahd (ykS N r k) (ekS N r k) ∧ ahd (ykS N r k) (ekS N r k) < N 0) := a2
    have ea : ahd (ykS N r k) (ekS N r k) = ykS N r k + 1 := if_pos (a3.mpr z)
    rw [ea] at a1 a2
    unfold ixN at a1
    rw [if_neg (by omega), if_pos (by omega)] at a1
    split at a1 <;> omega
  · have z : vS N r k = 1 := by split at z <;> omega
    have a1 : ¬ sP N r < ixN N (ahd (ykS N r k) (ekS N r k)) := evN_1 z
    unfold critZ
    (repeat' split) <;> omega
/-! sums and counts -/
theorem pthM {N : Int → Int} {r : Int} (hb : begS N r) : e2S N r (gS N r) ≤ mrS N r ∧ mrS N r ≤ e2S N r (gS N r) + 1 := by
  obtain ⟨j, e, j60, ho, hv⟩ := gS_pos hb
  have h : ∀ k : Nat, k ≤ j → smN (mrK N (sP N r) (sY N r) (sD N r)) k = e2S N r k := by
    intro k
    induction k with
    | zero => intro _; rfl
    | succ k ih =>
      intro hk
      have a := ho k (by omega)
      have a : vE N (sP N r) (sY N r) (sD N r) k < 3 := a
      simp only [smN, e2S]
      rw [ih (by omega)]
      congr 1
      unfold mrK vS
      by_cases c : vE N (sP N r) (sY N r) (sD N r) k = 2
      · rw [if_pos (Or.inl c), if_pos c]
      · rw [if_neg (by omega), if_neg c]
  unfold mrS
  rw [e]
  simp only [smN, e2S]
  rw [h j (Nat.le_refl _)]
  have hv : 3 ≤ vE N (sP N r) (sY N r) (sD N r) j := hv
  unfold mrK vS
  (repeat' split) <;> omega
theorem pthS {N : Int → Int} (hN : NOk0 N) {r : Int} (hr : 0 ≤ r ∧ r < N 4) (hb : begS N r) : (0 ≤ hS_ N r ∧ hS_ N r ≤ 29970000) ∧ (0 ≤ leS N r ∧ leS N r ≤ 29970000) ∧ (0 ≤ tS N r ∧ tS N r ≤ 119880000) ∧ (0 ≤ trS N r ∧ trS N r ≤ 60) ∧ (0 ≤ mrS N r ∧ mrS N r ≤ 60) ∧ (0 ≤ crS N r ∧ crS N r ≤ 60) ∧ (0 ≤ deS N r ∧ deS N r ≤ 9) ∧ pS N r = wS N r (gS N r) := by
  have g60 : gS N r ≤ 60 := lgF_bd N (sP N r) (sY N r) (sD N r)
  have g1 : 1 ≤ gS N r := by obtain ⟨j, e, -⟩ := gS_pos hb; omega
  have hl : ∀ i : Nat, i < gS N r → _ := fun i hi => pthB hN hr hb hi
  have a1 := smN_bd (f := skS N r) (b := 499500) (gS N r) (fun i hi => (hl i hi).2.2.2.2.2.1)
  have a2 := smN_bd (f := lkS N r) (b := 499500) (gS N r) (fun i hi => ⟨by have := (hl i hi).2.2.2.2.2.2.1.1; omega, (hl i hi).2.2.2.2.2.2.1.2⟩)
  have a3 := smN_bd (f := tqS N r) (b := 1998000) (gS N r) (fun i hi => ⟨by have := (hl i hi).2.2.2.2.2.2.2.1; omega, (hl i hi).2.2.2.2.2.2.2.2⟩)
  have a4 := smN_bd (f := trK N (sP N r) (sY N r) (sD N r)) (b := 1) (gS N r) (fun i hi => by unfold trK; split <;> omega)
  have a5 := smN_bd (f := mrK N (sP N r) (sY N r) (sD N r)) (b := 1) (gS N r) (fun i hi => by unfold mrK; split <;> omega)
  have a6 := smN_bd (f := crK N (sP N r) (sY N r) (sD N r)) (b := 1) (gS N r) (fun i hi => by unfold crK; split <;> omega)
  have a7 : ∀ j : Nat, j ≤ gS N r → -1 ≤ dpN (ykS N r) j ∧ dpN (ykS N r) j ≤ 9 ∧ (1 ≤ j → 0 ≤ dpN (ykS N r) j) := by
    intro j
    induction j with
    | zero => intro _; simp only [dpN]; omega
    | succ j ih =>
      intro hj
      have i1 := ih (by omega)
      have i2 := (hl j (by omega)).1
      have i3 := hN.1
      simp only [dpN]
      omega
  have a8 := a7 _ (Nat.le_refl _)
  have e1 : hS_ N r = smN (skS N r) (gS N r) := rfl
  have e2 : leS N r = smN (lkS N r) (gS N r) := rfl
  have e3 : tS N r = smN (tqS N r) (gS N r) := rfl
  have e4 : trS N r = smN (trK N (sP N r) (sY N r) (sD N r)) (gS N r) := rfl
  have e5 : mrS N r = smN (mrK N (sP N r) (sY N r) (sD N r)) (gS N r) := rfl
  have e6 : crS N r = smN (crK N (sP N r) (sY N r) (sD N r)) (gS N r) := rfl
  have e7 : deS N r = dpN (ykS N r) (gS N r) := rfl
  have gi : (gS N r : Int) ≤ 60 := by omega
  have e8 : pS N r = wS N r (gS N r) := by
    show pwN N (sP N r) (sY N r) (sD N r) (gS N r) = _
    unfold pwN
    rw [if_neg (by omega)]
    rfl
  rw [e1, e2, e3, e4, e5, e6, e7, e8]
  refine ⟨⟨a1.1, by omega⟩, ⟨a2.1, by omega⟩, ⟨a3.1, by omega⟩, ⟨a4.1, by omega⟩, ⟨a5.1, by omega⟩, ⟨a6.1, by omega⟩, ⟨a8.2.2 g1, a8.2.1⟩, rfl⟩
theorem trK_e (N : Int → Int) (r : Int) (k : Nat) : trK N (sP N r) (sY N r) (sD N r) k = if evS N r k = 1 then 1 else 0 := by
  have g := vS_rng N r k
  rw [evS_v]
  show (if vS N r k = 1 then 1 else 0) = _
  (repeat' split) <;> omega
theorem crK_e (N : Int → Int) (r : Int) (k : Nat) : crK N (sP N r) (sY N r) (sD N r) k = if evS N r k = 0 then 1 else 0 := by
  have g := vS_rng N r k
  rw [evS_v]
  show (if vS N r k = 0 then 1 else 0) = _
  (repeat' split) <;> omega
/-- the end of a path -/
theorem pthZ {N : Int → Int} {r : Int} (hb : begS N r) : (0 ≤ eS N r ∧ eS N r ≤ 3) ∧ (eS N r = 3 → gS N r = 60) ∧ 3 ≤ evS N r (gS N r - 1) ∧ evS N r (gS N r - 1) ≤ 6 ∧ eS N r = (if evS N r (gS N r - 1) = 3 then 0 else if evS N r (gS N r - 1) = 4 then 1 else if evS N r (gS N r - 1) = 5 then 2 else 3) := by
  obtain ⟨j, e, j60, ho, hv⟩ := gS_pos hb
  have g := vS_rng N r j
  have e1 : eS N r = endE (vS N r j) := by
    show enN N (sP N r) (sY N r) (sD N r) (gS N r) = _
    unfold enN
    rw [if_neg (by omega), e]
    rfl
  have e6 : vS N r j = 6 → j = 59 := fun z => by
    have z : evN N (sP N r) ((j : Int) + 1) (yN N (sP N r) (sY N r) (sD N r) j) (eN N (sP N r) (sY N r) (sD N r) j) (kN N (sP N r) (sY N r) (sD N r) j) = 6 := z
    unfold evN at z
    (repeat' split at z) <;> omega
  rw [e, Nat.add_sub_cancel, e1, evS_v]
  unfold endE
  refine ⟨by (repeat' split) <;> omega, fun z => ?_, by split <;> omega, by split <;> omega, by (repeat' split) <;> omega⟩
  have : vS N r j = 6 := by (repeat' split at z) <;> omega
  have := e6 this
  omega
theorem eS_no {N : Int → Int} {r : Int} (hb : ¬ begS N r) : eS N r = 4 ∧ pS N r = 0 ∧ tS N r = 0 ∧ deS N r = -1 := by
  have e := gS_no hb
  refine ⟨?_, ?_, ?_, ?_⟩
  · show enN N (sP N r) (sY N r) (sD N r) (gS N r) = 4
    rw [e]; rfl
  · show pwN N (sP N r) (sY N r) (sD N r) (gS N r) = 0
    rw [e]; rfl
  · show smN _ (gS N r) = 0
    rw [e]; rfl
  · show dpN _ (gS N r) = -1
    rw [e]; rfl
theorem eS_bd (N : Int → Int) (r : Int) : 0 ≤ eS N r ∧ eS N r ≤ 4 := by
  by_cases hb : begS N r
  · have := (pthZ hb).1; omega
  · have := (eS_no hb).1; omega
theorem eS_4 {N : Int → Int} {r : Int} (hb : begS N r) : eS N r ≠ 4 := by have := (pthZ hb).1; omega
/-! all shots, all layers -/
theorem smN_cn (M : Nat) : ∀ (n : Nat) (F : Int → Int), (∀ i : Nat, i < n → 0 ≤ F (i : Int) ∧ F (i : Int) < (M : Int)) → smN (fun y : Nat => cnF F (y : Int) n) M = (n : Int)
  | 0, F, _ => by
    have : ∀ k : Nat, smN (fun y : Nat => cnF F (y : Int) 0) k = 0 := by
      intro k
      induction k with
      | zero => rfl
      | succ k ih => simp only [smN]; rw [ih]; rfl
    exact this M
  | n + 1, F, h => by
    have ih := smN_cn M n F (fun i hi => h i (by omega))
    have hn := h n (by omega)
    have one : ∀ k : Nat, smN (fun y : Nat => cnF F (y : Int) (n + 1)) k = smN (fun y : Nat => cnF F (y : Int) n) k + if F (n : Int) < (k : Int) then 1 else 0 := by
      intro k
      induction k with
      | zero => simp only [smN]; rw [if_neg (by omega)]; rfl
      | succ k ik =>
        simp only [smN, cnF] at ik ⊢
        rw [ik]
        (repeat' split) <;> omega
    rw [one, ih, if_pos hn.2]
    omega
theorem lac_sum {N : Int → Int} (hN : NOk0 N) {r : Int} (hr : 0 ≤ r ∧ r < N 4) : smN (fun y : Nat => lacS N (y : Int) r) (N 0).toNat = (gS N r : Int) := by
  have n0 := hN.1
  refine smN_cn (N 0).toNat (gS N r) (fun i => yN N (sP N r) (sY N r) (sD N r) i.toNat) (fun i hi => ?_)
  by_cases hb : begS N r
  · have b := (pthB hN hr hb hi).1
    have e : yN N (sP N r) (sY N r) (sD N r) ((i : Int)).toNat = ykS N r i := rfl
    show 0 ≤ yN N (sP N r) (sY N r) (sD N r) ((i : Int)).toNat ∧ yN N (sP N r) (sY N r) (sD N r) ((i : Int)).toNat < _
    rw [e]
    omega
  · have := gS_no hb
    omega
/-- the legs of the first shots -/
def lgT (N : Int → Int) : Nat → Int := smN (fun i : Nat => (gS N (i : Int) : Int))
theorem lgT_bd (N : Int → Int) (m : Nat) : 0 ≤ lgT N m ∧ lgT N m ≤ 60 * m := by
  induction m with
  | zero => exact ⟨Int.le_refl _, Int.le_refl _⟩
  | succ m ih =>
    have g60 : gS N (m : Int) ≤ 60 := lgF_bd N (sP N (m : Int)) (sY N (m : Int)) (sD N (m : Int))
    have e : lgT N (m + 1) = lgT N m + (gS N (m : Int) : Int) := rfl
    rw [e]
    omega
theorem lac_all {N : Int → Int} (hN : NOk0 N) : ∀ m : Nat, (m : Int) ≤ N 4 → smN (fun y : Nat => lacN N (y : Int) m) (N 0).toNat = lgT N m
  | 0, _ => by
    have : ∀ k : Nat, smN (fun y : Nat => lacN N (y : Int) 0) k = 0 := by
      intro k
      induction k with
      | zero => rfl
      | succ k ih => simp only [smN]; rw [ih]; rfl
    exact this _
  | m + 1, h => by
    have ih := lac_all hN m (by omega)
    have a := lac_sum hN (r := (m : Int)) ⟨by omega, by omega⟩
    have two : ∀ k : Nat, smN (fun y : Nat => lacN N (y : Int) (m + 1)) k = smN (fun y : Nat => lacN N (y : Int) m) k + smN (fun y : Nat => lacS N (y : Int) (m : Int)) k := by
      intro k
      induction k with
      | zero => rfl
      | succ k ik =>
        simp only [smN, lacN] at ik ⊢
        rw [ik]
        omega
    rw [two, ih, a]
    rfl
theorem lac_bd2 (N : Int → Int) (m : Nat) : ∀ k : Nat, 0 ≤ smN (fun y : Nat => lacN N (y : Int) m) k ∧ smN (fun y : Nat => lacN N (y : Int) m) k ≤ 60 * m * k
  | 0 => ⟨Int.le_refl _, by simp [smN]⟩
  | k + 1 => by
    have a := lac_bd2 N m k
    have b := lacN_bd N (k : Int) m
    have e : smN (fun y : Nat => lacN N (y : Int) m) (k + 1) = smN (fun y : Nat => lacN N (y : Int) m) k + lacN N (k : Int) m := rfl
    rw [e]
    have c : (60 : Int) * (m : Int) * ((k + 1 : Nat) : Int) = 60 * m * k + 60 * m := by
      rw [show ((k + 1 : Nat) : Int) = (k : Int) + 1 by omega, Int.mul_add, Int.mul_one]
    rw [c]
    omega
theorem legW {N : Int → Int} {r x z v9 : Int} {pv : PV} (hp : PthR N (sP N r) (sY N r) (sD N r) pv) (hw : v9 = pick7 z (pv.2.2.1 x) (pv.2.2.2.1 x) (pv.2.2.2.2.1 x) (pv.2.2.2.2.2.1 x) (pv.2.2.2.2.2.2.1 x) (pv.2.2.2.2.2.2.2.1 x) (pv.2.2.2.2.2.2.2.2 x)) (h0 : 0 ≤ x ∧ x < (gS N r : Int)) : v9 = legA N r x z := by
  obtain ⟨h1, h2, h3, h4⟩ := hp
  have h5 := h4 x.toNat (by show x.toNat < gS N r; omega)
  rw [Int.toNat_of_nonneg h0.1] at h5
  obtain ⟨a0, a1, a2, a3, a4, a5, a6⟩ := h5
  rw [hw, a0, a1, a2, a3, a4, a5, a6]
  rfl
theorem pthL {N : Int → Int} {r : Int} (hb : begS N r) {k : Nat} (hk : k < gS N r) : (0 ≤ evS N r k ∧ evS N r k ≤ 6) ∧ ((k : Int) + 1 < (gS N r : Int) → evS N r k < 3 ∧ vS N r k < 3) ∧ (¬ (k : Int) + 1 < (gS N r : Int) → 3 ≤ evS N r k) := by
  obtain ⟨j, e, j60, ho, hv⟩ := gS_pos hb
  have g := vS_rng N r k
  rw [evS_v]
  refine ⟨by split <;> omega, fun z => ?_, fun z => ?_⟩
  · have := ho k (by omega)
    refine ⟨by split <;> omega, this⟩
  · have e2 : k = j := by omega
    subst e2
    split <;> omega
/-- the same, case by case -/
theorem pthK {N : Int → Int} {r : Int} {k : Nat} (h : vS N r k < 3) : (evS N r k = 0 → ekS N r k = 1 → ykS N r (k + 1) = ykS N r k + 1) ∧ (evS N r k = 0 → ekS N r k ≠ 1 → ykS N r (k + 1) = ykS N r k - 1) ∧ (evS N r k ≠ 0 → ykS N r (k + 1) = ykS N r k) ∧ (evS N r k = 0 → ekS N r (k + 1) = ekS N r k) ∧ (evS N r k = 1 → ekS N r (k + 1) = 1 - ekS N r k) ∧ (evS N r k = 2 → ekS N r (k + 1) = 0) := by
  obtain ⟨a, b, c⟩ := pthD h
  have g := vS_rng N r k
  have e : evS N r k = vS N r k := by rw [evS_v, if_neg (by omega)]
  unfold ahd at a
  refine ⟨fun z y => ?_, fun z y => ?_, fun z => ?_, fun z => (a z).2, fun z => (b z).2, fun z => (c z).2⟩
  · rw [(a z).1, if_pos y]
  · rw [(a z).1, if_neg y]
  · rcases (by omega : evS N r k = 1 ∨ evS N r k = 2) with q | q
    · exact (b q).1
    · exact (c q).1
theorem pthY {N : Int → Int} {r : Int} (hb : begS N r) : (evS N r (gS N r - 1) = 3 → eS N r = 0) ∧ (evS N r (gS N r - 1) = 4 → eS N r = 1) ∧ (evS N r (gS N r - 1) = 5 → eS N r = 2) ∧ (evS N r (gS N r - 1) = 6 → eS N r = 3) := by
  obtain ⟨-, -, -, -, h⟩ := pthZ hb
  refine ⟨fun z => ?_, fun z => ?_, fun z => ?_, fun z => ?_⟩ <;> rw [h, z] <;> decide
theorem critZ_bd {N : Int → Int} (h : NOk0 N) (y z : Int) : -1 ≤ critZ N y z ∧ critZ N y z ≤ 4000 := by
  have a := ixN_bd h z
  unfold critZ
  (repeat' split) <;> omega
theorem up3 (S : Int → Int) (a b c : Int) : upI (upI (upI S 0 a) 1 b) 2 c 0 = a ∧ upI (upI (upI S 0 a) 1 b) 2 c 1 = b ∧ upI (upI (upI S 0 a) 1 b) 2 c 2 = c := ⟨rfl, rfl, rfl⟩
theorem upE (E : Int → Int) (e i : Int) : upI E e (E e + 1) i = E i + if e = i then 1 else 0 := by
  unfold upI
  by_cases h : i = e
  · rw [if_pos h, if_pos h.symm, h]
  · rw [if_neg h, if_neg (fun q => h q.symm)]; omega
theorem e2_e (N : Int → Int) (r : Int) (k : Nat) : e2S N r (k + 1) = e2S N r k + if evS N r k = 2 then 1 else 0 := by
  have g := vS_rng N r k
  rw [evS_v]
  show e2S N r k + (if vS N r k = 2 then 1 else 0) = _
  (repeat' split) <;> omega
