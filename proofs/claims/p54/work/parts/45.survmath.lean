/-! ===== the paths of all slants ===== -/
def ffst (f : Nat → Int) : Nat → Nat → Nat
  | 0, k => k
  | n + 1, k => if 3 ≤ f k then k else ffst f n (k + 1)
theorem ffst_spec (f : Nat → Int) : ∀ (n k : Nat), (∀ i, i < k → f i < 3) → k ≤ ffst f n k ∧ ffst f n k ≤ k + n ∧ (∀ i, i < ffst f n k → f i < 3) ∧ (ffst f n k < k + n → 3 ≤ f (ffst f n k))
  | 0, k, h => ⟨Nat.le_refl _, Nat.le_refl _, h, fun q => absurd q (Nat.lt_irrefl _)⟩
  | n + 1, k, h => by
    unfold ffst
    by_cases c : 3 ≤ f k
    · rw [if_pos c]
      exact ⟨Nat.le_refl _, by omega, h, fun _ => c⟩
    · rw [if_neg c]
      obtain ⟨a, b, d, e⟩ := ffst_spec f n (k + 1) (fun i hi => by
        rcases Nat.lt_succ_iff_lt_or_eq.mp hi with q | q
        · exact h i q
        · subst q; omega)
      exact ⟨by omega, by omega, d, fun q => e (by omega)⟩
/-- how many legs -/
def lgF (N : Int → Int) (p y e : Int) : Nat := if begN N y p then ffst (vE N p y e) 59 0 + 1 else 0
theorem isN_lgF (N : Int → Int) (p y e : Int) : isN N p y e (lgF N p y e) := by
  unfold lgF
  by_cases h : begN N y p
  · rw [if_pos h]
    obtain ⟨a, b, c, d⟩ := ffst_spec (vE N p y e) 59 0 (fun i hi => absurd hi (Nat.not_lt_zero i))
    refine Or.inr ⟨h, _, rfl, by omega, c, ?_⟩
    by_cases g : ffst (vE N p y e) 59 0 < 0 + 59
    · exact d g
    · have e9 : ffst (vE N p y e) 59 0 = 59 := by omega
      rw [e9]
      exact evN_60 N p _ _ _ _ (by decide)
  · rw [if_neg h]
    exact Or.inl ⟨h, rfl⟩
theorem lgF_eq {N : Int → Int} {p y e : Int} {n : Nat} (h : isN N p y e n) : n = lgF N p y e := isN_one h (isN_lgF N p y e)
def enF (N : Int → Int) (p y e : Int) : Int := enN N p y e (lgF N p y e)
def shF (N : Int → Int) (p y e : Int) : Int := smN (shK N p y e) (lgF N p y e)
def tmF (N : Int → Int) (p y e : Int) : Int := smN (tmK N p y e) (lgF N p y e)
def pwF (N : Int → Int) (p y e : Int) : Int := pwN N p y e (lgF N p y e)
/-- the same turns: at every place both pass or neither -/
def sameT (N : Int → Int) (p p' : Int) : Prop := ∀ z : Int, -1 ≤ z → z ≤ N 0 → (p < ixN N z ↔ p' < ixN N z)
/-- what remains of a power is no less of a greater one -/
theorem rem_mono {a b c d M : Int} (hM : 0 < M) (ha : 0 ≤ a) (hab : a ≤ b) (hd : 0 ≤ d) (hdc : d ≤ c) : max 0 (a - a * c / M) ≤ max 0 (b - b * d / M) := by
  by_cases h : M < c
  · have h1 : a ≤ a * c / M := (Int.le_ediv_iff_mul_le hM).mpr (Int.mul_le_mul_of_nonneg_left (by omega) ha)
    omega
  · have h1 : b * d / M ≤ a * c / M + (b - a) := by
      have e1 : b * d ≤ a * c + (b - a) * M := by
        have k1 : b * d ≤ b * c := Int.mul_le_mul_of_nonneg_left hdc (by omega)
        have k2 : (b - a) * c ≤ (b - a) * M := Int.mul_le_mul_of_nonneg_left (by omega) (by omega)
        have k3 : (b - a) * c = b * c - a * c := Int.sub_mul _ _ _
        omega
      have e2 := Int.ediv_le_ediv hM e1
      rw [Int.add_mul_ediv_right _ _ (by omega)] at e2
      exact e2
    omega
theorem rN_mono {N : Int → Int} (h : NOk0 N) {p p' y : Int} (h0 : 0 ≤ y) (h1 : y < N 0) (p0 : 0 ≤ p) (hp : p ≤ p') (p1 : p' < nX N y) : rN N p' y ≤ rN N p y := by
  have a := vN_bd h h0 h1 p0 (by omega : p < nX N y)
  have b := vN_bd h h0 h1 (by omega : 0 ≤ p') p1
  have c : p * p ≤ p' * p' := sq_mono p0 hp
  exact rt_mono (by omega) (by unfold vN; omega) a.2.1
theorem dv_mono {a b c d : Int} (ha : 0 ≤ a) (hab : a ≤ b) (hd : 0 < d) (hdc : d ≤ c) : a / c ≤ b / d := by
  have h1 : a / c * d ≤ a / c * c := Int.mul_le_mul_of_nonneg_left hdc (Int.ediv_nonneg ha (by omega))
  have h2 : a / c * c ≤ a := Int.ediv_mul_le _ (by omega)
  exact (Int.le_ediv_iff_mul_le hd).mpr (by omega)
theorem leg_mono {N : Int → Int} (h : NOk0 N) {p p' y : Int} (h0 : 0 ≤ y) (h1 : y < N 0) (p0 : 0 ≤ p) (hp : p ≤ p') (p1 : p' < nX N y) : shN N p y ≤ shN N p' y ∧ leN N p y ≤ leN N p' y ∧ tmN N p y ≤ tmN N p' y := by
  have a := rN_bd h h0 h1 p0 (by omega : p < nX N y)
  have b := rN_bd h h0 h1 (by omega : 0 ≤ p') p1
  have c := rN_mono h h0 h1 p0 hp p1
  obtain ⟨n1, n2, n3⟩ := lay_bd h h0 h1
  have l1 := (leg_bd h h0 h1 p0 (by omega : p < nX N y))
  have m1 : leN N p y ≤ leN N p' y := dv_mono l1.2.2.2.2.1.1 (Int.le_refl _) (by omega) c
  refine ⟨dv_mono l1.2.2.2.1.1 (Int.mul_le_mul_of_nonneg_left hp (by omega)) (by omega) c, m1, ?_⟩
  exact Int.ediv_le_ediv (by decide) (Int.mul_le_mul_of_nonneg_right m1 (by omega))
theorem qN_mono {N : Int → Int} (h : NOk0 N) {p p' y w w' : Int} (h0 : 0 ≤ y) (h1 : y < N 0) (p0 : 0 ≤ p) (hp : p ≤ p') (p1 : p' < nX N y) (w0 : 0 ≤ w') (hw : w' ≤ w) : qN N p' y w' ≤ qN N p y w := by
  have m := (leg_mono h h0 h1 p0 hp p1).2.1
  have l := (leg_bd h h0 h1 p0 (by omega : p < nX N y)).2.1
  obtain ⟨n1, n2, n3⟩ := lay_bd h h0 h1
  have := rem_mono (M := 1000000) (by decide) w0 hw (d := lX N y * leN N p y) (c := lX N y * leN N p' y) (Int.mul_nonneg n3.1 (by omega)) (Int.mul_le_mul_of_nonneg_left m n3.1)
  unfold qN
  rw [Int.mul_assoc w', Int.mul_assoc w]
  exact this
theorem ppN_mono {N : Int → Int} (h : NOk0 N) {y z q q' : Int} (h0 : 0 ≤ y) (h1 : y < N 0) (z0 : 0 ≤ z) (z1 : z < N 0) (q0 : 0 ≤ q') (hq : q' ≤ q) (q1 : q ≤ 1000000) : ppN N y z q' ≤ ppN N y z q := by
  have a := pp_bd h h0 h1 z0 z1 q0 (by omega)
  have b := pp_bd h h0 h1 z0 z1 (by omega : 0 ≤ q) q1
  have := rem_mono (M := (nX N z + nX N y) * (nX N z + nX N y)) (by omega) q0 hq (d := (nX N z - nX N y) * (nX N z - nX N y)) a.2.1.1 (Int.le_refl _)
  have c := a.1.1
  have d := b.1.1
  unfold ppN at c d ⊢
  omega
theorem mi_mono {q q' b : Int} (q0 : 0 ≤ q') (hq : q' ≤ q) (b0 : 0 ≤ b) : q' * b / 100 ≤ q * b / 100 := Int.ediv_le_ediv (by decide) (Int.mul_le_mul_of_nonneg_right hq b0)
theorem ahd_bd {N : Int → Int} {y e : Int} (h0 : 0 ≤ y) (h1 : y < N 0) : -1 ≤ ahd y e ∧ ahd y e ≤ N 0 := by
  unfold ahd
  split <;> omega
/-- less power, the same turns: the same event, or absorbed -/
theorem evN_mono {N : Int → Int} (h : NOk0 N) {p p' k y e q q' : Int} (h0 : 0 ≤ y) (h1 : y < N 0) (hs : sameT N p p') (q0 : 0 ≤ q') (hq : q' ≤ q) :
    evN N p' k y e q' = evN N p k y e q ∨ evN N p' k y e q' = 5 ∨ evN N p' k y e q' = 7 := by
  have a := hs (ahd y e) (ahd_bd h0 h1).1 (ahd_bd h0 h1).2
  have hb : N 2 = 1 → 0 ≤ N 3 := fun hm => by have := h.2.2.1; omega
  unfold evN
  by_cases c0 : q' = 0
  · rw [if_pos c0]; omega
  · rw [if_neg c0, if_neg (show ¬ q = 0 by omega)]
    by_cases c1 : p < ixN N (ahd y e)
    · rw [if_pos c1, if_pos (a.mp c1)]; exact Or.inl rfl
    · rw [if_neg c1, if_neg (fun g => c1 (a.mpr g))]
      by_cases c2 : 60 ≤ k
      · rw [if_pos c2, if_pos c2]; exact Or.inl rfl
      · rw [if_neg c2, if_neg c2]
        by_cases c3 : N 2 = 1 ∧ N 0 ≤ ahd y e
        · rw [if_pos c3, if_pos c3]
          by_cases c4 : q' * N 3 / 100 = 0
          · rw [if_pos c4]; omega
          · have g := mi_mono q0 hq (hb c3.1)
            have g0 : 0 ≤ q' * N 3 / 100 := dv0 (Int.mul_nonneg q0 (hb c3.1)) (by decide)
            rw [if_neg c4, if_neg (show ¬ q * N 3 / 100 = 0 by omega)]
            exact Or.inl rfl
        · rw [if_neg c3, if_neg c3]; exact Or.inl rfl
theorem ev_lay {N : Int → Int} {p k y e q : Int} (h : evN N p k y e q = 0) : 0 ≤ ahd y e ∧ ahd y e < N 0 := by
  unfold evN at h
  split at h
  · omega
  · split at h
    · split at h
      · next c => exact c
      · split at h <;> omega
    · split at h
      · omega
      · split at h
        · split at h <;> omega
        · omega
/-- a greater slant of the same turns goes the same way, with no more power -/
theorem way_mono {N : Int → Int} (h : NOk0 N) {p p' y e : Int} (p0 : 0 ≤ p) (hp : p ≤ p') (hs : sameT N p p') (hb : begN N y p') (he : e = 0 ∨ e = 1) : ∀ k : Nat, k ≤ 59 → onN N p' y e k → onN N p y e k ∧ yN N p' y e k = yN N p y e k ∧ eN N p' y e k = eN N p y e k ∧ wN N p' y e k ≤ wN N p y e k
  | 0, _, _ => ⟨fun i hi => absurd hi (Nat.not_lt_zero i), rfl, rfl, Int.le_refl _⟩
  | k + 1, hk, ho => by
    have ho' : onN N p' y e k := fun i hi => ho i (by omega)
    obtain ⟨a, b, c, d⟩ := way_mono h p0 hp hs hb he k (by omega) ho'
    have hb0 : begN N y p := ⟨hb.1, hb.2.1, by have := hb.2.2; omega⟩
    have g' := on_bd h (by omega : 0 ≤ p') hb he k (by omega) ho'
    have g := on_bd h p0 hb0 he k (by omega) a
    have kq : kN N p' y e k ≤ kN N p y e k := by
      unfold kN
      rw [b]
      rw [b] at g'
      exact qN_mono h g.1.1 g.1.2 p0 hp g'.2.1 g'.2.2.2.1 d
    have q0 := (lost_bd h g'.1.1 g'.1.2 (by omega : 0 ≤ p') g'.2.1 g'.2.2.2.1 g'.2.2.2.2).2.2
    have q1 := (lost_bd h g.1.1 g.1.2 p0 g.2.1 g.2.2.2.1 g.2.2.2.2).2.2
    have hv : vE N p' y e k = vE N p y e k := by
      have hlt := ho k (by omega)
      have := evN_mono h (p := p) (p' := p') (k := (k : Int) + 1) (e := eN N p y e k) g.1.1 g.1.2 hs (q := kN N p y e k) (q' := kN N p' y e k) q0.1 kq
      unfold vE at hlt ⊢
      rw [b, c] at hlt ⊢
      omega
    refine ⟨fun i hi => ?_, ?_, ?_, ?_⟩
    · rcases Nat.lt_succ_iff_lt_or_eq.mp hi with q | q
      · exact a i q
      · rw [q, ← hv]; exact ho k (by omega)
    · rw [nx_y, nx_y, hv, b, c]
    · rw [nx_e, nx_e, hv, c]
    · rw [nx_w, nx_w, hv, b, c]
      split
      · next z =>
        have zz := ev_lay z
        exact ppN_mono h g.1.1 g.1.2 zz.1 zz.2 q0.1 kq (by unfold kN; omega)
      · split
        · next z1 z2 =>
          have hm : 0 ≤ N 3 := by have := h.2.2.1; omega
          exact mi_mono q0.1 kq hm
        · split
          · exact Int.le_refl _
          · exact kq
/-- 61 for a path that is not absorbed, else its legs -/
def rk (N : Int → Int) (p y e : Int) : Int := if enF N p y e = 2 then (lgF N p y e : Int) else 61
