/-! ===== where a ray is at a time ===== -/
theorem smN_congr {f g : Nat → Int} : ∀ n : Nat, (∀ i, i < n → f i = g i) → smN f n = smN g n
  | 0, _ => rfl
  | n + 1, h => by
    simp only [smN]
    rw [smN_congr n (fun i hi => h i (by omega)), h n (by omega)]
/-- the first leg behind which the time is not yet over, of the first n; n if there is none -/
def fstT (f : Nat → Int) (t : Int) : Nat → Nat
  | 0 => 0
  | n + 1 => if fstT f t n < n then fstT f t n else if t < smN f (n + 1) then n else n + 1
theorem fstT_spec (f : Nat → Int) (t : Int) : ∀ n : Nat, fstT f t n ≤ n ∧ (fstT f t n < n → t < smN f (fstT f t n + 1)) ∧ ∀ i, i < fstT f t n → smN f (i + 1) ≤ t
  | 0 => ⟨Nat.le_refl _, fun h => absurd h (Nat.lt_irrefl _), fun i hi => absurd hi (Nat.not_lt_zero i)⟩
  | n + 1 => by
    obtain ⟨a, b, c⟩ := fstT_spec f t n
    unfold fstT
    by_cases h : fstT f t n < n
    · rw [if_pos h]
      exact ⟨by omega, fun _ => b h, c⟩
    · rw [if_neg h]
      have e : fstT f t n = n := by omega
      rw [e] at c
      by_cases g : t < smN f (n + 1)
      · rw [if_pos g]
        exact ⟨by omega, fun _ => g, c⟩
      · rw [if_neg g]
        refine ⟨Nat.le_refl _, fun q => absurd q (Nat.lt_irrefl _), fun i hi => ?_⟩
        by_cases q : i < n
        · exact c i q
        · rw [show i = n by omega]; omega
theorem fstT_eq {f : Nat → Int} {t : Int} {n k : Nat} (hk : k ≤ n) (h1 : k < n → t < smN f (k + 1)) (h2 : ∀ i, i < k → smN f (i + 1) ≤ t) : fstT f t n = k := by
  obtain ⟨a, b, c⟩ := fstT_spec f t n
  rcases Nat.lt_trichotomy (fstT f t n) k with q | q | q
  · have := b (by omega)
    have := h2 _ q
    omega
  · exact q
  · have := h1 (by omega)
    have := c k q
    omega
theorem LegD.fst {F : Int → Int} {n : Nat} {t x : Int} {f : Nat → Int} (h : LegD F n t x) (hF : ∀ i, i < n → F (i : Int) = f i) : x = (fstT f t n : Int) := by
  have e : ∀ k, k ≤ n → sF F k = smN f k := fun k hk => smN_congr k (fun i hi => hF i (by omega))
  rcases h with ⟨k, hx, hk, h1, h2⟩ | ⟨hx, h2⟩
  · rw [hx, fstT_eq (Nat.le_of_lt hk) (fun _ => by rw [← e (k + 1) hk]; exact h1) (fun i hi => by rw [← e (i + 1) (by omega)]; exact h2 (i + 1) (by omega))]
  · rw [hx, fstT_eq (Nat.le_refl n) (fun q => absurd q (Nat.lt_irrefl _)) (fun i hi => by rw [← e (i + 1) (by omega)]; exact h2 (i + 1) (by omega))]
def tqS (N : Int → Int) (r : Int) : Nat → Int := tmK N (sP N r) (sY N r) (sD N r)
def skS (N : Int → Int) (r : Int) : Nat → Int := shK N (sP N r) (sY N r) (sD N r)
def ykS (N : Int → Int) (r : Int) : Nat → Int := yN N (sP N r) (sY N r) (sD N r)
def ekS (N : Int → Int) (r : Int) : Nat → Int := eN N (sP N r) (sY N r) (sD N r)
def lgK (N : Int → Int) (r t : Int) : Nat := fstT (tqS N r) t (gS N r)
def legN (N : Int → Int) (r t : Int) : Int := if lgK N r t = gS N r then -1 else (lgK N r t : Int)
def shtN (N : Int → Int) (r t : Int) : Int := if lgK N r t = gS N r then smN (skS N r) (gS N r) else smN (skS N r) (lgK N r t) + skS N r (lgK N r t) * (t - smN (tqS N r) (lgK N r t)) / tqS N r (lgK N r t)
def dptN (N : Int → Int) (r t : Int) : Int := if lgK N r t = gS N r then -1 else
  if ekS N r (lgK N r t) = 1 then depN N (ykS N r (lgK N r t)).toNat + dX N (ykS N r (lgK N r t)) * (t - smN (tqS N r) (lgK N r t)) / tqS N r (lgK N r t)
  else depN N (ykS N r (lgK N r t) + 1).toNat - dX N (ykS N r (lgK N r t)) * (t - smN (tqS N r) (lgK N r t)) / tqS N r (lgK N r t)
theorem PthR.s2 {N : Int → Int} {r : Int} {pv : PV} (h : PthR N (sP N r) (sY N r) (sD N r) pv) {k : Nat} (hk : k ≤ gS N r) : sF pv.2.2.2.2.1 k = smN (skS N r) k := smN_congr k (fun i hi => (h.2.2.2 i (by unfold gS at hk; omega)).2.2.1)
theorem PthR.s4 {N : Int → Int} {r : Int} {pv : PV} (h : PthR N (sP N r) (sY N r) (sD N r) pv) {k : Nat} (hk : k ≤ gS N r) : sF pv.2.2.2.2.2.2.1 k = smN (tqS N r) k := smN_congr k (fun i hi => (h.2.2.2 i (by unfold gS at hk; omega)).2.2.2.2.1)
theorem PthR.lgk {N : Int → Int} {r : Int} {pv : PV} (h : PthR N (sP N r) (sY N r) (sD N r) pv) {t x : Int} (hl : LegD pv.2.2.2.2.2.2.1 (gS N r) t x) : x = (lgK N r t : Int) ∧ lgK N r t ≤ gS N r ∧ ∀ k : Nat, k ≤ lgK N r t → 0 ≤ t → smN (tqS N r) k ≤ t := by
  have e : ∀ i, i < gS N r → pv.2.2.2.2.2.2.1 (i : Int) = tqS N r i := fun i hi => (h.2.2.2 i hi).2.2.2.2.1
  refine ⟨hl.fst e, (fstT_spec _ _ _).1, fun k hk h0 => ?_⟩
  cases k with
  | zero => exact h0
  | succ k => exact (fstT_spec _ _ _).2.2 k hk
theorem PthR.at0 {N : Int → Int} {r : Int} {pv : PV} (h : PthR N (sP N r) (sY N r) (sD N r) pv) {k : Nat} (hk : k < gS N r) : pv.2.2.1 (k : Int) = ykS N r k ∧ pv.2.2.2.1 (k : Int) = ekS N r k ∧ pv.2.2.2.2.1 (k : Int) = skS N r k ∧ pv.2.2.2.2.2.2.1 (k : Int) = tqS N r k :=
  ⟨(h.2.2.2 k hk).1, (h.2.2.2 k hk).2.1, (h.2.2.2 k hk).2.2.1, (h.2.2.2 k hk).2.2.2.2.1⟩
theorem smN_nn {f : Nat → Int} : ∀ n : Nat, (∀ i, i < n → 0 ≤ f i) → 0 ≤ smN f n
  | 0, _ => Int.le_refl _
  | n + 1, h => by
    have a := smN_nn n (fun i hi => h i (by omega))
    have b := h n (by omega)
    simp only [smN]
    omega
/-- a part of a leg is no more than the whole -/
theorem prt_bd {N : Int → Int} {r : Int} {pv : PV} (h : PthR N (sP N r) (sY N r) (sD N r) pv) (hN : NOk0 N) {t d : Int} (hd : 0 ≤ d ∧ d ≤ 1000000) (hk : lgK N r t < gS N r) (h0 : 0 ≤ t) (h3 : ∀ k : Nat, k ≤ lgK N r t → 0 ≤ t → smN (tqS N r) k ≤ t) (h4 : 1 ≤ tqS N r (lgK N r t)) : 0 ≤ d * (t - smN (tqS N r) (lgK N r t)) / tqS N r (lgK N r t) ∧ d * (t - smN (tqS N r) (lgK N r t)) / tqS N r (lgK N r t) ≤ d := by
  have a := h3 _ (Nat.le_refl _) h0
  have b := (fstT_spec (tqS N r) t (gS N r)).2.1 hk
  have b2 : t < smN (tqS N r) (lgK N r t) + tqS N r (lgK N r t) := b
  refine ⟨dv0 (Int.mul_nonneg hd.1 (by omega)) (by omega), dv (by omega) (Int.mul_le_mul_of_nonneg_left (by omega) hd.1)⟩
