/-! ===== what the model reads off a path ===== -/
section FOLR
variable {N : Int → Int} {p y e lg mr en pw : Int} {B0 B1 B2 B3 B4 B5 B6 : Int → Int}
theorem FolR.n (h : FolR N p y e lg mr en pw B0 B1 B2 B3 B4 B5 B6) : lg.toNat = lgF N p y e := by have := h.1; omega
theorem FolR.s2 (h : FolR N p y e lg mr en pw B0 B1 B2 B3 B4 B5 B6) : sF B2 lg.toNat = shF N p y e := by
  rw [h.n]; exact smN_congr _ (fun i hi => (h.2.2.2.2 i hi).2.2.1)
theorem FolR.s3 (h : FolR N p y e lg mr en pw B0 B1 B2 B3 B4 B5 B6) : sF B3 lg.toNat = smN (leK N p y e) (lgF N p y e) := by
  rw [h.n]; exact smN_congr _ (fun i hi => (h.2.2.2.2 i hi).2.2.2.1)
theorem FolR.s4 (h : FolR N p y e lg mr en pw B0 B1 B2 B3 B4 B5 B6) : sF B4 lg.toNat = tmF N p y e := by
  rw [h.n]; exact smN_congr _ (fun i hi => (h.2.2.2.2 i hi).2.2.2.2.1)
theorem cnF_sm {F : Int → Int} {x : Int} {f : Nat → Int} : ∀ n : Nat, (∀ i, i < n → (if F (i : Int) = x then 1 else 0) = f i) → cnF F x n = smN f n
  | 0, _ => rfl
  | n + 1, h => by
    unfold cnF
    simp only [smN]
    rw [cnF_sm n (fun i hi => h i (by omega)), ← h n (by omega)]
theorem whE_1 (v : Int) : whE v = 1 ↔ v = 1 := by unfold whE; split <;> omega
theorem whE_0 (v : Int) : whE v = 0 ↔ v = 0 := by unfold whE; split <;> omega
theorem FolR.h1 (h : FolR N p y e lg mr en pw B0 B1 B2 B3 B4 B5 B6) : cnF B6 1 lg.toNat = smN (trK N p y e) (lgF N p y e) := by
  rw [h.n]
  refine cnF_sm _ (fun i hi => ?_)
  rw [(h.2.2.2.2 i hi).2.2.2.2.2.2]
  unfold trK
  by_cases g : vE N p y e i = 1
  · rw [if_pos g, if_pos ((whE_1 _).mpr g)]
  · rw [if_neg g, if_neg (fun z => g ((whE_1 _).mp z))]
theorem FolR.h0 (h : FolR N p y e lg mr en pw B0 B1 B2 B3 B4 B5 B6) : cnF B6 0 lg.toNat = smN (crK N p y e) (lgF N p y e) := by
  rw [h.n]
  refine cnF_sm _ (fun i hi => ?_)
  rw [(h.2.2.2.2 i hi).2.2.2.2.2.2]
  unfold crK
  by_cases g : vE N p y e i = 0
  · rw [if_pos g, if_pos ((whE_0 _).mpr g)]
  · rw [if_neg g, if_neg (fun z => g ((whE_0 _).mp z))]
theorem dpN_congr {f g : Nat → Int} : ∀ n : Nat, (∀ i, i < n → f i = g i) → dpN f n = dpN g n
  | 0, _ => rfl
  | n + 1, h => by
    simp only [dpN]
    rw [dpN_congr n (fun i hi => h i (by omega)), h n (by omega)]
theorem FolR.de (h : FolR N p y e lg mr en pw B0 B1 B2 B3 B4 B5 B6) : dpN (fun i : Nat => B0 (i : Int)) lg.toNat = dpN (yN N p y e) (lgF N p y e) := by
  rw [h.n]; exact dpN_congr _ (fun i hi => (h.2.2.2.2 i hi).1)
end FOLR
/-- the leg at a time, none behind the last -/
def nowN (F : Int → Int) (n : Nat) (t : Int) : Int := if fstT (fun i : Nat => F (i : Int)) t n = n then -1 else (fstT (fun i : Nat => F (i : Int)) t n : Int)
theorem fstT_congr {f g : Nat → Int} (t : Int) : ∀ n : Nat, (∀ i, i < n → f i = g i) → fstT f t n = fstT g t n
  | 0, _ => rfl
  | n + 1, h => by
    unfold fstT
    rw [fstT_congr t n (fun i hi => h i (by omega)), smN_congr (n + 1) h]
section FOLS
variable {N : Int → Int} {r lg mr en pw : Int} {B0 B1 B2 B3 B4 B5 B6 : Int → Int}
/-- the path of shot r -/
abbrev FolS (N : Int → Int) (r lg mr en pw : Int) (B0 B1 B2 B3 B4 B5 B6 : Int → Int) : Prop := FolR N (sP N r) (sY N r) (sD N r) lg mr en pw B0 B1 B2 B3 B4 B5 B6
theorem FolR.fst (h : FolS N r lg mr en pw B0 B1 B2 B3 B4 B5 B6) (t : Int) : fstT (fun i : Nat => B4 (i : Int)) t lg.toNat = lgK N r t := by
  rw [h.n]; exact fstT_congr t _ (fun i hi => (h.2.2.2.2 i hi).2.2.2.2.1)
theorem FolR.now (h : FolS N r lg mr en pw B0 B1 B2 B3 B4 B5 B6) (t : Int) : nowN B4 lg.toNat t = legN N r t := by
  unfold nowN legN
  rw [h.fst, show lg.toNat = gS N r from h.n]
theorem FolR.at0 (h : FolS N r lg mr en pw B0 B1 B2 B3 B4 B5 B6) {k : Nat} (hk : k < gS N r) : B0 (k : Int) = ykS N r k ∧ B1 (k : Int) = ekS N r k ∧ B2 (k : Int) = skS N r k ∧ B4 (k : Int) = tqS N r k :=
  ⟨(h.2.2.2.2 k hk).1, (h.2.2.2.2 k hk).2.1, (h.2.2.2.2 k hk).2.2.1, (h.2.2.2.2 k hk).2.2.2.2.1⟩
theorem FolR.k2 (h : FolS N r lg mr en pw B0 B1 B2 B3 B4 B5 B6) {k : Nat} (hk : k ≤ gS N r) : sF B2 k = smN (skS N r) k := smN_congr k (fun i hi => (h.at0 (by omega)).2.2.1)
theorem FolR.k4 (h : FolS N r lg mr en pw B0 B1 B2 B3 B4 B5 B6) {k : Nat} (hk : k ≤ gS N r) : sF B4 k = smN (tqS N r) k := smN_congr k (fun i hi => (h.at0 (by omega)).2.2.2)
theorem lgK_le (N : Int → Int) (r t : Int) : lgK N r t ≤ gS N r ∧ ∀ k : Nat, k ≤ lgK N r t → 0 ≤ t → smN (tqS N r) k ≤ t := by
  refine ⟨(fstT_spec _ _ _).1, fun k hk h0 => ?_⟩
  cases k with
  | zero => exact h0
  | succ k => exact (fstT_spec _ _ _).2.2 k hk
theorem prt_bd2 {N : Int → Int} {r : Int} {t d : Int} (hd : 0 ≤ d ∧ d ≤ 1000000) (hk : lgK N r t < gS N r) (h0 : 0 ≤ t) (h4 : 1 ≤ tqS N r (lgK N r t)) : (0 ≤ d * (t - smN (tqS N r) (lgK N r t)) / tqS N r (lgK N r t) ∧ d * (t - smN (tqS N r) (lgK N r t)) / tqS N r (lgK N r t) ≤ d) ∧ 0 ≤ t - smN (tqS N r) (lgK N r t) := by
  have a := (lgK_le N r t).2 _ (Nat.le_refl _) h0
  have b := (fstT_spec (tqS N r) t (gS N r)).2.1 hk
  have b2 : t < smN (tqS N r) (lgK N r t) + tqS N r (lgK N r t) := b
  exact ⟨⟨dv0 (Int.mul_nonneg hd.1 (by omega)) (by omega), dv (by omega) (Int.mul_le_mul_of_nonneg_left (by omega) hd.1)⟩, by omega⟩
end FOLS
