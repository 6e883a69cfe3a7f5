/-! ===== where a ray is at a time ===== -/
theorem smN_congr {f g : Nat → Int} : ∀ n : Nat, (∀ i, i < n → f i = g i) → smN f n = smN g n
  | 0, _ => rfl
  | n + 1, h => by
    simp only [smN]
    rw [smN_congr n (fun i hi => h i (by omega)), h n (by omega)]
/-- the first leg behind which the time is not yet over, of the first n; n if there is none -/
def fstT (f : Nat → Int) (t : Int) : Nat → Nat
  | 0 => 0
  | n + 1 => if fstT f t n < n then fstT f t n else if t < smN f (n + 1) then n else n + 1
def tqS (N : Int → Int) (r : Int) : Nat → Int := tmK N (sP N r) (sY N r) (sD N r)
def lgK (N : Int → Int) (r t : Int) : Nat := fstT (tqS N r) t (gS N r)
def legN (N : Int → Int) (r t : Int) : Int := if lgK N r t = gS N r then -1 else (lgK N r t : Int)
theorem smN_nn {f : Nat → Int} : ∀ n : Nat, (∀ i, i < n → 0 ≤ f i) → 0 ≤ smN f n
  | 0, _ => Int.le_refl _
  | n + 1, h => by
    have a := smN_nn n (fun i hi => h i (by omega))
    have b := h n (by omega)
    simp only [smN]
    omega
