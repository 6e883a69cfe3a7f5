/-! ===== four letters as a number; numbers as letters again ===== -/
def chN (F : Int → Int) (n z : Int) : Int := if z < n then F z else 0
def f4N (F : Int → Int) (n a : Int) : Nat → Int
  | 0 => 0
  | k + 1 => f4N F n a k * 256 + chN F n (a + (k : Int))
theorem chN_bd {F : Int → Int} {n : Int} (hF : ∀ j : Int, 0 ≤ j → j < n → 0 ≤ F j ∧ F j ≤ 127) {z : Int} (hz : 0 ≤ z) : 0 ≤ chN F n z ∧ chN F n z ≤ 127 := by
  unfold chN
  split
  · exact hF z hz (by omega)
  · omega
theorem f4N_bd {F : Int → Int} {n : Int} (hF : ∀ j : Int, 0 ≤ j → j < n → 0 ≤ F j ∧ F j ≤ 127) {a : Int} (ha : 0 ≤ a) : ∀ k : Nat, 0 ≤ f4N F n a k ∧ 2 * f4N F n a k + 1 ≤ 256 ^ k
  | 0 => by simp [f4N]
  | k + 1 => by
    have ih := f4N_bd hF ha k
    have c := chN_bd hF (z := a + (k : Int)) (by omega)
    simp only [f4N]
    rw [Int.pow_succ]
    omega
theorem f4N_b3 {F : Int → Int} {n : Int} (hF : ∀ j : Int, 0 ≤ j → j < n → 0 ≤ F j ∧ F j ≤ 127) {a : Int} (ha : 0 ≤ a) {k : Nat} (hk : k ≤ 3) : 0 ≤ f4N F n a k ∧ f4N F n a k < 8388608 := by
  have h := f4N_bd hF ha k
  have p : (256 : Int) ^ k ≤ 16777216 := by
    match k, hk with
    | 0, _ => decide
    | 1, _ => decide
    | 2, _ => decide
    | 3, _ => decide
  omega
theorem f4N_b4 {F : Int → Int} {n : Int} (hF : ∀ j : Int, 0 ≤ j → j < n → 0 ≤ F j ∧ F j ≤ 127) {a : Int} (ha : 0 ≤ a) : 0 ≤ f4N F n a 4 ∧ f4N F n a 4 < 2147483648 := by
  have h := f4N_bd hF ha 4
  have p : (256 : Int) ^ 4 = 4294967296 := by decide
  omega
theorem app4_c {F : Int → Int} {n : Int} (hF : ∀ j : Int, 0 ≤ j → j < n → 0 ≤ F j ∧ F j ≤ 127) {a : Int} (ha : 0 ≤ a) (B : Int → Int) (p j : Int) : app4 B p (f4N F n a 4) j % 256 = if j = p + 1 + 1 + 1 then chN F n (a + 3) else if j = p + 1 + 1 then chN F n (a + 2) else if j = p + 1 then chN F n (a + 1) else if j = p then chN F n a else B j % 256 := by
  have c0 := chN_bd hF (z := a) ha
  have c1 := chN_bd hF (z := a + 1) (by omega)
  have c2 := chN_bd hF (z := a + 2) (by omega)
  have c3 := chN_bd hF (z := a + 3) (by omega)
  have e : f4N F n a 4 = ((chN F n a * 256 + chN F n (a + 1)) * 256 + chN F n (a + 2)) * 256 + chN F n (a + 3) := by
    have e0 : a + ((0 : Nat) : Int) = a := by omega
    simp only [f4N]
    rw [e0]
    show ((((0 : Int) * 256 + chN F n a) * 256 + chN F n (a + 1)) * 256 + chN F n (a + 2)) * 256 + chN F n (a + 3) = _
    omega
  rw [e]
  generalize chN F n a = d0 at *
  generalize chN F n (a + 1) = d1 at *
  generalize chN F n (a + 2) = d2 at *
  generalize chN F n (a + 3) = d3 at *
  unfold app4 upI
  (repeat' split) <;> omega
theorem app4_in {F : Int → Int} {n : Int} (hF : ∀ j : Int, 0 ≤ j → j < n → 0 ≤ F j ∧ F j ≤ 127) {a : Int} (ha : 0 ≤ a) (B : Int → Int) {p j : Int} (h0 : p ≤ j) (h1 : j < p + 4) : app4 B p (f4N F n a 4) j % 256 = chN F n (a + (j - p)) := by
  rw [app4_c hF ha]
  rcases (by omega : j = p ∨ j = p + 1 ∨ j = p + 2 ∨ j = p + 3) with q | q | q | q
  · rw [if_neg (by omega), if_neg (by omega), if_neg (by omega), if_pos q]; congr 1; omega
  · rw [if_neg (by omega), if_neg (by omega), if_pos q]; congr 1; omega
  · rw [if_neg (by omega), if_pos (by omega)]; congr 1; omega
  · rw [if_pos (by omega)]; congr 1; omega
theorem app4_out {F : Int → Int} {n : Int} (hF : ∀ j : Int, 0 ≤ j → j < n → 0 ≤ F j ∧ F j ≤ 127) {a : Int} (ha : 0 ≤ a) (B : Int → Int) {p j : Int} (h : j < p ∨ p + 4 ≤ j) : app4 B p (f4N F n a 4) j % 256 = B j % 256 := by
  rw [app4_c hF ha, if_neg (by omega), if_neg (by omega), if_neg (by omega), if_neg (by omega)]
theorem feedS {F : Int → Int} {n : Int} (hF : ∀ j : Int, 0 ≤ j → j < n → 0 ≤ F j ∧ F j ≤ 127) {k : Int} (hk : 0 ≤ k) {B B2 : Int → Int} (hB : ∀ j : Int, 0 ≤ j → j < k → B j % 256 = chN F n j) (h : B2 = apd5 B k (f4N F n k 4) (f4N F n (k + 4) 4) (f4N F n (k + 8) 4) (f4N F n (k + 12) 4) (f4N F n (k + 16) 4)) : ∀ j : Int, 0 ≤ j → j < k + 20 → B2 j % 256 = chN F n j := by
  intro j j0 j1
  subst h
  unfold apd5
  rcases (by omega : j < k ∨ (k ≤ j ∧ j < k + 4) ∨ (k + 4 ≤ j ∧ j < k + 8) ∨ (k + 8 ≤ j ∧ j < k + 12) ∨ (k + 12 ≤ j ∧ j < k + 16) ∨ (k + 16 ≤ j ∧ j < k + 20)) with q | q | q | q | q | q
  · rw [app4_out hF (by omega) _ (by omega), app4_out hF (by omega) _ (by omega), app4_out hF (by omega) _ (by omega), app4_out hF (by omega) _ (by omega), app4_out hF hk _ (by omega)]
    exact hB j j0 q
  · rw [app4_out hF (by omega) _ (by omega), app4_out hF (by omega) _ (by omega), app4_out hF (by omega) _ (by omega), app4_out hF (by omega) _ (by omega), app4_in hF hk _ (by omega) (by omega)]
    congr 1; omega
  · rw [app4_out hF (by omega) _ (by omega), app4_out hF (by omega) _ (by omega), app4_out hF (by omega) _ (by omega), app4_in hF (by omega) _ (by omega) (by omega)]
    congr 1; omega
  · rw [app4_out hF (by omega) _ (by omega), app4_out hF (by omega) _ (by omega), app4_in hF (by omega) _ (by omega) (by omega)]
    congr 1; omega
  · rw [app4_out hF (by omega) _ (by omega), app4_in hF (by omega) _ (by omega) (by omega)]
    congr 1; omega
  · rw [app4_in hF (by omega) _ (by omega) (by omega)]
    congr 1; omega
/-! ===== the law's draws ===== -/
def idxN (K : KC) (k : Int) : Int := if drwN K k 3 = 0 then 1000 + 100 * drwN K (k + 1) 31 else 1000 + drwN K (k + 1) 3001
theorem idxN_bd (K : KC) (k : Int) : 1000 ≤ idxN K k ∧ idxN K k ≤ 4000 := by
  have a := drwN_bd K (k + 1) (n := 31) (by decide)
  have b := drwN_bd K (k + 1) (n := 3001) (by decide)
  unfold idxN
  split <;> omega
