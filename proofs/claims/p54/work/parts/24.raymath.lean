/-! ===== a ray's path, as mathematics ===== -/
def bt (k : Nat) : Int := 2 ^ k / 2
theorem bt_s (k : Nat) : bt (k + 1) = 2 ^ k := by
  unfold bt
  rw [Int.pow_succ]
  omega
theorem pw2_pos (k : Nat) : (1 : Int) ≤ 2 ^ k := by
  induction k with
  | zero => decide
  | succ k ih => rw [Int.pow_succ]; omega
theorem bt_half (k : Nat) : bt (k + 1) / 2 = bt k := by
  rw [bt_s]
  rfl
theorem bt_0 : bt 0 = 0 := by decide
theorem bt_pos (k : Nat) : 1 ≤ bt (k + 1) := by
  rw [bt_s]
  exact pw2_pos k
theorem bt_bd : ∀ k : Nat, k ≤ 12 → 0 ≤ bt k ∧ bt k ≤ 2048 := by decide
/-- the root, bit by bit -/
def rtA (v : Int) : Nat → Int → Int
  | 0, r => r
  | k + 1, r => if (r + bt (k + 1)) * (r + bt (k + 1)) ≤ v then rtA v k (r + bt (k + 1)) else rtA v k r
def rt (v : Int) : Int := rtA v 12 0
theorem sq_mono {a b : Int} (h0 : 0 ≤ a) (h : a ≤ b) : a * a ≤ b * b := Int.mul_le_mul h h h0 (by omega)
theorem rtA_spec (v : Int) : ∀ (k : Nat) (r : Int), 0 ≤ r → r * r ≤ v → v < (r + 2 ^ k) * (r + 2 ^ k) → r ≤ rtA v k r ∧ rtA v k r * rtA v k r ≤ v ∧ v < (rtA v k r + 1) * (rtA v k r + 1)
  | 0, r, h0, h1, h2 => by
    simp only [rtA]
    exact ⟨Int.le_refl _, h1, by simpa using h2⟩
  | k + 1, r, h0, h1, h2 => by
    have hp := pw2_pos k
    have e : r + 2 ^ (k + 1) = r + 2 ^ k + 2 ^ k := by rw [Int.pow_succ]; omega
    rw [e] at h2
    simp only [rtA, bt_s]
    split
    · next h =>
      obtain ⟨a, b, c⟩ := rtA_spec v k (r + 2 ^ k) (by omega) h h2
      exact ⟨by omega, b, c⟩
    · next h => exact rtA_spec v k r h0 h1 (by omega)
theorem rt_spec {v : Int} (h0 : 0 ≤ v) (h1 : v < 16777216) : 0 ≤ rt v ∧ rt v * rt v ≤ v ∧ v < (rt v + 1) * (rt v + 1) := rtA_spec v 12 0 (Int.le_refl _) (by simpa using h0) (by
  have : ((0 : Int) + 2 ^ 12) * (0 + 2 ^ 12) = 16777216 := by decide
  omega)
theorem rt_lt {v : Int} (h0 : 0 ≤ v) (h1 : v < 16777216) : rt v < 4096 := by
  obtain ⟨a, b, c⟩ := rt_spec h0 h1
  rcases Int.lt_or_le (rt v) 4096 with h | h
  · exact h
  · have := sq_mono (by omega) h
    omega
theorem rt_ge8 {v : Int} (h0 : 64 ≤ v) (h1 : v < 16777216) : 8 ≤ rt v := by
  obtain ⟨a, b, c⟩ := rt_spec (by omega) h1
  rcases Int.lt_or_le (rt v) 8 with h | h
  · have := sq_mono (a := rt v + 1) (b := 8) (by omega) (by omega)
    omega
  · exact h
theorem rt_mono {v w : Int} (h0 : 0 ≤ v) (h : v ≤ w) (h1 : w < 16777216) : rt v ≤ rt w := by
  obtain ⟨a, b, c⟩ := rt_spec h0 (by omega)
  obtain ⟨a', b', c'⟩ := rt_spec (v := w) (by omega) h1
  rcases Int.lt_or_le (rt w) (rt v) with g | g
  · have := sq_mono (a := rt w + 1) (b := rt v) (by omega) (by omega)
    omega
  · exact g
/-! one leg: root, shift, length, time, of layer y at the slant p -/
def nX (N : Int → Int) (y : Int) : Int := N (5 + 3 * y + 0)
def dX (N : Int → Int) (y : Int) : Int := N (5 + 3 * y + 1)
def lX (N : Int → Int) (y : Int) : Int := N (5 + 3 * y + 2)
def vN (N : Int → Int) (p y : Int) : Int := nX N y * nX N y - p * p
def rN (N : Int → Int) (p y : Int) : Int := rt (vN N p y)
def shN (N : Int → Int) (p y : Int) : Int := dX N y * p / rN N p y
def leN (N : Int → Int) (p y : Int) : Int := dX N y * nX N y / rN N p y
def tmN (N : Int → Int) (p y : Int) : Int := leN N p y * nX N y / 1000
/-- what a layer's numbers keep to, as linear facts -/
theorem lay_bd {N : Int → Int} (h : NOk0 N) {y : Int} (h0 : 0 ≤ y) (h1 : y < N 0) : (1000 ≤ nX N y ∧ nX N y ≤ 4000) ∧ (1 ≤ dX N y ∧ dX N y ≤ 999) ∧ 0 ≤ lX N y ∧ lX N y ≤ 99 := h.2.2.2.2.1 y h0 h1
theorem vN_bd {N : Int → Int} (h : NOk0 N) {p y : Int} (h0 : 0 ≤ y) (h1 : y < N 0) (p0 : 0 ≤ p) (p1 : p < nX N y) : 64 ≤ vN N p y ∧ vN N p y < 16777216 ∧ vN N p y ≤ nX N y * nX N y := by
  obtain ⟨a, b, c⟩ := lay_bd h h0 h1
  unfold vN
  have e1 : p * p ≤ (nX N y - 1) * (nX N y - 1) := sq_mono p0 (by omega)
  have e2 : (nX N y - 1) * (nX N y - 1) = nX N y * nX N y - 2 * nX N y + 1 := by
    rw [Int.sub_mul, Int.mul_sub, Int.mul_one, Int.one_mul]; omega
  have e3 : nX N y * nX N y ≤ 4000 * 4000 := sq_mono (by omega) a.2
  have e4 : 0 ≤ p * p := Int.mul_nonneg p0 p0
  omega
theorem rN_bd {N : Int → Int} (h : NOk0 N) {p y : Int} (h0 : 0 ≤ y) (h1 : y < N 0) (p0 : 0 ≤ p) (p1 : p < nX N y) : 8 ≤ rN N p y ∧ rN N p y < 4096 ∧ rN N p y ≤ nX N y := by
  obtain ⟨a, b, c⟩ := vN_bd h h0 h1 p0 p1
  refine ⟨rt_ge8 a b, rt_lt (by omega) b, ?_⟩
  obtain ⟨d, e, f⟩ := rt_spec (v := vN N p y) (by omega) b
  rcases Int.lt_or_le (nX N y) (rN N p y) with g | g
  · have hn := (lay_bd h h0 h1).1
    have e1 : (nX N y + 1) * (nX N y + 1) ≤ rN N p y * rN N p y := sq_mono (by omega) (by omega)
    have e2 : (nX N y + 1) * (nX N y + 1) = nX N y * nX N y + 2 * nX N y + 1 := by
      rw [Int.add_mul, Int.mul_add, Int.mul_one, Int.one_mul]; omega
    unfold rN at e1
    omega
  · exact g
theorem ml {a b c d : Int} (ha : 0 ≤ a) (hb : 0 ≤ b) (h1 : a ≤ c) (h2 : b ≤ d) : a * b ≤ c * d := Int.mul_le_mul h1 h2 hb (by omega)
theorem dv {a b c : Int} (hb : 0 < b) (h : a ≤ c * b) : a / b ≤ c := Int.ediv_le_of_le_mul hb h
theorem dv0 {a b : Int} (ha : 0 ≤ a) (hb : 0 < b) : 0 ≤ a / b := Int.ediv_nonneg ha (by omega)
theorem leg_bd {N : Int → Int} (h : NOk0 N) {p y : Int} (h0 : 0 ≤ y) (h1 : y < N 0) (p0 : 0 ≤ p) (p1 : p < nX N y) : (0 ≤ shN N p y ∧ shN N p y ≤ 499500) ∧ (1 ≤ leN N p y ∧ leN N p y ≤ 499500) ∧ (1 ≤ tmN N p y ∧ tmN N p y ≤ 1998000) ∧ (0 ≤ dX N y * p ∧ dX N y * p ≤ 3996000) ∧ (0 ≤ dX N y * nX N y ∧ dX N y * nX N y ≤ 3996000) ∧ 0 ≤ leN N p y * nX N y ∧ leN N p y * nX N y ≤ 1998000000 := by
  obtain ⟨a, b, c⟩ := lay_bd h h0 h1
  obtain ⟨r1, r2, r3⟩ := rN_bd h h0 h1 p0 p1
  have m1 : dX N y * p ≤ 999 * 4000 := ml (by omega) p0 b.2 (by omega)
  have m2 : dX N y * nX N y ≤ 999 * 4000 := ml (by omega) (by omega) b.2 a.2
  have m3 : 0 ≤ dX N y * p := Int.mul_nonneg (by omega) p0
  have m4 : 1 * nX N y ≤ dX N y * nX N y := ml (by omega) (by omega) b.1 (Int.le_refl _)
  have k1 : (499500 : Int) * 8 ≤ 499500 * rN N p y := Int.mul_le_mul_of_nonneg_left r1 (by omega)
  have l1 : leN N p y ≤ 499500 := dv (by omega) (by omega)
  have l2 : 1 ≤ leN N p y := by
    unfold leN
    exact (Int.le_ediv_iff_mul_le (by omega)).mpr (by omega)
  have s1 : shN N p y ≤ 499500 := dv (by omega) (by omega)
  have s0 : 0 ≤ shN N p y := dv0 m3 (by omega)
  have t1 : leN N p y * nX N y ≤ 499500 * 4000 := ml (by omega) (by omega) l1 a.2
  have t2 : 1 * 1000 ≤ leN N p y * nX N y := ml (by omega) (by omega) l2 a.1
  refine ⟨⟨s0, s1⟩, ⟨l2, l1⟩, ?_, ⟨m3, by omega⟩, ⟨by omega, by omega⟩, by omega, by omega⟩
  unfold tmN
  omega
/-! powers: behind a leg's own loss, behind a crossing -/
def qN (N : Int → Int) (p y w : Int) : Int := max 0 (w - w * lX N y * leN N p y / 1000000)
def ppN (N : Int → Int) (y z q : Int) : Int := q - q * ((nX N z - nX N y) * (nX N z - nX N y)) / ((nX N z + nX N y) * (nX N z + nX N y))
theorem lost_bd {N : Int → Int} (h : NOk0 N) {p y w : Int} (h0 : 0 ≤ y) (h1 : y < N 0) (p0 : 0 ≤ p) (p1 : p < nX N y) (w0 : 0 ≤ w) (w1 : w ≤ 1000000) : (0 ≤ w * lX N y ∧ w * lX N y ≤ 99000000) ∧ (0 ≤ w * lX N y * leN N p y ∧ w * lX N y * leN N p y ≤ 49450500000000) ∧ 0 ≤ qN N p y w ∧ qN N p y w ≤ w := by
  obtain ⟨a, b, c⟩ := lay_bd h h0 h1
  have l := (leg_bd h h0 h1 p0 p1).2.1
  have m1 : w * lX N y ≤ 1000000 * 99 := ml w0 (by omega) w1 c.2
  have m0 : 0 ≤ w * lX N y := Int.mul_nonneg w0 c.1
  have m2 : w * lX N y * leN N p y ≤ 99000000 * 499500 := ml m0 (by omega) (by omega) l.2
  have m3 : 0 ≤ w * lX N y * leN N p y := Int.mul_nonneg m0 (by omega)
  refine ⟨⟨m0, by omega⟩, ⟨m3, by omega⟩, ?_⟩
  unfold qN
  omega
theorem pp_bd {N : Int → Int} (h : NOk0 N) {y z q : Int} (h0 : 0 ≤ y) (h1 : y < N 0) (z0 : 0 ≤ z) (z1 : z < N 0) (q0 : 0 ≤ q) (q1 : q ≤ 1000000) : (0 ≤ ppN N y z q ∧ ppN N y z q ≤ q) ∧ (0 ≤ (nX N z - nX N y) * (nX N z - nX N y) ∧ (nX N z - nX N y) * (nX N z - nX N y) ≤ 9000000) ∧ (0 ≤ q * ((nX N z - nX N y) * (nX N z - nX N y)) ∧ q * ((nX N z - nX N y) * (nX N z - nX N y)) ≤ 9000000000000) ∧ (4000000 ≤ (nX N z + nX N y) * (nX N z + nX N y) ∧ (nX N z + nX N y) * (nX N z + nX N y) ≤ 64000000) ∧ 0 ≤ q * ((nX N z - nX N y) * (nX N z - nX N y)) / ((nX N z + nX N y) * (nX N z + nX N y)) ∧ q * ((nX N z - nX N y) * (nX N z - nX N y)) / ((nX N z + nX N y) * (nX N z + nX N y)) ≤ q := by
  have a := (lay_bd h h0 h1).1
  have b := (lay_bd h z0 z1).1
  have d0 : 0 ≤ (nX N z - nX N y) * (nX N z - nX N y) := by
    rcases Int.le_total 0 (nX N z - nX N y) with g | g
    · exact Int.mul_nonneg g g
    · rw [← Int.neg_mul_neg]
      exact Int.mul_nonneg (by omega) (by omega)
  have d1 : (nX N z - nX N y) * (nX N z - nX N y) ≤ 3000 * 3000 := by
    rcases Int.le_total 0 (nX N z - nX N y) with g | g
    · exact sq_mono g (by omega)
    · rw [← Int.neg_mul_neg]
      exact sq_mono (by omega) (by omega)
  have s0 : 2000 * 2000 ≤ (nX N z + nX N y) * (nX N z + nX N y) := sq_mono (by omega) (by omega)
  have s1 : (nX N z + nX N y) * (nX N z + nX N y) ≤ 8000 * 8000 := sq_mono (by omega) (by omega)
  have sd : (nX N z - nX N y) * (nX N z - nX N y) ≤ (nX N z + nX N y) * (nX N z + nX N y) := by
    rcases Int.le_total 0 (nX N z - nX N y) with g | g
    · exact sq_mono g (by omega)
    · rw [← Int.neg_mul_neg]
      exact sq_mono (by omega) (by omega)
  have e0 : 0 ≤ q * ((nX N z - nX N y) * (nX N z - nX N y)) := Int.mul_nonneg q0 d0
  have e1 : q * ((nX N z - nX N y) * (nX N z - nX N y)) ≤ 1000000 * 9000000 := ml q0 d0 q1 (by omega)
  have f1 : q * ((nX N z - nX N y) * (nX N z - nX N y)) / ((nX N z + nX N y) * (nX N z + nX N y)) ≤ q := dv (by omega) (Int.mul_le_mul_of_nonneg_left sd q0)
  have f0 : 0 ≤ q * ((nX N z - nX N y) * (nX N z - nX N y)) / ((nX N z + nX N y) * (nX N z + nX N y)) := dv0 e0 (by omega)
  refine ⟨?_, ⟨d0, by omega⟩, ⟨e0, by omega⟩, ⟨by omega, by omega⟩, f0, f1⟩
  unfold ppN
  omega
theorem mi_bd {q b : Int} (q0 : 0 ≤ q) (q1 : q ≤ 1000000) (b0 : 0 ≤ b) (b1 : b ≤ 100) : (0 ≤ q * b ∧ q * b ≤ 100000000) ∧ 0 ≤ q * b / 100 ∧ q * b / 100 ≤ q := by
  have m0 : 0 ≤ q * b := Int.mul_nonneg q0 b0
  have m1 : q * b ≤ 1000000 * 100 := ml q0 b0 q1 b1
  have m2 : q * b ≤ q * 100 := Int.mul_le_mul_of_nonneg_left b1 q0
  refine ⟨⟨m0, by omega⟩, dv0 m0 (by omega), dv (by omega) m2⟩
/-! the path: what is ahead, what happens behind leg number k (from 1), the state at each leg's start -/
def ahd (y e : Int) : Int := if e = 1 then y + 1 else y - 1
/-- 0 passes, 1 total reflection, 2 mirroring, 3 out at the top, 4 at the bottom, 5 absorbed by the leg, 6 trapped, 7 absorbed by the mirroring -/
def evN (N : Int → Int) (p k y e q : Int) : Int :=
  if q = 0 then 5
  else if p < ixN N (ahd y e) then (if 0 ≤ ahd y e ∧ ahd y e < N 0 then (if 60 ≤ k then 6 else 0) else if e = 1 then 4 else 3)
  else if 60 ≤ k then 6
  else if N 2 = 1 ∧ N 0 ≤ ahd y e then (if q * N 3 / 100 = 0 then 7 else 2)
  else 1
def nxN (N : Int → Int) (p : Int) (k : Nat) (t : Int × Int × Int) : Int × Int × Int :=
  if evN N p ((k : Int) + 1) t.1 t.2.1 (qN N p t.1 t.2.2) = 0 then (ahd t.1 t.2.1, t.2.1, ppN N t.1 (ahd t.1 t.2.1) (qN N p t.1 t.2.2))
  else if evN N p ((k : Int) + 1) t.1 t.2.1 (qN N p t.1 t.2.2) = 1 then (t.1, 1 - t.2.1, qN N p t.1 t.2.2)
  else if evN N p ((k : Int) + 1) t.1 t.2.1 (qN N p t.1 t.2.2) = 2 then (t.1, 0, qN N p t.1 t.2.2 * N 3 / 100)
  else (t.1, t.2.1, if evN N p ((k : Int) + 1) t.1 t.2.1 (qN N p t.1 t.2.2) = 7 then 0 else qN N p t.1 t.2.2)
def lgN (N : Int → Int) (p y0 e0 : Int) : Nat → Int × Int × Int
  | 0 => (y0, e0, 1000000)
  | k + 1 => nxN N p k (lgN N p y0 e0 k)
def yN (N : Int → Int) (p y0 e0 : Int) (k : Nat) : Int := (lgN N p y0 e0 k).1
def eN (N : Int → Int) (p y0 e0 : Int) (k : Nat) : Int := (lgN N p y0 e0 k).2.1
def wN (N : Int → Int) (p y0 e0 : Int) (k : Nat) : Int := (lgN N p y0 e0 k).2.2
/-- the power behind leg k's own loss -/
def kN (N : Int → Int) (p y0 e0 : Int) (k : Nat) : Int := qN N p (yN N p y0 e0 k) (wN N p y0 e0 k)
/-- what happens behind leg k -/
def vE (N : Int → Int) (p y0 e0 : Int) (k : Nat) : Int := evN N p ((k : Int) + 1) (yN N p y0 e0 k) (eN N p y0 e0 k) (kN N p y0 e0 k)
/-- no end behind the first k legs -/
def onN (N : Int → Int) (p y0 e0 : Int) (k : Nat) : Prop := ∀ i : Nat, i < k → vE N p y0 e0 i < 3
def smN (f : Nat → Int) : Nat → Int
  | 0 => 0
  | k + 1 => smN f k + f k
def dpN (f : Nat → Int) : Nat → Int
  | 0 => -1
  | k + 1 => max (dpN f k) (f k)
/-- the end by what happened -/
def endE (v : Int) : Int := if v = 3 then 0 else if v = 4 then 1 else if v = 6 then 3 else 2
/-- n is the path's number of legs -/
def isN (N : Int → Int) (p y0 e0 : Int) (n : Nat) : Prop :=
  (¬ begN N y0 p ∧ n = 0) ∨ (begN N y0 p ∧ ∃ k : Nat, n = k + 1 ∧ k < 60 ∧ onN N p y0 e0 k ∧ 3 ≤ vE N p y0 e0 k)
/-- its end -/
def enN (N : Int → Int) (p y0 e0 : Int) (n : Nat) : Int := if n = 0 then 4 else endE (vE N p y0 e0 (n - 1))
/-- the power at its end -/
def pwN (N : Int → Int) (p y0 e0 : Int) (n : Nat) : Int := if n = 0 then 0 else wN N p y0 e0 n
theorem isN_one {N : Int → Int} {p y0 e0 : Int} {n m : Nat} (h : isN N p y0 e0 n) (g : isN N p y0 e0 m) : n = m := by
  rcases h with ⟨a, rfl⟩ | ⟨a, k, rfl, b, c, d⟩ <;> rcases g with ⟨a', rfl⟩ | ⟨a', k', rfl, b', c', d'⟩
  · rfl
  · exact absurd a' a
  · exact absurd a a'
  · rcases Nat.lt_trichotomy k k' with g | g | g
    · have := c' k g
      omega
    · rw [g]
    · have := c k' g
      omega
/-- where a ray is under way: its layer, its direction, its power -/
theorem on_bd {N : Int → Int} (h : NOk0 N) {p y0 e0 : Int} (p0 : 0 ≤ p) (hb : begN N y0 p) (he : e0 = 0 ∨ e0 = 1) : ∀ k : Nat, k ≤ 60 → onN N p y0 e0 k → (0 ≤ yN N p y0 e0 k ∧ yN N p y0 e0 k < N 0) ∧ p < nX N (yN N p y0 e0 k) ∧ (eN N p y0 e0 k = 0 ∨ eN N p y0 e0 k = 1) ∧ 0 ≤ wN N p y0 e0 k ∧ wN N p y0 e0 k ≤ 1000000
  | 0, _, _ => ⟨⟨hb.1, hb.2.1⟩, hb.2.2, he, by show (0 : Int) ≤ 1000000; decide, by show (1000000 : Int) ≤ 1000000; decide⟩
  | k + 1, hk, ho => by
    obtain ⟨y1, y2, y3, y4, y5⟩ := on_bd h p0 hb he k (by omega) (fun i hi => ho i (by omega))
    have hv : evN N p ((k : Int) + 1) (lgN N p y0 e0 k).1 (lgN N p y0 e0 k).2.1 (qN N p (lgN N p y0 e0 k).1 (lgN N p y0 e0 k).2.2) < 3 := ho k (by omega)
    have hq := (lost_bd h y1.1 y1.2 p0 y2 y4 y5).2.2
    unfold yN at y1 y2
    unfold eN at y3
    unfold wN at y4 y5
    unfold yN wN at hq
    unfold yN eN wN
    rw [lgN]
    generalize lgN N p y0 e0 k = t at y1 y2 y3 y4 y5 hv hq ⊢
    unfold nxN
    by_cases v0 : evN N p ((k : Int) + 1) t.1 t.2.1 (qN N p t.1 t.2.2) = 0
    · rw [if_pos v0]
      have z : p < ixN N (ahd t.1 t.2.1) ∧ 0 ≤ ahd t.1 t.2.1 ∧ ahd t.1 t.2.1 < N 0 := by
        unfold evN at v0
        split at v0
        · omega
        · split at v0
          · next c1 =>
            split at v0
            · next c2 => exact ⟨c1, c2⟩
            · split at v0 <;> omega
          · split at v0
            · omega
            · split at v0
              · split at v0 <;> omega
              · omega
      have zz := (pp_bd h y1.1 y1.2 z.2.1 z.2.2 hq.1 (by omega)).1
      refine ⟨z.2, ?_, y3, zz.1, Int.le_trans zz.2 (by omega)⟩
      have := z.1
      unfold ixN at this
      rw [if_neg (by omega), if_neg (by omega)] at this
      exact this
    · rw [if_neg v0]
      by_cases v1 : evN N p ((k : Int) + 1) t.1 t.2.1 (qN N p t.1 t.2.2) = 1
      · rw [if_pos v1]
        exact ⟨y1, y2, by show 1 - t.2.1 = 0 ∨ 1 - t.2.1 = 1; omega, hq.1, by show qN N p t.1 t.2.2 ≤ 1000000; omega⟩
      · rw [if_neg v1]
        by_cases v2 : evN N p ((k : Int) + 1) t.1 t.2.1 (qN N p t.1 t.2.2) = 2
        · rw [if_pos v2]
          have z : N 2 = 1 := by
            unfold evN at v2
            split at v2
            · omega
            · split at v2
              · split at v2
                · split at v2 <;> omega
                · split at v2 <;> omega
              · split at v2
                · omega
                · split at v2
                  · next c => exact c.1
                  · omega
          have hm := h.2.2.1
          have zz := (mi_bd (q := qN N p t.1 t.2.2) (b := N 3) hq.1 (by omega) (by omega) (by omega)).2
          exact ⟨y1, y2, Or.inl rfl, zz.1, by show qN N p t.1 t.2.2 * N 3 / 100 ≤ 1000000; omega⟩
        · rw [if_neg v2]
          have : evN N p ((k : Int) + 1) t.1 t.2.1 (qN N p t.1 t.2.2) < 0 := by omega
          exfalso
          unfold evN at this
          (repeat' split at this) <;> omega
theorem evN_60 (N : Int → Int) (p y e q k : Int) (hk : 60 ≤ k) : 3 ≤ evN N p k y e q := by
  unfold evN
  (repeat' split) <;> omega
theorem smN_bd {f : Nat → Int} {b : Int} : ∀ k : Nat, (∀ i, i < k → 0 ≤ f i ∧ f i ≤ b) → 0 ≤ smN f k ∧ smN f k ≤ b * k
  | 0, _ => by simp [smN]
  | k + 1, h => by
    have ih := smN_bd k (fun i hi => h i (by omega))
    have := h k (by omega)
    simp only [smN]
    rw [show b * ((k + 1 : Nat) : Int) = b * (k : Int) + b by rw [Int.natCast_add, Int.mul_add]; simp]
    omega
theorem lmax_eq {a b : Int} (ha : -9223372036854775808 ≤ a ∧ a < 9223372036854775808) (hb : -9223372036854775808 ≤ b ∧ b < 9223372036854775808) : Value.long (if iL b < iL a then iL a else iL b) = .long (iL (max a b)) := by
  by_cases h : b < a
  · rw [if_pos ((iL_lt hb ha).mpr h), show max a b = a by omega]
  · rw [if_neg (fun g => h ((iL_lt hb ha).mp g)), show max a b = b by omega]
