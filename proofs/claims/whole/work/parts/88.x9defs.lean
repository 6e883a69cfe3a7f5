/-! ===== the model's cells ===== -/
def gArrZ (K : KC) (n b : Nat) (F : Int → Int) : va_W := [aZ K b n F]
def gArrB (K : KC) (n b : Nat) (F : Int → Int) : va_W := [aB K b n F]
def gMdl (K : KC) (am : Nat → Nat) (th : Int) (rw : Nat) (lg mr en pw sl ly dn iz tz nx st tk vl ef ep hO hB ol rm oz : Int) : va_W :=
  [(am 0, .inr (9, [.int (iI th), .ref (am 1), .ref (am 2), .ref rw, .ref (am 3), .ref (am 4), .ref (am 5), .ref (am 6), .ref (am 7), .ref (am 8), .ref (am 9), .int (iI lg), .int (iI mr), .int (iI en), .long (iL pw), .int (iI sl), .int (iI ly), .int (iI dn), .ref (am 10), .int (iI iz), .int (iI tz), .int (iI nx), .int (iI st), .int (iI tk), .int (iI vl), .int (iI ef), .int (iI ep), .int (iI hO), .int (iI hB), .ref (am 11), .ref (am 12), .ref (am 13), .int (iI ol), .ref (am 14), .ref (am 15), .ref (am 16), .ref (am 17), .ref (am 18), .int (iI rm), .ref (am 19), .int (iI oz)]))]
def thr (a b c : Int) : Int := if a = 1 then (if b = 1 then (if c = 1 then 0 else 3) else 2) else 1
theorem bI_iff {P Q : Prop} [Decidable P] [Decidable Q] (h : P ↔ Q) : bI P = bI Q := by
  unfold bI
  by_cases p : P
  · rw [if_pos p, if_pos (h.mp p)]
  · rw [if_neg p, if_neg (fun q => p (h.mpr q))]
theorem bI1 {P : Prop} [Decidable P] (h : bI P = 1) : P := by
  unfold bI at h
  by_cases p : P
  · exact p
  · rw [if_neg p] at h; omega
theorem thr_0 {a b c : Int} (ha : a = 1) (hb : b = 1) (hc : c = 1) : thr a b c = 0 := by unfold thr; rw [if_pos ha, if_pos hb, if_pos hc]
theorem thr_1 {a b c : Int} (ha : ¬ a = 1) : thr a b c = 1 := if_neg ha
theorem thr_2 {a b c : Int} (ha : a = 1) (hb : ¬ b = 1) : thr a b c = 2 := by unfold thr; rw [if_pos ha, if_neg hb]
theorem thr_3 {a b c : Int} (ha : a = 1) (hb : b = 1) (hc : ¬ c = 1) : thr a b c = 3 := by unfold thr; rw [if_pos ha, if_pos hb, if_neg hc]
theorem bIn {P : Prop} [Decidable P] (h : ¬ P) : ¬ bI P = 1 := fun z => h (bI1 z)
/-- what is ahead as the model has it: none at a mirror -/
def ihN (N : Int → Int) (y e : Int) : Int := if N 2 = 1 ∧ N 0 ≤ ahd y e then -1 else ixN N (ahd y e)
/-- what happens behind a leg, apart from its number -/
def wbN (N : Int → Int) (p y e q : Int) : Int := if q = 0 then 5 else if ihN N y e = -1 then 2 else if ihN N y e ≤ p then 1 else if 0 ≤ ahd y e ∧ ahd y e < N 0 then 0 else if e = 1 then 4 else 3
def ebN (lg w : Int) : Int := if w = 3 then 0 else if w = 4 then 1 else if w = 5 then 2 else if lg = 60 then 3 else -1
