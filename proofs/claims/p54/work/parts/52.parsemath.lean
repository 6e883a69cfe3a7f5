/-! ===== a text's tokens and statements, as mathematics ===== -/
abbrev isBl (c : Int) : Prop := c = 32 ∨ c = 10
abbrev isLe (c : Int) : Prop := 97 ≤ c ∧ c ≤ 122
abbrev isDi (c : Int) : Prop := 48 ≤ c ∧ c ≤ 57
/-- k = 0: blanks, 1: letters, else digits -/
abbrev isCl (k c : Int) : Prop := if k = 0 then isBl c else if k = 1 then isLe c else isDi c
def skF (F : Int → Int) (n k : Int) : Nat → Int → Int
  | 0, i => i
  | f + 1, i => if i < n ∧ isCl k (bget F n i) then skF F n k f (i + 1) else i
def skp (F : Int → Int) (n k i : Int) : Int := skF F n k (n - i).toNat i
theorem skp_t {F : Int → Int} {n k i : Int} (h : i < n) (h1 : isCl k (bget F n i)) : skp F n k i = skp F n k (i + 1) := by
  unfold skp
  rw [show (n - i).toNat = (n - (i + 1)).toNat + 1 by omega, skF, if_pos ⟨h, h1⟩]
theorem skp_f {F : Int → Int} {n k i : Int} (h : ¬ (i < n ∧ isCl k (bget F n i))) : skp F n k i = i := by
  unfold skp
  cases (n - i).toNat with
  | zero => rfl
  | succ f => rw [skF, if_neg h]
theorem skF_bd (F : Int → Int) (n k : Int) : ∀ (f : Nat) (i : Int), i ≤ skF F n k f i ∧ (i ≤ n → skF F n k f i ≤ n)
  | 0, i => ⟨Int.le_refl _, fun h => h⟩
  | f + 1, i => by
    unfold skF
    by_cases h : i < n ∧ isCl k (bget F n i)
    · rw [if_pos h]
      have := skF_bd F n k f (i + 1)
      exact ⟨by omega, fun _ => this.2 (by omega)⟩
    · rw [if_neg h]
      exact ⟨Int.le_refl _, fun h => h⟩
theorem skp_bd (F : Int → Int) (n k i : Int) : i ≤ skp F n k i ∧ (i ≤ n → skp F n k i ≤ n) := skF_bd F n k _ i
/-- a number's value, capped -/
def nmF (F : Int → Int) (n cap : Int) : Nat → Int → Int → Int
  | 0, _, v => v
  | f + 1, i, v => if i < n ∧ isDi (bget F n i) then nmF F n cap f (i + 1) (min cap (v * 10 + bget F n i - 48)) else v
def nmb (F : Int → Int) (n cap i v : Int) : Int := nmF F n cap (n - i).toNat i v
theorem nmb_t {F : Int → Int} {n cap i v : Int} (h : i < n) (h1 : isDi (bget F n i)) : nmb F n cap i v = nmb F n cap (i + 1) (min cap (v * 10 + bget F n i - 48)) := by
  unfold nmb
  rw [show (n - i).toNat = (n - (i + 1)).toNat + 1 by omega, nmF, if_pos ⟨h, h1⟩]
theorem nmb_f {F : Int → Int} {n cap i v : Int} (h : ¬ (i < n ∧ isDi (bget F n i))) : nmb F n cap i v = v := by
  unfold nmb
  cases (n - i).toNat with
  | zero => rfl
  | succ f => rw [nmF, if_neg h]
theorem nmF_bd (F : Int → Int) (n cap : Int) : ∀ (f : Nat) (i v : Int), 0 ≤ cap → 0 ≤ v ∧ v ≤ cap → 0 ≤ nmF F n cap f i v ∧ nmF F n cap f i v ≤ cap
  | 0, _, _, _, h => h
  | f + 1, i, v, hc, h => by
    unfold nmF
    by_cases g : i < n ∧ isDi (bget F n i)
    · rw [if_pos g]
      exact nmF_bd F n cap f _ _ hc (by have := g.2; omega)
    · rw [if_neg g]
      exact h
/-! the token that is read from place i on -/
def tkS (F : Int → Int) (n i : Int) : Int := skp F n 0 i
def tkC (F : Int → Int) (n i : Int) : Int := bget F n (tkS F n i)
def tkK (F : Int → Int) (n i : Int) : Int := if tkC F n i = -1 then 0 else if isLe (tkC F n i) then 1 else if isDi (tkC F n i) then 2 else 3
def tkE (F : Int → Int) (n i : Int) : Int := if tkC F n i = -1 then tkS F n i else if isLe (tkC F n i) then skp F n 1 (tkS F n i) else if isDi (tkC F n i) then skp F n 2 (tkS F n i) else tkS F n i + 1
def tkV (F : Int → Int) (n i : Int) : Int := nmb F n 1000000 (tkS F n i) 0
theorem bget_bd (F : Int → Int) (n i : Int) : -1 ≤ bget F n i ∧ bget F n i ≤ 255 := by
  unfold bget
  split <;> omega
theorem tk_bd (F : Int → Int) {n i : Int} (h0 : 0 ≤ i) (h : i ≤ n) : (i ≤ tkS F n i ∧ tkS F n i ≤ tkE F n i ∧ tkE F n i ≤ n) ∧ (tkK F n i ≠ 0 → tkS F n i < tkE F n i) ∧ (0 ≤ tkK F n i ∧ tkK F n i ≤ 3) ∧ 0 ≤ tkV F n i ∧ tkV F n i ≤ 1000000 := by
  have a := skp_bd F n 0 i
  have a2 := a.2 h
  have b1 := skp_bd F n 1 (tkS F n i)
  have b2 := skp_bd F n 2 (tkS F n i)
  have hs : tkS F n i = skp F n 0 i := rfl
  have hv : 0 ≤ tkV F n i ∧ tkV F n i ≤ 1000000 := nmF_bd F n 1000000 _ _ _ (by decide) (by decide)
  have hin : tkC F n i ≠ -1 → tkS F n i < n := fun q => by
    rcases Int.lt_or_le (tkS F n i) n with z | z
    · exact z
    · exact absurd (bget_out (by omega)) q
  refine ⟨⟨by omega, ?_, ?_⟩, ?_, ?_, hv⟩
  · unfold tkE
    (repeat' split) <;> omega
  · unfold tkE
    split
    · omega
    · next q =>
      have := hin q
      (repeat' split) <;> omega
  · unfold tkK tkE
    by_cases q : tkC F n i = -1
    · rw [if_pos q]; intro z; exact absurd rfl z
    · have hlt := hin q
      rw [if_neg q, if_neg q]
      intro _
      by_cases q1 : isLe (tkC F n i)
      · rw [if_pos q1]
        have e := skp_t (F := F) (n := n) (k := 1) (i := tkS F n i) hlt (by simpa [isCl, tkC] using q1)
        have := skp_bd F n 1 (tkS F n i + 1)
        omega
      · rw [if_neg q1]
        by_cases q2 : isDi (tkC F n i)
        · rw [if_pos q2]
          have e := skp_t (F := F) (n := n) (k := 2) (i := tkS F n i) hlt (by simpa [isCl, tkC] using q2)
          have := skp_bd F n 2 (tkS F n i + 1)
          omega
        · rw [if_neg q2]; omega
  · unfold tkK
    (repeat' split) <;> omega
/-- the token is this word -/
def wdB (F : Int → Int) (n i : Int) (w : List Int) : Bool := decide (tkK F n i = 1) && (decide (tkE F n i - tkS F n i = (w.length : Int)) && (List.range w.length).all fun j => decide (bget F n (tkS F n i + j) = w.getD j 0))
abbrev isWd (F : Int → Int) (n i : Int) (w : List Int) : Prop := wdB F n i w = true
theorem isWd_iff {F : Int → Int} {n i : Int} {w : List Int} : isWd F n i w ↔ tkK F n i = 1 ∧ tkE F n i - tkS F n i = (w.length : Int) ∧ ∀ j : Nat, j < w.length → bget F n (tkS F n i + j) = w.getD j 0 := by
  simp [isWd, wdB]
/-! statements: an error's code and place, or the token behind, the scene's numbers, what has been told -/
abbrev PE (α : Type) : Type := (Int × Int) ⊕ α
def fl {α : Type} (F : Int → Int) (n i c : Int) : PE α := .inl (c, tkS F n i)
def pb {α β : Type} (x : PE α) (f : α → PE β) : PE β := match x with
  | .inl e => .inl e
  | .inr a => f a
def numE (F : Int → Int) (n i lo hi : Int) : PE Int := if tkK F n i ≠ 2 then fl F n i 1 else if lo ≤ tkV F n i ∧ tkV F n i ≤ hi then .inr (tkV F n i) else fl F n i 2
def wdE (F : Int → Int) (n i : Int) (w : List Int) : PE Unit := if isWd F n i w then .inr () else fl F n i 1
def smE (F : Int → Int) (n i : Int) : PE Unit := if tkK F n i = 3 ∧ tkC F n i = 59 then .inr () else fl F n i 1
def wLayer : List Int := [108, 97, 121, 101, 114]
def wThick : List Int := [116, 104, 105, 99, 107]
def wLoss : List Int := [108, 111, 115, 115]
def wOutside : List Int := [111, 117, 116, 115, 105, 100, 101]
def wBottom : List Int := [98, 111, 116, 116, 111, 109]
def wMirror : List Int := [109, 105, 114, 114, 111, 114]
def wOpen : List Int := [111, 112, 101, 110]
def wShot : List Int := [115, 104, 111, 116]
def wDown : List Int := [100, 111, 119, 110]
def wUp : List Int := [117, 112]
/-- a layer more, at the end; a shot more -/
def addLN (N : Int → Int) (a b c : Int) : Int → Int := upI (upI (upI (upI N 0 (N 0 + 1)) (5 + 3 * N 0 + 0) a) (5 + 3 * N 0 + 1) b) (5 + 3 * N 0 + 2) c
def addSN (N : Int → Int) (a b c : Int) : Int → Int := upI (upI (upI (upI N 4 (N 4 + 1)) (35 + 3 * N 4 + 0) a) (35 + 3 * N 4 + 1) b) (35 + 3 * N 4 + 2) c
abbrev PT : Type := Int × (Int → Int) × Int × Int
def layE (F : Int → Int) (n i : Int) (N : Int → Int) (ho hb : Int) : PE PT :=
  if 10 ≤ N 0 then fl F n i 6 else
  pb (numE F n (tkE F n i) 1000 4000) fun a =>
  pb (wdE F n (tkE F n (tkE F n i)) wThick) fun _ =>
  pb (numE F n (tkE F n (tkE F n (tkE F n i))) 1 999) fun b =>
  let i4 := tkE F n (tkE F n (tkE F n (tkE F n i)))
  if isWd F n i4 wLoss then pb (numE F n (tkE F n i4) 0 99) fun c => pb (smE F n (tkE F n (tkE F n i4))) fun _ => .inr (tkE F n (tkE F n (tkE F n i4)), addLN N a b c, ho, hb)
  else pb (smE F n i4) fun _ => .inr (tkE F n i4, addLN N a b 0, ho, hb)
def outE (F : Int → Int) (n i : Int) (N : Int → Int) (ho hb : Int) : PE PT :=
  if ho = 1 then fl F n i 3 else
  pb (numE F n (tkE F n i) 1000 4000) fun a => pb (smE F n (tkE F n (tkE F n i))) fun _ => .inr (tkE F n (tkE F n (tkE F n i)), upI N 1 a, 1, hb)
def botE (F : Int → Int) (n i : Int) (N : Int → Int) (ho hb : Int) : PE PT :=
  if hb = 1 then fl F n i 3 else
  let i1 := tkE F n i
  if isWd F n i1 wMirror then pb (numE F n (tkE F n i1) 0 100) fun a => pb (smE F n (tkE F n (tkE F n i1))) fun _ => .inr (tkE F n (tkE F n (tkE F n i1)), upI (upI N 2 1) 3 a, ho, 1)
  else if isWd F n i1 wOpen then pb (numE F n (tkE F n i1) 1000 4000) fun a => pb (smE F n (tkE F n (tkE F n i1))) fun _ => .inr (tkE F n (tkE F n (tkE F n i1)), upI (upI N 2 0) 3 a, ho, 1)
  else fl F n i1 1
def shoE (F : Int → Int) (n i : Int) (N : Int → Int) (ho hb : Int) : PE PT :=
  if 20 ≤ N 4 then fl F n i 6 else
  let i1 := tkE F n i
  pb (numE F n i1 0 9) fun y =>
  if N 0 ≤ y then fl F n i1 4 else
  let i2 := tkE F n i1
  if isWd F n i2 wDown ∨ isWd F n i2 wUp then
    let i3 := tkE F n i2
    pb (numE F n i3 0 3999) fun p =>
    if N (5 + 3 * y + 0) ≤ p then fl F n i3 5 else
    pb (smE F n (tkE F n i3)) fun _ => .inr (tkE F n (tkE F n i3), addSN N y (bI (isWd F n i2 wDown)) p, ho, hb)
  else fl F n i2 1
def stmE (F : Int → Int) (n i : Int) (N : Int → Int) (ho hb : Int) : PE PT :=
  if isWd F n i wLayer then layE F n i N ho hb
  else if N 0 = 0 then fl F n i 1
  else if isWd F n i wOutside then outE F n i N ho hb
  else if isWd F n i wBottom then botE F n i N ho hb
  else if isWd F n i wShot then shoE F n i N ho hb
  else fl F n i 1
def prsE (F : Int → Int) (n : Int) : Nat → Int → (Int → Int) → Int → Int → PE (Int → Int)
  | 0, _, N, _, _ => .inr N
  | f + 1, i, N, ho, hb => pb (stmE F n i N ho hb) fun t => if tkK F n t.1 = 0 then .inr t.2.1 else prsE F n f t.1 t.2.1 t.2.2.1 t.2.2.2
