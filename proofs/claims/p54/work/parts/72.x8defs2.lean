/-! ===== what the reading calls answer ===== -/
def prpN (N : Int → Int) (w : Int) : Int := if w = 0 then N 0 else if w = 1 then N 1 else if w = 2 then N 2 else if w = 3 then N 3 else if w = 4 then N 4 else depN N (N 0).toNat
def layA (N : Int → Int) (y x : Int) : Int := if x = 3 then depN N y.toNat else N (5 + 3 * y + x)
def leS (N : Int → Int) (r : Int) : Int := smN (leK N (sP N r) (sY N r) (sD N r)) (gS N r)
def hS_ (N : Int → Int) (r : Int) : Int := shF N (sP N r) (sY N r) (sD N r)
def trS (N : Int → Int) (r : Int) : Int := smN (trK N (sP N r) (sY N r) (sD N r)) (gS N r)
def mrS (N : Int → Int) (r : Int) : Int := smN (mrK N (sP N r) (sY N r) (sD N r)) (gS N r)
def crS (N : Int → Int) (r : Int) : Int := smN (crK N (sP N r) (sY N r) (sD N r)) (gS N r)
def deS (N : Int → Int) (r : Int) : Int := dpN (yN N (sP N r) (sY N r) (sD N r)) (gS N r)
def pthA (N : Int → Int) (r w : Int) : Int := if w = 0 then (gS N r : Int) else if w = 1 then eS N r else if w = 2 then hS_ N r else if w = 3 then leS N r else if w = 4 then tS N r else if w = 5 then pS N r else if w = 6 then trS N r else if w = 7 then mrS N r else if w = 8 then crS N r else deS N r
theorem ResU.g {N : Int → Int} {p y e : Int} {rv : RU} (h : ResU N p y e rv) : rv.2.2.2.2.2.2.1 = smN (leK N p y e) (lgF N p y e) ∧ rv.2.2.2.2.2.2.2.2.2.1 = smN (trK N p y e) (lgF N p y e) ∧ rv.2.2.2.2.2.2.2.2.2.2.1 = smN (mrK N p y e) (lgF N p y e) ∧ rv.2.2.2.2.2.2.2.2.2.2.2.1 = smN (crK N p y e) (lgF N p y e) ∧ rv.2.2.2.2.2.2.2.2.2.2.2.2.1 = dpN (yN N p y e) (lgF N p y e) := ⟨h.2.1.2.2.1, h.2.1.2.2.2.2.1, h.2.1.2.2.2.2.2.1, h.2.1.2.2.2.2.2.2.1, h.2.1.2.2.2.2.2.2.2⟩
def critZ (N : Int → Int) (y z : Int) : Int := if N 2 = 1 ∧ N 0 ≤ z then -1 else if ixN N z < ixN N y then ixN N z else -1
def shiA (N : Int → Int) (y x p : Int) : Int := if enF N p y x = 4 then -1 else shF N p y x
/-- how many of the first n -/
def cntB (ok : Nat → Bool) : Nat → Int
  | 0 => 0
  | n + 1 => cntB ok n + if ok n = true then 1 else 0
theorem cntB_bd (ok : Nat → Bool) : ∀ n : Nat, 0 ≤ cntB ok n ∧ cntB ok n ≤ n
  | 0 => by simp [cntB]
  | n + 1 => by
    have h := cntB_bd ok n
    simp only [cntB]
    split <;> omega
