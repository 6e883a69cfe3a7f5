/-! ===== a whole text ===== -/
def eN0 : Int → Int := fun j => if j = 1 then 1000 else if j = 3 then 1000 else 0
theorem eN0_sc (LF SF : Int → Int) : ScOk eN0 1000 0 1000 0 LF 0 SF := ⟨rfl, rfl, rfl, rfl, rfl, fun r k a1 a2 _ _ => by omega, fun r k a1 a2 _ _ => by omega⟩
theorem eN0_ok : NOk0 eN0 := ⟨by decide, by decide, by decide, by decide, fun r h0 h1 => by have : eN0 0 = 0 := rfl; omega, fun r h0 h1 => by have : eN0 4 = 0 := rfl; omega⟩
theorem prs_no {F : Int → Int} {n i : Int} {N : Int → Int} {ho hb : Int} {f : Nat} {x : PE (Int → Int)} {a b : Int} (hx : x = prsE F n (f + 1) i N ho hb) (h : ¬ okE (stmE F n i N ho hb)) (he : ErI (stmE F n i N ho hb) a b) : ¬ okE x ∧ ErI x a b := by
  rw [hx, prsE]
  exact pb_no h he
theorem prs_end {F : Int → Int} {n i : Int} {N : Int → Int} {ho hb : Int} {f : Nat} {x : PE (Int → Int)} {t : PT} (hx : x = prsE F n (f + 1) i N ho hb) (h : stmE F n i N ho hb = .inr t) (hk : tkK F n t.1 = 0) : x = .inr t.2.1 := by
  rw [hx, prsE, pb_inr h, if_pos hk]
theorem prs_next {F : Int → Int} {n i : Int} {N : Int → Int} {ho hb : Int} {f : Nat} {x : PE (Int → Int)} {t : PT} (hx : x = prsE F n (f + 1) i N ho hb) (h : stmE F n i N ho hb = .inr t) (hk : ¬ tkK F n t.1 = 0) : x = prsE F n f t.1 t.2.1 t.2.2.1 t.2.2.2 := by
  rw [hx, prsE, pb_inr h, if_neg hk]
/-- what stands behind a text without an error -/
def PrsR (x : PE (Int → Int)) (ou mi bo ln : Int) (LF : Int → Int) (sn : Int) (SF : Int → Int) : Prop := ∀ N, x = .inr N → ScOk N ou mi bo ln LF sn SF ∧ NOk0 N
theorem PrsR.no {x : PE (Int → Int)} {ou mi bo ln : Int} {LF : Int → Int} {sn : Int} {SF : Int → Int} (h : ¬ okE x) : PrsR x ou mi bo ln LF sn SF := fun N hN => by
  rw [hN] at h
  exact absurd rfl h
theorem PrsR.yes {x : PE (Int → Int)} {ou mi bo ln : Int} {LF : Int → Int} {sn : Int} {SF : Int → Int} {N : Int → Int} (hx : x = .inr N) (h : ScOk N ou mi bo ln LF sn SF ∧ NOk0 N) : PrsR x ou mi bo ln LF sn SF := fun N' hN => by
  rw [hx] at hN
  cases hN
  exact h
def prsX (F : Int → Int) (n : Int) : PE (Int → Int) := prsE F n 401 0 eN0 0 0
/-! a text without an error tells a layer -/
