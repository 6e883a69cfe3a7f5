/-! ===== a whole text ===== -/
def eN0 : Int → Int := fun j => if j = 1 then 1000 else if j = 3 then 1000 else 0
theorem eN0_sc (LF SF : Int → Int) : ScOk eN0 1000 0 1000 0 LF 0 SF := ⟨rfl, rfl, rfl, rfl, rfl, fun r k a1 a2 _ _ => by omega, fun r k a1 a2 _ _ => by omega⟩
theorem eN0_ok : NOk0 eN0 := ⟨by decide, by decide, by decide, by decide, fun r h0 h1 => by have : eN0 0 = 0 := rfl; omega, fun r h0 h1 => by have : eN0 4 = 0 := rfl; omega⟩
theorem prs_no {F : Int → Int} {n i : Int} {N : Int → Int} {ho hb : Int} {f : Nat} {x : PE (Int → Int)} {a b : Int} (hx : x = prsE F n (f + 1) i N ho hb) (h : ¬ okE (stmE F n i N ho hb)) (he : ErI (stmE F n i N ho hb) a b) : ¬ okE x ∧ ErI x a b := by
  rw [hx, prsE]
  exact pb_no h he
theorem prs_end {F : Int → Int} {n i : Int} {N : Int → Int} {ho hb : Int} {f : Nat} {x : PE (Int → Int)} {t : PT} (hx : x = prsE F n (f + 1) i N ho hb) (h : stmE F n i N ho hb = .inr t) (hk : tkK F n t.1 = 0) : x = .inr t.2.1 := by
  rw [hx, prsE, pb_inr h, if_pos hk]
theorem prs_next {F : Int → Int} {n i : Int} {N : Int → Int} {ho hb : Int} {f : Nat} {x : PE (Int → Int)} {t : PT} (hx : x = prsE F n (f + 1) i N ho hb) (h : stmE F n i N ho hb = .inr t) (hk : ¬ tkK F n t.1 = 0) : x = prsE F n f t.1 t.2.1 t.2.2.1 t.2.2.2 := by
  rw [hx, prsE, pb_inr h, if_neg hk]
/-- what stands behind a text without an error -/
def PrsR (x : PE (Int → Int)) (ou mi bo ln : Int) (LF : Int → Int) (sn : Int) (SF : Int → Int) : Prop := ∀ N, x = .inr N → ScOk N ou mi bo ln LF sn SF ∧ NOk0 N
theorem PrsR.no {x : PE (Int → Int)} {ou mi bo ln : Int} {LF : Int → Int} {sn : Int} {SF : Int → Int} (h : ¬ okE x) : PrsR x ou mi bo ln LF sn SF := fun N hN => by
  rw [hN] at h
  exact absurd rfl h
theorem PrsR.yes {x : PE (Int → Int)} {ou mi bo ln : Int} {LF : Int → Int} {sn : Int} {SF : Int → Int} {N : Int → Int} (hx : x = .inr N) (h : ScOk N ou mi bo ln LF sn SF ∧ NOk0 N) : PrsR x ou mi bo ln LF sn SF := fun N' hN => by
  rw [hx] at hN
  cases hN
  exact h
def prsX (F : Int → Int) (n : Int) : PE (Int → Int) := prsE F n 401 0 eN0 0 0
/-! a text without an error tells a layer -/
theorem pb_ok {α β : Type} {x : PE α} {f : α → PE β} {b : β} (h : pb x f = .inr b) : ∃ a, x = .inr a ∧ f a = .inr b := by
  cases x with
  | inl e => cases h
  | inr a => exact ⟨a, rfl, h⟩
theorem stmE_ge {F : Int → Int} {n i : Int} {N : Int → Int} {ho hb : Int} {t : PT} (h0 : 0 ≤ N 0) (h4 : 0 ≤ N 4) (h : stmE F n i N ho hb = .inr t) : N 0 ≤ t.2.1 0 ∧ 1 ≤ t.2.1 0 := by
  unfold stmE at h
  by_cases q : isWd F n i wLayer
  · rw [if_pos q] at h
    have hl : ∃ a b c : Int, t.2.1 = addLN N a b c := by
      by_cases q6 : 10 ≤ N 0
      · rw [layE_6 q6] at h; cases h
      · rw [layE_n q6] at h
        obtain ⟨a, -, h⟩ := pb_ok h
        obtain ⟨u, -, h⟩ := pb_ok h
        obtain ⟨b, -, h⟩ := pb_ok h
        by_cases qw : isWd F n (tkE F n (tkE F n (tkE F n (tkE F n i)))) wLoss
        · rw [if_pos qw] at h
          obtain ⟨c, -, h⟩ := pb_ok h
          obtain ⟨u2, -, h⟩ := pb_ok h
          cases h
          exact ⟨a, b, c, rfl⟩
        · rw [if_neg qw] at h
          obtain ⟨u2, -, h⟩ := pb_ok h
          cases h
          exact ⟨a, b, 0, rfl⟩
    obtain ⟨a, b, c, e⟩ := hl
    rw [e, addLN_0 _ _ _ _ h0]
    omega
  · rw [if_neg q] at h
    by_cases q0 : N 0 = 0
    · rw [if_pos q0] at h; cases h
    · rw [if_neg q0] at h
      have hs : t.2.1 0 = N 0 := by
        by_cases q1 : isWd F n i wOutside
        · rw [if_pos q1] at h
          by_cases q3 : ho = 1
          · rw [outE_3 q3] at h; cases h
          · rw [outE_n q3] at h
            obtain ⟨a, -, h⟩ := pb_ok h
            obtain ⟨u, -, h⟩ := pb_ok h
            cases h
            exact upI_n N a (show (0 : Int) ≠ 1 by decide)
        · rw [if_neg q1] at h
          by_cases q2 : isWd F n i wBottom
          · rw [if_pos q2] at h
            by_cases q3 : hb = 1
            · rw [botE_3 q3] at h; cases h
            · by_cases qm : isWd F n (tkE F n i) wMirror
              · rw [botE_m q3 qm] at h
                obtain ⟨a, -, h⟩ := pb_ok h
                obtain ⟨u, -, h⟩ := pb_ok h
                cases h
                exact (upI_n _ a (show (0 : Int) ≠ 3 by decide)).trans (upI_n N 1 (show (0 : Int) ≠ 2 by decide))
              · by_cases qp : isWd F n (tkE F n i) wOpen
                · rw [botE_o q3 qm qp] at h
                  obtain ⟨a, -, h⟩ := pb_ok h
                  obtain ⟨u, -, h⟩ := pb_ok h
                  cases h
                  exact (upI_n _ a (show (0 : Int) ≠ 3 by decide)).trans (upI_n N 0 (show (0 : Int) ≠ 2 by decide))
                · rw [botE_x q3 qm qp] at h; cases h
          · rw [if_neg q2] at h
            by_cases q4 : isWd F n i wShot
            · rw [if_pos q4] at h
              by_cases q6 : 20 ≤ N 4
              · rw [shoE_6 q6] at h; cases h
              · rw [shoE_n q6] at h
                obtain ⟨y, -, h⟩ := pb_ok h
                by_cases q7 : N 0 ≤ y
                · rw [if_pos q7] at h; cases h
                · rw [if_neg q7] at h
                  by_cases q8 : isWd F n (tkE F n (tkE F n i)) wDown ∨ isWd F n (tkE F n (tkE F n i)) wUp
                  · rw [if_pos q8] at h
                    obtain ⟨p, -, h⟩ := pb_ok h
                    by_cases q9 : N (5 + 3 * y + 0) ≤ p
                    · rw [if_pos q9] at h; cases h
                    · rw [if_neg q9] at h
                      obtain ⟨u, -, h⟩ := pb_ok h
                      cases h
                      exact addSN_o _ _ _ _ h4 (by decide) (by decide)
                  · rw [if_neg q8] at h; cases h
            · rw [if_neg q4] at h; cases h
      omega
