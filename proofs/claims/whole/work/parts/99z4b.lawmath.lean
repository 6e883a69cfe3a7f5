/-! ===== mathematics of the law: a text without an error is a scene; errors are told once; bytes of a text ===== -/
theorem numE_in {F : Int → Int} {n i lo hi a : Int} (h : numE F n i lo hi = .inr a) : lo ≤ a ∧ a ≤ hi := by
  unfold numE at h
  by_cases q : tkK F n i ≠ 2
  · rw [if_pos q] at h; cases h
  · rw [if_neg q] at h
    by_cases q2 : lo ≤ tkV F n i ∧ tkV F n i ≤ hi
    · rw [if_pos q2] at h
      cases h
      exact q2
    · rw [if_neg q2] at h; cases h
theorem stmE_ok {F : Int → Int} {n i : Int} {N : Int → Int} {ho hb : Int} {t : PT} (hN : NOk0 N) (h : stmE F n i N ho hb = .inr t) : NOk0 t.2.1 := by
  have h0 := hN.1
  have h4 := hN.2.2.2.1
  unfold stmE at h
  by_cases q : isWd F n i wLayer
  · rw [if_pos q] at h
    by_cases q6 : 10 ≤ N 0
    · rw [layE_6 q6] at h; cases h
    · rw [layE_n q6] at h
      obtain ⟨a, ha, h⟩ := pb_ok h
      obtain ⟨u, -, h⟩ := pb_ok h
      obtain ⟨b, hb9, h⟩ := pb_ok h
      by_cases qw : isWd F n (tkE F n (tkE F n (tkE F n (tkE F n i)))) wLoss
      · rw [if_pos qw] at h
        obtain ⟨c, hc, h⟩ := pb_ok h
        obtain ⟨u2, -, h⟩ := pb_ok h
        cases h
        exact hN.addL (by omega) (numE_in ha) (numE_in hb9) (numE_in hc)
      · rw [if_neg qw] at h
        obtain ⟨u2, -, h⟩ := pb_ok h
        cases h
        exact hN.addL (by omega) (numE_in ha) (numE_in hb9) (by decide)
  · rw [if_neg q] at h
    by_cases q0 : N 0 = 0
    · rw [if_pos q0] at h; cases h
    · rw [if_neg q0] at h
      by_cases q1 : isWd F n i wOutside
      · rw [if_pos q1] at h
        by_cases q3 : ho = 1
        · rw [outE_3 q3] at h; cases h
        · rw [outE_n q3] at h
          obtain ⟨a, ha, h⟩ := pb_ok h
          obtain ⟨u, -, h⟩ := pb_ok h
          cases h
          exact hN.up1 (numE_in ha)
      · rw [if_neg q1] at h
        by_cases q2 : isWd F n i wBottom
        · rw [if_pos q2] at h
          by_cases q3 : hb = 1
          · rw [botE_3 q3] at h; cases h
          · by_cases qm : isWd F n (tkE F n i) wMirror
            · rw [botE_m q3 qm] at h
              obtain ⟨a, ha, h⟩ := pb_ok h
              obtain ⟨u, -, h⟩ := pb_ok h
              cases h
              exact hN.up23 (Or.inr ⟨rfl, numE_in ha⟩)
            · by_cases qp : isWd F n (tkE F n i) wOpen
              · rw [botE_o q3 qm qp] at h
                obtain ⟨a, ha, h⟩ := pb_ok h
                obtain ⟨u, -, h⟩ := pb_ok h
                cases h
                exact hN.up23 (Or.inl ⟨rfl, numE_in ha⟩)
              · rw [botE_x q3 qm qp] at h; cases h
        · rw [if_neg q2] at h
          by_cases q4 : isWd F n i wShot
          · rw [if_pos q4] at h
            by_cases q6 : 20 ≤ N 4
            · rw [shoE_6 q6] at h; cases h
            · rw [shoE_n q6] at h
              obtain ⟨y, hy, h⟩ := pb_ok h
              by_cases q7 : N 0 ≤ y
              · rw [if_pos q7] at h; cases h
              · rw [if_neg q7] at h
                by_cases q8 : isWd F n (tkE F n (tkE F n i)) wDown ∨ isWd F n (tkE F n (tkE F n i)) wUp
                · rw [if_pos q8] at h
                  obtain ⟨p, hp, h⟩ := pb_ok h
                  by_cases q9 : N (5 + 3 * y + 0) ≤ p
                  · rw [if_pos q9] at h; cases h
                  · rw [if_neg q9] at h
                    obtain ⟨u, -, h⟩ := pb_ok h
                    cases h
                    exact hN.addS (by omega) (numE_in hy) ((bI_01 _)) (numE_in hp)
                · rw [if_neg q8] at h; cases h
          · rw [if_neg q4] at h; cases h
theorem prsE_ok {F : Int → Int} {n : Int} : ∀ (f : Nat) (i : Int) (N : Int → Int) (ho hb : Int) (M : Int → Int), NOk0 N → (1 ≤ N 0 ∨ 0 < f) → prsE F n f i N ho hb = .inr M → NOk M
  | 0, i, N, ho, hb, M, hN, h1, h => by
    cases h
    exact ⟨hN, h1.elim id (fun q => absurd q (Nat.lt_irrefl _))⟩
  | f + 1, i, N, ho, hb, M, hN, h1, h => by
    rw [prsE] at h
    obtain ⟨t, ht, h⟩ := pb_ok h
    have g := stmE_ge hN.1.1 hN.2.2.2.1.1 ht
    have g2 := stmE_ok hN ht
    by_cases q : tkK F n t.1 = 0
    · rw [if_pos q] at h
      cases h
      exact ⟨g2, g.2⟩
    · rw [if_neg q] at h
      exact prsE_ok f _ _ _ _ M g2 (Or.inl g.2) h
theorem prsX_ok {F : Int → Int} {n : Int} {M : Int → Int} (h : prsX F n = .inr M) : NOk M := prsE_ok 401 0 eN0 0 0 M eN0_ok (Or.inr (by decide)) h
theorem erI_one {α : Type} {x : PE α} {a b c d : Int} (h : ErI x a b) (g : ErI x c d) : a = c ∧ b = d := by
  cases x with
  | inl e => exact ⟨h.1.trans g.1.symm, h.2.trans g.2.symm⟩
  | inr a => exact ⟨h.1.trans g.1.symm, h.2.trans g.2.symm⟩
/-- bytes that need no sign -/
def ascL (tx : List Int) : Prop := ∀ c ∈ tx, 0 ≤ c ∧ c ≤ 127
theorem ascL.app {a b : List Int} (h : ascL a) (g : ascL b) : ascL (a ++ b) := fun c hc => (List.mem_append.mp hc).elim (h c) (g c)
theorem ascL.nil : ascL [] := fun c hc => absurd hc List.not_mem_nil
theorem ascL.one {c : Int} (h : 0 ≤ c ∧ c ≤ 127) : ascL [c] := fun d hd => by rw [List.mem_singleton.mp hd]; exact h
theorem ascL_dg (z : Int) : ascL (dgL z) := fun c hc => by
  unfold dgL at hc
  obtain ⟨k, -, rfl⟩ := List.mem_map.mp hc
  unfold dgt
  (repeat' split) <;> omega
theorem ascL_ly (N : Int → Int) : ∀ k : Nat, ascL (lyT N k)
  | 0 => ascL.nil
  | k + 1 => by
    unfold lyT
    refine (ascL_ly N k).app ((((ascL.app ?_ (ascL_dg _)).app (ascL.one (by decide)))).app (ascL_dg _))
    split
    · exact ascL.one (by decide)
    · exact ascL.nil
theorem ascL_lay (N : Int → Int) : ascL (layT N) := by
  unfold layT
  refine ((ascL_ly N _).app (ascL.one ?_)).app (ascL_dg _)
  split <;> decide
theorem ascL_lg (N : Int → Int) (r : Int) : ∀ k : Nat, ascL (lgT N r k)
  | 0 => ascL.nil
  | k + 1 => by
    unfold lgT
    refine (ascL_lg N r k).app (ascL.app (ascL.one ?_) (ascL_dg _))
    split <;> decide
theorem ascL_pth (N : Int → Int) (r : Int) : ascL (pthT N r) := by
  unfold pthT
  refine (ascL_lg N r _).app (ascL.one ?_)
  generalize (eS N r).toNat = k
  match k with
  | 0 => decide
  | 1 => decide
  | 2 => decide
  | 3 => decide
  | 4 => decide
  | k + 5 => exact (by decide : (0 : Int) ≤ 0 ∧ (0 : Int) ≤ 127)
/-- both outputs hold the same text -/
def OutB (PF OF : Int → Int) (oz : Int) : Prop := ∃ tx, OutI PF oz tx ∧ OutI OF oz tx ∧ ascL tx ∧ (0 ≤ oz ∧ oz ≤ 200)
theorem OutB.bd {PF OF : Int → Int} {oz : Int} (h : OutB PF OF oz) : 0 ≤ oz ∧ oz ≤ 200 := h.elim fun _ q => q.2.2.2
theorem OutB.zero (PF OF : Int → Int) : OutB PF OF 0 := ⟨[], OutI.nil _, OutI.nil _, ascL.nil, by decide⟩
theorem OutB.at {PF OF : Int → Int} {oz x : Int} (h : OutB PF OF oz) (hx : 0 ≤ x ∧ x < oz) : PF x = OF x ∧ 0 ≤ OF x ∧ OF x ≤ 127 := by
  obtain ⟨tx, ⟨p1, p2⟩, ⟨o1, o2⟩, ha, -⟩ := h
  have hk : x.toNat < tx.length := by omega
  have e1 := p2 x.toNat hk
  have e2 := o2 x.toNat hk
  rw [Int.toNat_of_nonneg hx.1] at e1 e2
  refine ⟨e1.trans e2.symm, ?_⟩
  rw [e2, List.getD_eq_getElem?_getD, List.getElem?_eq_getElem hk, Option.getD_some]
  exact ha _ (List.getElem_mem hk)
theorem OutB.byte {PF OF : Int → Int} {oz x : Int} (h : OutB PF OF oz) (hx : 0 ≤ x ∧ x < oz) : bB (OF x) = iI (OF x) ∧ PF x % 256 = OF x := by
  obtain ⟨a, b⟩ := h.at hx
  refine ⟨?_, by omega⟩
  rw [bB_sg, (sgB_eq (z := OF x) b).mpr (by omega)]
theorem far_eq {N : Int → Int} {y e x vb vw r : Int} {str : Prop} (h : BestI N y e x (scG N y e 2) str (nX N y) vb vw) (g : FarR N y e x (nX N y) r) : (if vb = -1 then -1 else vw) = r := by
  obtain ⟨wb, ww, g1, rfl⟩ := g
  obtain ⟨a, b, -⟩ := BestI.one h g1
  by_cases q : vb = -1
  · rw [if_pos q, if_pos (a.mp q)]
  · rw [if_neg q, if_neg (fun z => q (a.mpr z)), b q]
/-- what holds between both worlds at the head of the law's loop -/
def lwI (NF : Int → Int) (ou mi bo ln : Int) (LF : Int → Int) (sn : Int) (SF : Int → Int) (o os : Nat → Option SR) (nx rm : Int) (PA KE JF : Int → Int) (iz oz : Int) (PF OF : Int → Int) (vw : Int) : Prop :=
  ScOk NF ou mi bo ln LF sn SF ∧ NOk NF ∧ PstR o nx rm PA ∧ SltR os KE JF ∧ (0 ≤ iz ∧ iz ≤ 400) ∧ OutB PF OF oz ∧ (-3000000000 ≤ vw ∧ vw ≤ 3000000000)
