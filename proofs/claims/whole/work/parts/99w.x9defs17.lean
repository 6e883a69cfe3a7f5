/-! ===== the model's loop over statements ===== -/
/-- where the model stands in the text: good at a token, or with the text's error -/
def LdI (F : Int → Int) (n i : Int) (f : Nat) (N : Int → Int) (p t k v c e ho hb : Int) : Prop :=
  (c = 0 ∧ MSt F n (.inr i) p t k v c e ∧ NOk0 N ∧ (isWd F n i wLayer ∨ ¬ N 0 = 0) ∧ n - i < (f : Int) ∧ (ho = 0 ∨ ho = 1) ∧ (hb = 0 ∨ hb = 1) ∧ (tkK F n i = 0 → ¬ N 0 = 0) ∧ prsX F n = if tkK F n i = 0 then .inr N else prsE F n f i N ho hb) ∨
  ((1 ≤ c ∧ c ≤ 6) ∧ (0 ≤ e ∧ e ≤ n) ∧ ¬ okE (prsX F n) ∧ ErI (prsX F n) c e)
theorem LdI.rg {F : Int → Int} {n i : Int} {f : Nat} {N : Int → Int} {p t k v c e ho hb : Int} (h : LdI F n i f N p t k v c e ho hb) : 0 ≤ c ∧ c ≤ 6 := by
  rcases h with ⟨h, _⟩ | ⟨h, _⟩ <;> omega
/-- the start, where the first word is the right one -/
theorem LdI.start {F : Int → Int} {n p t k v c e : Int} (h : MSt F n (.inr 0) p t k v c e) (hn : n ≤ 400) (hw : isWd F n 0 wLayer) : LdI F n 0 401 eN0 p t k v c e 0 0 := by
  have hk : tkK F n 0 = 1 := (isWd_iff.mp hw).1
  refine Or.inl ⟨h.1, h, eN0_ok, Or.inl hw, by omega, Or.inl rfl, Or.inl rfl, fun z => by omega, ?_⟩
  rw [if_neg (by omega)]
  rfl
theorem LdI.bad {F : Int → Int} {n p t k v c e : Int} (h : MSt F n (fl F n 0 1 : PE Int) p t k v c e) (hw : ¬ isWd F n 0 wLayer) : LdI F n 0 401 eN0 p t k v c e 0 0 := by
  have q : prsX F n = .inl (1, tkS F n 0) := by
    show prsE F n (400 + 1) 0 eN0 0 0 = _
    unfold prsE stmE
    rw [if_neg hw, if_pos (show eN0 0 = 0 from rfl)]
    rfl
  refine Or.inr ⟨h.2.2.1, h.2.2.2, ?_, ?_⟩
  · rw [q]; exact fun z => nomatch z
  · rw [q]; exact ⟨h.1, h.2.1⟩
/-- one statement more -/
theorem LdI.step {F : Int → Int} {n i : Int} {f : Nat} {N N2 : Int → Int} {p t k v c e ho hb p2 t2 k2 v2 c2 e2 ho2 hb2 : Int} (h : LdI F n i f N p t k v c e ho hb) (hc : c = 0) (hk : ¬ k = 0) (hM : MSt F n (pb (stmE F n i N ho hb) fun t => .inr t.1) p2 t2 k2 v2 c2 e2) (hS : StmM (stmE F n i N ho hb) N2 ho2 hb2) (h1 : ho2 = 0 ∨ ho2 = 1) (h2 : hb2 = 0 ∨ hb2 = 1) (hg : ∀ t, stmE F n i N ho hb = .inr t → i < t.1) : ∃ (j : Int) (g : Nat), LdI F n j g N2 p2 t2 k2 v2 c2 e2 ho2 hb2 ∧ ((c2 = 0 ∧ (g : Int) < f) ∨ ¬ c2 = 0) := by
  rcases h with ⟨_, a2, a3, a4, a5, a6, a7, a8, a9⟩ | ⟨b1, _⟩
  · have hk2 : k = tkK F n i := a2.2.2.2.2.2.1
    rw [if_neg (by omega)] at a9
    have hi := a2.2.2.1
    obtain ⟨g, rfl⟩ : ∃ g, f = g + 1 := ⟨f - 1, by omega⟩
    cases hx : stmE F n i N ho hb with
    | inl a =>
      rw [hx] at hM
      have q : prsX F n = .inl a := by rw [a9, prsE, hx]; rfl
      refine ⟨i, g, Or.inr ⟨hM.2.2.1, hM.2.2.2, ?_, ?_⟩, Or.inr (by have := hM.2.2.1; omega)⟩
      · rw [q]; exact fun z => nomatch z
      · rw [q]; exact ⟨hM.1, hM.2.1⟩
    | inr r =>
      rw [hx] at hM
      obtain ⟨rfl, rfl, rfl, s4⟩ := hS r hx
      have ge := stmE_ge a3.1.1 a3.2.2.2.1.1 hx
      have lt := hg r hx
      have q : prsX F n = if tkK F n r.1 = 0 then .inr r.2.1 else prsE F n g r.1 r.2.1 r.2.2.1 r.2.2.2 := by rw [a9, prsE, hx]; rfl
      refine ⟨r.1, g, Or.inl ⟨hM.1, hM, s4, Or.inr (by omega), by omega, h1, h2, fun _ => by omega, q⟩, Or.inl ⟨hM.1, by omega⟩⟩
  · omega
theorem LdI.done {F : Int → Int} {n i : Int} {f : Nat} {N : Int → Int} {p t k v c e ho hb : Int} (h : LdI F n i f N p t k v c e ho hb) (hc : c = 0) (hk : k = 0) : prsX F n = .inr N ∧ NOk0 N ∧ e = -1 := by
  rcases h with ⟨_, a2, a3, a4, a5, a6, a7, a8, a9⟩ | ⟨b1, _⟩
  · have hk2 : k = tkK F n i := a2.2.2.2.2.2.1
    rw [if_pos (by omega)] at a9
    exact ⟨a9, a3, a2.2.1⟩
  · omega
theorem LdI.err {F : Int → Int} {n i : Int} {f : Nat} {N : Int → Int} {p t k v c e ho hb : Int} (h : LdI F n i f N p t k v c e ho hb) (hc : ¬ c = 0) : ¬ okE (prsX F n) ∧ ErI (prsX F n) c e := by
  rcases h with ⟨a1, _⟩ | ⟨b1, _, b3, b4⟩
  · exact absurd a1 hc
  · exact ⟨b3, b4⟩
/-- a statement without an error goes on -/
theorem stm_gt {F : Int → Int} {n i : Int} {N : Int → Int} {ho hb : Int} (hi : 0 ≤ i ∧ i ≤ n) (hk : ¬ tkK F n i = 0) {t : PT} (h : stmE F n i N ho hb = .inr t) : i < t.1 := by
  have b1 := tk_bd F hi.1 hi.2
  have c1 := b1.2.1 hk
  have s1 : i < tkE F n i := by omega
  have b2 := (tk_bd F (n := n) (i := tkE F n i) (by omega) (by omega)).1
  have b3 := (tk_bd F (n := n) (i := tkE F n (tkE F n i)) (by omega) (by omega)).1
  have b4 := (tk_bd F (n := n) (i := tkE F n (tkE F n (tkE F n i))) (by omega) (by omega)).1
  have b5 := (tk_bd F (n := n) (i := tkE F n (tkE F n (tkE F n (tkE F n i)))) (by omega) (by omega)).1
  have b6 := (tk_bd F (n := n) (i := tkE F n (tkE F n (tkE F n (tkE F n (tkE F n i))))) (by omega) (by omega)).1
  have b7 := (tk_bd F (n := n) (i := tkE F n (tkE F n (tkE F n (tkE F n (tkE F n (tkE F n i)))))) (by omega) (by omega)).1
  unfold stmE at h
  by_cases q : isWd F n i wLayer
  · rw [if_pos q] at h
    by_cases q6 : 10 ≤ N 0
    · rw [layE_6 q6] at h; cases h
    · rw [layE_n q6] at h
      obtain ⟨a, -, h⟩ := pb_ok h
      obtain ⟨u, -, h⟩ := pb_ok h
      obtain ⟨b, -, h⟩ := pb_ok h
      by_cases qw : isWd F n (tkE F n (tkE F n (tkE F n (tkE F n i)))) wLoss
      · rw [if_pos qw] at h
        obtain ⟨c, -, h⟩ := pb_ok h
        obtain ⟨u2, -, h⟩ := pb_ok h
        cases h
        show i < tkE F n _
        omega
      · rw [if_neg qw] at h
        obtain ⟨u2, -, h⟩ := pb_ok h
        cases h
        show i < tkE F n _
        omega
  · rw [if_neg q] at h
    by_cases q0 : N 0 = 0
    · rw [if_pos q0] at h; cases h
    · rw [if_neg q0] at h
      by_cases q1 : isWd F n i wOutside
      · rw [if_pos q1] at h
        by_cases q3 : ho = 1
        · rw [outE_3 q3] at h; cases h
        · rw [outE_n q3] at h
          obtain ⟨a, -, h⟩ := pb_ok h
          obtain ⟨u, -, h⟩ := pb_ok h
          cases h
          show i < tkE F n _
          omega
      · rw [if_neg q1] at h
        by_cases q2 : isWd F n i wBottom
        · rw [if_pos q2] at h
          by_cases q3 : hb = 1
          · rw [botE_3 q3] at h; cases h
          · by_cases qm : isWd F n (tkE F n i) wMirror
            · rw [botE_m q3 qm] at h
              obtain ⟨a, -, h⟩ := pb_ok h
              obtain ⟨u, -, h⟩ := pb_ok h
              cases h
              show i < tkE F n _
              omega
            · by_cases qp : isWd F n (tkE F n i) wOpen
              · rw [botE_o q3 qm qp] at h
                obtain ⟨a, -, h⟩ := pb_ok h
                obtain ⟨u, -, h⟩ := pb_ok h
                cases h
                show i < tkE F n _
                omega
              · rw [botE_x q3 qm qp] at h; cases h
        · rw [if_neg q2] at h
          by_cases q4 : isWd F n i wShot
          · rw [if_pos q4] at h
            by_cases q6 : 20 ≤ N 4
            · rw [shoE_6 q6] at h; cases h
            · rw [shoE_n q6] at h
              obtain ⟨y, -, h⟩ := pb_ok h
              by_cases q7 : N 0 ≤ y
              · rw [if_pos q7] at h; cases h
              · rw [if_neg q7] at h
                by_cases q8 : isWd F n (tkE F n (tkE F n i)) wDown ∨ isWd F n (tkE F n (tkE F n i)) wUp
                · rw [if_pos q8] at h
                  obtain ⟨p, -, h⟩ := pb_ok h
                  by_cases q9 : N (5 + 3 * y + 0) ≤ p
                  · rw [if_pos q9] at h; cases h
                  · rw [if_neg q9] at h
                    obtain ⟨u, -, h⟩ := pb_ok h
                    cases h
                    show i < tkE F n _
                    omega
                · rw [if_neg q8] at h; cases h
          · rw [if_neg q4] at h; cases h
