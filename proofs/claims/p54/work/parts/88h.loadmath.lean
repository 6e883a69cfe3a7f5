/-! ===== what the law's load() builds ===== -/
def l30 : List Int := [108, 97, 121, 101, 114, 32]
def l31 : List Int := [32, 116, 104, 105, 99, 107, 32]
def l32 : List Int := [32, 108, 111, 115, 115, 32]
def l33 : List Int := [59]
def l34 : List Int := [111, 117, 116, 115, 105, 100, 101, 32]
def l35 : List Int := [98, 111, 116, 116, 111, 109, 32, 109, 105, 114, 114, 111, 114, 32]
def l36 : List Int := [98, 111, 116, 116, 111, 109, 32, 111, 112, 101, 110, 32]
def l37 : List Int := [115, 104, 111, 116, 32]
def l38 : List Int := [32, 100, 111, 119, 110, 32]
def l39 : List Int := [32, 117, 112, 32]
theorem tx30 : txI 30 l30 := ⟨⟨by decide, by decide, by decide⟩, by decide⟩
theorem tx31 : txI 31 l31 := ⟨⟨by decide, by decide, by decide⟩, by decide⟩
theorem tx32 : txI 32 l32 := ⟨⟨by decide, by decide, by decide⟩, by decide⟩
theorem tx33 : txI 33 l33 := ⟨⟨by decide, by decide, by decide⟩, by decide⟩
theorem tx34 : txI 34 l34 := ⟨⟨by decide, by decide, by decide⟩, by decide⟩
theorem tx35 : txI 35 l35 := ⟨⟨by decide, by decide, by decide⟩, by decide⟩
theorem tx36 : txI 36 l36 := ⟨⟨by decide, by decide, by decide⟩, by decide⟩
theorem tx37 : txI 37 l37 := ⟨⟨by decide, by decide, by decide⟩, by decide⟩
theorem tx38 : txI 38 l38 := ⟨⟨by decide, by decide, by decide⟩, by decide⟩
theorem tx39 : txI 39 l39 := ⟨⟨by decide, by decide, by decide⟩, by decide⟩
theorem TxS.lay {tx : List Int} {M : Int → Int} {ho hb a b : Int} (h : TxS tx (M, ho, hb)) (h0 : M 0 < 10) (ha : 1000 ≤ a ∧ a ≤ 4000) (hb' : 1 ≤ b ∧ b ≤ 999) : TxS (tx ++ l30 ++ dgL a ++ l31 ++ dgL b ++ l33) (addLN M a b 0, ho, hb) := by
  have h9 := h.snoc (0, a, b, 0) ⟨h0, ha, hb'⟩
  have e : tx ++ l30 ++ dgL a ++ l31 ++ dgL b ++ l33 = tx ++ stT (0, a, b, 0) := by
    show _ = tx ++ tLay a b
    simp [tLay, l30, l31, l33, wLayer, wThick]
  rw [e]
  exact h9
theorem TxS.lay5 {tx : List Int} {M : Int → Int} {ho hb a b c : Int} (h : TxS tx (M, ho, hb)) (h0 : M 0 < 10) (ha : 1000 ≤ a ∧ a ≤ 4000) (hb' : 1 ≤ b ∧ b ≤ 999) (hc : 0 ≤ c ∧ c ≤ 99) : TxS (tx ++ l30 ++ dgL a ++ l31 ++ dgL b ++ l32 ++ dgL c ++ l33) (addLN M a b c, ho, hb) := by
  have h9 := h.snoc (5, a, b, c) ⟨h0, ha, hb', hc⟩
  have e : tx ++ l30 ++ dgL a ++ l31 ++ dgL b ++ l32 ++ dgL c ++ l33 = tx ++ stT (5, a, b, c) := by
    show _ = tx ++ tLay5 a b c
    simp [tLay5, l30, l31, l32, l33, wLayer, wThick, wLoss]
  rw [e]
  exact h9
theorem TxS.out {tx : List Int} {M : Int → Int} {ho hb a : Int} (h : TxS tx (M, ho, hb)) (h0 : M 0 ≠ 0) (h1 : ho ≠ 1) (ha : 1000 ≤ a ∧ a ≤ 4000) : TxS (tx ++ l34 ++ dgL a ++ l33) (upI M 1 a, 1, hb) := by
  have h9 := h.snoc (1, a, 0, 0) ⟨h0, h1, ha⟩
  have e : tx ++ l34 ++ dgL a ++ l33 = tx ++ stT (1, a, 0, 0) := by
    show _ = tx ++ tOut a
    simp [tOut, l34, l33, wOutside]
  rw [e]
  exact h9
theorem TxS.mir {tx : List Int} {M : Int → Int} {ho hb a : Int} (h : TxS tx (M, ho, hb)) (h0 : M 0 ≠ 0) (h1 : hb ≠ 1) (ha : 0 ≤ a ∧ a ≤ 100) : TxS (tx ++ l35 ++ dgL a ++ l33) (upI (upI M 2 1) 3 a, ho, 1) := by
  have h9 := h.snoc (2, a, 0, 0) ⟨h0, h1, ha⟩
  have e : tx ++ l35 ++ dgL a ++ l33 = tx ++ stT (2, a, 0, 0) := by
    show _ = tx ++ tMir a
    simp [tMir, l35, l33, wBottom, wMirror]
  rw [e]
  exact h9
theorem TxS.opn {tx : List Int} {M : Int → Int} {ho hb a : Int} (h : TxS tx (M, ho, hb)) (h0 : M 0 ≠ 0) (h1 : hb ≠ 1) (ha : 1000 ≤ a ∧ a ≤ 4000) : TxS (tx ++ l36 ++ dgL a ++ l33) (upI (upI M 2 0) 3 a, ho, 1) := by
  have h9 := h.snoc (3, a, 0, 0) ⟨h0, h1, ha⟩
  have e : tx ++ l36 ++ dgL a ++ l33 = tx ++ stT (3, a, 0, 0) := by
    show _ = tx ++ tOpn a
    simp [tOpn, l36, l33, wBottom, wOpen]
  rw [e]
  exact h9
theorem TxS.sho {tx : List Int} {M : Int → Int} {ho hb a c : Int} (h : TxS tx (M, ho, hb)) (h0 : M 0 ≠ 0) (h4 : M 4 < 20) (ha : 0 ≤ a ∧ a ≤ 9 ∧ a < M 0) (hc : 0 ≤ c ∧ c ≤ 3999 ∧ c < M (5 + 3 * a + 0)) : TxS (tx ++ l37 ++ dgL a ++ l38 ++ dgL c ++ l33) (addSN M a 1 c, ho, hb) ∧ TxS (tx ++ l37 ++ dgL a ++ l39 ++ dgL c ++ l33) (addSN M a 0 c, ho, hb) := by
  have h9 := h.snoc (4, a, 1, c) ⟨h0, h4, ha, Or.inr rfl, hc⟩
  have h8 := h.snoc (4, a, 0, c) ⟨h0, h4, ha, Or.inl rfl, hc⟩
  have e : tx ++ l37 ++ dgL a ++ l38 ++ dgL c ++ l33 = tx ++ stT (4, a, 1, c) := by
    show _ = tx ++ tSho a 1 c
    simp [tSho, l37, l38, l33, wShot, wDown]
  have e' : tx ++ l37 ++ dgL a ++ l39 ++ dgL c ++ l33 = tx ++ stT (4, a, 0, c) := by
    show _ = tx ++ tSho a 0 c
    simp [tSho, l37, l39, l33, wShot, wUp]
  rw [e, e']
  exact ⟨h9, h8⟩
/-- the numbers so far: layers, outside, mirror, below, shots, the indexes -/
def ScnI (nl : Int) (M IX : Int → Int) (ou mi bo sn : Int) : Prop := M 0 = nl ∧ M 1 = ou ∧ M 2 = mi ∧ M 3 = bo ∧ M 4 = sn ∧ NOk0 M ∧ ∀ r : Int, 0 ≤ r → r < nl → M (5 + 3 * r + 0) = IX r ∧ 1000 ≤ IX r ∧ IX r ≤ 4000
theorem ScnI.nil (IX : Int → Int) : ScnI 0 eN0 IX 1000 0 1000 0 := ⟨rfl, rfl, rfl, rfl, rfl, eN0_ok, fun r a b => by omega⟩
theorem ScnI.lay {i : Int} {M IX : Int → Int} {ou mi bo sn a b c : Int} (h : ScnI i M IX ou mi bo sn) (hi : 0 ≤ i ∧ i < 10) (ha : 1000 ≤ a ∧ a ≤ 4000) (hb : 1 ≤ b ∧ b ≤ 999) (hc : 0 ≤ c ∧ c ≤ 99) : ScnI (i + 1) (addLN M a b c) (upI IX i a) ou mi bo sn := by
  obtain ⟨h0, h1, h2, h3, h4, h5, h6⟩ := h
  have p : 0 ≤ M 0 := by omega
  refine ⟨by rw [addLN_0 _ _ _ _ p]; omega, by rw [addLN_o _ _ _ _ p (by decide) (Or.inl (by decide))]; exact h1, by rw [addLN_o _ _ _ _ p (by decide) (Or.inl (by decide))]; exact h2, by rw [addLN_o _ _ _ _ p (by decide) (Or.inl (by decide))]; exact h3, by rw [addLN_o _ _ _ _ p (by decide) (Or.inl (by decide))]; exact h4, h5.addL (by omega) ha hb hc, fun r r0 r1 => ?_⟩
  rw [addLN_l _ _ _ _ p r0 (by omega) (by decide) (by decide)]
  by_cases q : r = i
  · rw [if_pos (by omega), q, upI_s]
    exact ⟨rfl, ha⟩
  · rw [if_neg (by omega), upI_n _ _ q]
    exact h6 r r0 (by omega)
theorem ScnI.out {i : Int} {M IX : Int → Int} {ou mi bo sn a : Int} (h : ScnI i M IX ou mi bo sn) (ha : 1000 ≤ a ∧ a ≤ 4000) : ScnI i (upI M 1 a) IX a mi bo sn := by
  obtain ⟨h0, h1, h2, h3, h4, h5, h6⟩ := h
  refine ⟨by rw [upI_n _ _ (by decide)]; exact h0, upI_s _ _ _, by rw [upI_n _ _ (by decide)]; exact h2, by rw [upI_n _ _ (by decide)]; exact h3, by rw [upI_n _ _ (by decide)]; exact h4, h5.up1 ha, fun r r0 r1 => ?_⟩
  rw [upI_n _ _ (by omega)]
  exact h6 r r0 r1
theorem ScnI.bot {i : Int} {M IX : Int → Int} {ou mi bo sn m a : Int} (h : ScnI i M IX ou mi bo sn) (ha : m = 0 ∧ 1000 ≤ a ∧ a ≤ 4000 ∨ m = 1 ∧ 0 ≤ a ∧ a ≤ 100) : ScnI i (upI (upI M 2 m) 3 a) IX ou m a sn := by
  obtain ⟨h0, h1, h2, h3, h4, h5, h6⟩ := h
  refine ⟨by rw [upI_n _ _ (by decide), upI_n _ _ (by decide)]; exact h0, by rw [upI_n _ _ (by decide), upI_n _ _ (by decide)]; exact h1, by rw [upI_n _ _ (by decide), upI_s], upI_s _ _ _, by rw [upI_n _ _ (by decide), upI_n _ _ (by decide)]; exact h4, h5.up23 ha, fun r r0 r1 => ?_⟩
  rw [upI_n _ _ (by omega), upI_n _ _ (by omega)]
  exact h6 r r0 r1
theorem ScnI.sho {i : Int} {M IX : Int → Int} {ou mi bo sn a b c : Int} (h : ScnI i M IX ou mi bo sn) (hs : 0 ≤ sn ∧ sn < 20) (ha : 0 ≤ a ∧ a ≤ 9) (hb : b = 0 ∨ b = 1) (hc : 0 ≤ c ∧ c ≤ 3999) (hi : i ≤ 10) : ScnI i (addSN M a b c) IX ou mi bo (sn + 1) := by
  obtain ⟨h0, h1, h2, h3, h4, h5, h6⟩ := h
  have p : 0 ≤ M 4 := by omega
  refine ⟨by rw [addSN_o _ _ _ _ p (by decide) (by decide)]; exact h0, by rw [addSN_o _ _ _ _ p (by decide) (by decide)]; exact h1, by rw [addSN_o _ _ _ _ p (by decide) (by decide)]; exact h2, by rw [addSN_o _ _ _ _ p (by decide) (by decide)]; exact h3, by rw [addSN_4 _ _ _ _ p]; omega, h5.addS (by omega) ha hb hc, fun r r0 r1 => ?_⟩
  rw [addSN_o _ _ _ _ p (by omega) (by omega)]
  exact h6 r r0 r1
theorem OutI.let {F : Int → Int} {n : Int} {tx : List Int} (h : OutI F n tx) (hl : ∀ c ∈ tx, 0 ≤ c ∧ c ≤ 127) : ∀ j : Int, 0 ≤ j → j < n → 0 ≤ F j ∧ F j ≤ 127 := fun j j0 j1 => by
  have e := h.2 j.toNat (by have := h.1; omega)
  rw [Int.toNat_of_nonneg j0] at e
  rw [e]
  have hj : j.toNat < tx.length := by have := h.1; omega
  have : tx.getD j.toNat 0 ∈ tx := by
    rw [List.getD_eq_getElem?_getD, List.getElem?_eq_getElem hj]
    exact List.getElem_mem hj
  exact hl _ this
theorem soN_nil (K : KC) : gSOs K (fun _ => none) (List.range 6) = [] := rfl
theorem sw_30 : (RL, 51, "layer ", 30) ∈ strW := List.mem_of_getElem? (i := 30) rfl
theorem sw_31 : (RL, 59, " thick ", 31) ∈ strW := List.mem_of_getElem? (i := 31) rfl
theorem sw_32 : (RL, 61, " loss ", 32) ∈ strW := List.mem_of_getElem? (i := 32) rfl
theorem sw_33 : (RL, 63, ";", 33) ∈ strW := List.mem_of_getElem? (i := 33) rfl
theorem sw_34 : (RL, 65, "outside ", 34) ∈ strW := List.mem_of_getElem? (i := 34) rfl
theorem sw_35 : (RL, 67, "bottom mirror ", 35) ∈ strW := List.mem_of_getElem? (i := 35) rfl
theorem sw_36 : (RL, 69, "bottom open ", 36) ∈ strW := List.mem_of_getElem? (i := 36) rfl
theorem sw_37 : (RL, 71, "shot ", 37) ∈ strW := List.mem_of_getElem? (i := 37) rfl
theorem sw_38 : (RL, 73, " down ", 38) ∈ strW := List.mem_of_getElem? (i := 38) rfl
theorem sw_39 : (RL, 75, " up ", 39) ∈ strW := List.mem_of_getElem? (i := 39) rfl
