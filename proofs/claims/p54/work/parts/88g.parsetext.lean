/-! ===== the parser on a text that the law has built ===== -/
/-- the text from i on is w -/
def Sfx (F : Int → Int) (n : Int) : Int → List Int → Prop
  | i, [] => i = n
  | i, c :: w => (0 ≤ i ∧ i < n) ∧ bget F n i = c ∧ Sfx F n (i + 1) w
theorem Sfx.app {F : Int → Int} {n : Int} : ∀ {u r : List Int} {i : Int}, Sfx F n i (u ++ r) → Sfx F n (i + (u.length : Int)) r
  | [], r, i, h => by simpa using h
  | c :: u, r, i, h => by
    have := Sfx.app (u := u) (r := r) h.2.2
    rw [List.length_cons, show i + ((u.length + 1 : Nat) : Int) = i + 1 + (u.length : Int) by omega]
    exact this
theorem Sfx.at {F : Int → Int} {n : Int} : ∀ {u r : List Int} {i : Int}, Sfx F n i (u ++ r) → ∀ j : Nat, j < u.length → bget F n (i + (j : Int)) = u.getD j 0
  | [], _, _, _, j, hj => absurd hj (Nat.not_lt_zero j)
  | c :: u, r, i, h, 0, _ => by
    have := h.2.1
    rw [show i + ((0 : Nat) : Int) = i by omega]
    simpa using this
  | c :: u, r, i, h, j + 1, hj => by
    have := Sfx.at (u := u) (r := r) h.2.2 j (by simpa using hj)
    rw [show i + ((j + 1 : Nat) : Int) = i + 1 + (j : Int) by omega, this]
    simp
/-- what comes next is not of class k -/
def nhd (k : Int) (r : List Int) : Prop := ∀ c w, r = c :: w → ¬ isCl k c
theorem nhd_nil (k : Int) : nhd k [] := fun c w h => by cases h
theorem nhd_cons {k c : Int} {w : List Int} (h : ¬ isCl k c) : nhd k (c :: w) := fun c' w' e => by cases e; exact h
theorem skp_stop {F : Int → Int} {n k i : Int} {r : List Int} (h : Sfx F n i r) (hr : nhd k r) : skp F n k i = i := by
  apply skp_f
  cases r with
  | nil => have : i = n := h; omega
  | cons c w =>
    have := hr c w rfl
    rw [h.2.1]
    exact fun z => this z.2
theorem skp_run {F : Int → Int} {n k : Int} : ∀ {u r : List Int} {i : Int}, Sfx F n i (u ++ r) → (∀ c ∈ u, isCl k c) → nhd k r → skp F n k i = i + (u.length : Int)
  | [], r, i, h, _, hr => by
    rw [skp_stop (r := r) h hr]; simp
  | c :: u, r, i, h, hu, hr => by
    have h1 := h.2.1
    rw [skp_t h.1.2 (by rw [h1]; exact hu c List.mem_cons_self), skp_run (u := u) (r := r) h.2.2 (fun d hd => hu d (List.mem_cons_of_mem _ hd)) hr, List.length_cons]
    omega
/-- a token behind one blank or none -/
theorem tkS_0 {F : Int → Int} {n i : Int} {c : Int} {w : List Int} (h : Sfx F n i (c :: w)) (hc : ¬ isCl 0 c) : tkS F n i = i := skp_stop h (nhd_cons hc)
theorem tkS_1 {F : Int → Int} {n i : Int} {c : Int} {w : List Int} (h : Sfx F n i (32 :: c :: w)) (hc : ¬ isCl 0 c) : tkS F n i = i + 1 := by
  have := skp_run (F := F) (n := n) (k := 0) (u := [32]) (r := c :: w) (i := i) h (fun d hd => by simp at hd; subst hd; rw [isCl0]; exact Or.inl rfl) (nhd_cons hc)
  simpa [tkS] using this
theorem isWd_uniq {F : Int → Int} {n i : Int} {w v : List Int} (h : isWd F n i w) (g : isWd F n i v) : w = v := by
  obtain ⟨-, h2, h3⟩ := isWd_iff.mp h
  obtain ⟨-, g2, g3⟩ := isWd_iff.mp g
  have e : w.length = v.length := by omega
  apply List.ext_getElem e
  intro j h4 h5
  have a := h3 j h4
  have b := g3 j h5
  rw [a] at b
  simpa [List.getD, h4, h5] using b
theorem isWd_not {F : Int → Int} {n i : Int} {w v : List Int} (h : isWd F n i w) (hne : w ≠ v) : ¬ isWd F n i v := fun g => hne (isWd_uniq h g)
/-- the token at the place t, if it is a word -/
theorem tok_word' {F : Int → Int} {n i t : Int} {u r : List Int} (ht : tkS F n i = t) (h : Sfx F n t (u ++ r)) (hu : ∀ c ∈ u, 97 ≤ c ∧ c ≤ 122) (hne : u ≠ []) (hr : nhd 1 r) : isWd F n i u ∧ tkE F n i = t + (u.length : Int) ∧ tkK F n i = 1 := by
  have hc : ∃ c w, u = c :: w := by
    cases u with
    | nil => exact absurd rfl hne
    | cons c w => exact ⟨c, w, rfl⟩
  obtain ⟨c, w, rfl⟩ := hc
  have hcb := hu c List.mem_cons_self
  have eC : tkC F n i = c := by unfold tkC; rw [ht]; exact h.2.1
  have eK : tkK F n i = 1 := by unfold tkK; rw [eC, if_neg (by omega), if_pos hcb]
  have eE : tkE F n i = t + (((c :: w).length : Nat) : Int) := by
    unfold tkE
    rw [eC, if_neg (by omega), if_pos hcb, ht]
    exact skp_run h (fun d hd => by rw [isCl1]; exact hu d hd) hr
  refine ⟨isWd_iff.mpr ⟨eK, by rw [eE, ht]; omega, fun j hj => ?_⟩, eE, eK⟩
  rw [ht]
  exact h.at j hj
theorem tok_sym' {F : Int → Int} {n i t : Int} {r : List Int} (ht : tkS F n i = t) (h : Sfx F n t (59 :: r)) : smE F n i = .inr () ∧ tkE F n i = t + 1 := by
  have eC : tkC F n i = 59 := by unfold tkC; rw [ht]; exact h.2.1
  refine ⟨?_, ?_⟩
  · unfold smE tkK
    rw [eC]
    rfl
  · unfold tkE
    rw [eC, if_neg (by omega), if_neg (by omega), if_neg (by omega), ht]
/-! numbers -/
theorem dgL_1 {z : Int} (h : 0 ≤ z ∧ z < 10) : dgL z = [48 + z] := by
  have e : dgs z = 1 := by unfold dgs; (repeat' split) <;> omega
  unfold dgL
  rw [e]
  show [dgt z (0 : Nat)] = _
  unfold dgt
  rw [e, if_neg (by omega), if_neg (by omega), if_neg (by omega)]
  congr 1; omega
theorem dgL_2 {z : Int} (h : 10 ≤ z ∧ z < 100) : dgL z = [48 + z / 10, 48 + z % 10] := by
  have e : dgs z = 2 := by unfold dgs; (repeat' split) <;> omega
  unfold dgL
  rw [e]
  show [dgt z (0 : Nat), dgt z (1 : Nat)] = _
  unfold dgt
  rw [e, if_neg (by omega), if_neg (by omega), if_pos (by omega), if_neg (by omega), if_neg (by omega), if_neg (by omega)]
  rw [show (48 + z / 10 % 10 : Int) = 48 + z / 10 by omega, show (48 + z / 1 % 10 : Int) = 48 + z % 10 by omega]
theorem dgL_3 {z : Int} (h : 100 ≤ z ∧ z < 1000) : dgL z = [48 + z / 100, 48 + z / 10 % 10, 48 + z % 10] := by
  have e : dgs z = 3 := by unfold dgs; (repeat' split) <;> omega
  unfold dgL
  rw [e]
  show [dgt z (0 : Nat), dgt z (1 : Nat), dgt z (2 : Nat)] = _
  unfold dgt
  rw [e, if_neg (by omega), if_pos (by omega), if_neg (by omega), if_neg (by omega), if_pos (by omega), if_neg (by omega), if_neg (by omega), if_neg (by omega)]
  rw [show (48 + z / 100 % 10 : Int) = 48 + z / 100 by omega, show (48 + z / 1 % 10 : Int) = 48 + z % 10 by omega]
theorem dgL_4 {z : Int} (h : 1000 ≤ z ∧ z < 10000) : dgL z = [48 + z / 1000, 48 + z / 100 % 10, 48 + z / 10 % 10, 48 + z % 10] := by
  have e : dgs z = 4 := by unfold dgs; (repeat' split) <;> omega
  unfold dgL
  rw [e]
  show [dgt z (0 : Nat), dgt z (1 : Nat), dgt z (2 : Nat), dgt z (3 : Nat)] = _
  unfold dgt
  rw [e, if_pos (by omega), if_neg (by omega), if_pos (by omega), if_neg (by omega), if_neg (by omega), if_pos (by omega), if_neg (by omega), if_neg (by omega), if_neg (by omega)]
  rw [show (48 + z / 1000 % 10 : Int) = 48 + z / 1000 by omega, show (48 + z / 1 % 10 : Int) = 48 + z % 10 by omega]
theorem dgL_dig {z : Int} (h : 0 ≤ z ∧ z < 10000) : ∀ c ∈ dgL z, 48 ≤ c ∧ c ≤ 57 := by
  intro c hc
  rcases (by omega : (0 ≤ z ∧ z < 10) ∨ (10 ≤ z ∧ z < 100) ∨ (100 ≤ z ∧ z < 1000) ∨ (1000 ≤ z ∧ z < 10000)) with q | q | q | q
  · rw [dgL_1 q] at hc; simp at hc; omega
  · rw [dgL_2 q] at hc; simp at hc; omega
  · rw [dgL_3 q] at hc; simp at hc; omega
  · rw [dgL_4 q] at hc; simp at hc; omega
theorem nmb_stop {F : Int → Int} {n cap i v : Int} {r : List Int} (h : Sfx F n i r) (hr : nhd 2 r) : nmb F n cap i v = v := by
  apply nmb_f
  cases r with
  | nil => have : i = n := h; omega
  | cons c w =>
    have := hr c w rfl
    rw [h.2.1]
    exact fun z => this (isCl2.mpr z.2)
theorem nmb_one {F : Int → Int} {n i v c : Int} {w : List Int} (h : Sfx F n i (c :: w)) (hc : 48 ≤ c ∧ c ≤ 57) (hv : v * 10 + c - 48 ≤ 1000000) : nmb F n 1000000 i v = nmb F n 1000000 (i + 1) (v * 10 + c - 48) := by
  have h1 := h.2.1
  rw [nmb_t h.1.2 (by rw [h1]; exact hc), h1]
  congr 1
  omega
theorem nmb_dg {F : Int → Int} {n i z : Int} {r : List Int} (hz : 0 ≤ z ∧ z < 10000) (h : Sfx F n i (dgL z ++ r)) (hr : nhd 2 r) : nmb F n 1000000 i 0 = z := by
  rcases (by omega : (0 ≤ z ∧ z < 10) ∨ (10 ≤ z ∧ z < 100) ∨ (100 ≤ z ∧ z < 1000) ∨ (1000 ≤ z ∧ z < 10000)) with q | q | q | q
  · rw [dgL_1 q] at h
    rw [nmb_one h (by omega) (by omega), nmb_stop (r := r) h.2.2 hr]; omega
  · rw [dgL_2 q] at h
    rw [nmb_one h (by omega) (by omega), nmb_one h.2.2 (by omega) (by omega), nmb_stop (r := r) h.2.2.2.2 hr]; omega
  · rw [dgL_3 q] at h
    rw [nmb_one h (by omega) (by omega), nmb_one h.2.2 (by omega) (by omega), nmb_one h.2.2.2.2 (by omega) (by omega), nmb_stop (r := r) h.2.2.2.2.2.2 hr]; omega
  · rw [dgL_4 q] at h
    rw [nmb_one h (by omega) (by omega), nmb_one h.2.2 (by omega) (by omega), nmb_one h.2.2.2.2 (by omega) (by omega), nmb_one h.2.2.2.2.2.2 (by omega) (by omega), nmb_stop (r := r) h.2.2.2.2.2.2.2.2 hr]; omega
theorem dgL_ne {z : Int} : ∃ c w, dgL z = c :: w := by
  have h := dgs_bd z
  have l := dgL_len z
  cases e : dgL z with
  | nil => rw [e] at l; simp at l; omega
  | cons c w => exact ⟨c, w, rfl⟩
theorem tok_num' {F : Int → Int} {n i t z lo hi : Int} {r : List Int} (ht : tkS F n i = t) (hz : 0 ≤ z ∧ z < 10000) (h : Sfx F n t (dgL z ++ r)) (hr : nhd 2 r) (hlo : lo ≤ z ∧ z ≤ hi) : numE F n i lo hi = .inr z ∧ tkE F n i = t + dgs z := by
  obtain ⟨c, w, hd⟩ := dgL_ne (z := z)
  have hcb := dgL_dig hz c (by rw [hd]; exact List.mem_cons_self)
  have h' := h
  rw [hd] at h'
  have eC : tkC F n i = c := by unfold tkC; rw [ht]; exact h'.2.1
  have eK : tkK F n i = 2 := by unfold tkK; rw [eC, if_neg (by omega), if_neg (by omega), if_pos hcb]
  have eV : tkV F n i = z := by unfold tkV; rw [ht]; exact nmb_dg hz h hr
  refine ⟨?_, ?_⟩
  · rw [numE_3 eK (by rw [eV]; exact hlo), eV]
  · unfold tkE
    rw [eC, if_neg (by omega), if_neg (by omega), if_pos hcb, ht, skp_run h (fun d hd => by rw [isCl2]; exact dgL_dig hz d hd) hr, dgL_len]
/-! a blank, then the token -/
theorem tok_num {F : Int → Int} {n i z lo hi : Int} {r : List Int} (hz : 0 ≤ z ∧ z < 10000) (h : Sfx F n i (32 :: (dgL z ++ r))) (hr : nhd 2 r) (hlo : lo ≤ z ∧ z ≤ hi) : numE F n i lo hi = .inr z ∧ tkE F n i = i + 1 + dgs z := by
  obtain ⟨c, w, hd⟩ := dgL_ne (z := z)
  have hcb := dgL_dig hz c (by rw [hd]; exact List.mem_cons_self)
  refine tok_num' ?_ hz h.2.2 hr hlo
  rw [hd] at h
  exact tkS_1 h (by rw [isCl0]; omega)
theorem tok_word {F : Int → Int} {n i : Int} {u r : List Int} (h : Sfx F n i (32 :: (u ++ r))) (hu : ∀ c ∈ u, 97 ≤ c ∧ c ≤ 122) (hne : u ≠ []) (hr : nhd 1 r) : isWd F n i u ∧ tkE F n i = i + 1 + (u.length : Int) ∧ tkK F n i = 1 := by
  refine tok_word' ?_ h.2.2 hu hne hr
  cases u with
  | nil => exact absurd rfl hne
  | cons c w => exact tkS_1 h (by have := hu c List.mem_cons_self; rw [isCl0]; omega)
theorem tok_word0 {F : Int → Int} {n i : Int} {u r : List Int} (h : Sfx F n i (u ++ r)) (hu : ∀ c ∈ u, 97 ≤ c ∧ c ≤ 122) (hne : u ≠ []) (hr : nhd 1 r) : isWd F n i u ∧ tkE F n i = i + (u.length : Int) ∧ tkK F n i = 1 := by
  refine tok_word' ?_ h hu hne hr
  cases u with
  | nil => exact absurd rfl hne
  | cons c w => exact tkS_0 h (by have := hu c List.mem_cons_self; rw [isCl0]; omega)
theorem tok_sym {F : Int → Int} {n i : Int} {r : List Int} (h : Sfx F n i (59 :: r)) : smE F n i = .inr () ∧ tkE F n i = i + 1 := tok_sym' (tkS_0 h (by rw [isCl0]; omega)) h
theorem nh32_1 (w : List Int) : nhd 1 (32 :: w) := nhd_cons (by rw [isCl1]; omega)
theorem nh32_2 (w : List Int) : nhd 2 (32 :: w) := nhd_cons (by rw [isCl2]; omega)
theorem nh59_2 (w : List Int) : nhd 2 (59 :: w) := nhd_cons (by rw [isCl2]; omega)
theorem Sfx.dg {F : Int → Int} {n i z : Int} {r : List Int} (h : Sfx F n i (dgL z ++ r)) : Sfx F n (i + dgs z) r := by
  have := h.app
  rwa [dgL_len] at this
/-! the statements' texts -/
def tLay (a b : Int) : List Int := wLayer ++ 32 :: (dgL a ++ 32 :: (wThick ++ 32 :: (dgL b ++ [59])))
def tLay5 (a b c : Int) : List Int := wLayer ++ 32 :: (dgL a ++ 32 :: (wThick ++ 32 :: (dgL b ++ 32 :: (wLoss ++ 32 :: (dgL c ++ [59])))))
def tOut (a : Int) : List Int := wOutside ++ 32 :: (dgL a ++ [59])
def tMir (a : Int) : List Int := wBottom ++ 32 :: (wMirror ++ 32 :: (dgL a ++ [59]))
def tOpn (a : Int) : List Int := wBottom ++ 32 :: (wOpen ++ 32 :: (dgL a ++ [59]))
def tSho (a b c : Int) : List Int := wShot ++ 32 :: (dgL a ++ 32 :: ((if b = 1 then wDown else wUp) ++ 32 :: (dgL c ++ [59])))
theorem w_let : (∀ c ∈ wLayer, 97 ≤ c ∧ c ≤ 122) ∧ (∀ c ∈ wThick, 97 ≤ c ∧ c ≤ 122) ∧ (∀ c ∈ wLoss, 97 ≤ c ∧ c ≤ 122) ∧ (∀ c ∈ wOutside, 97 ≤ c ∧ c ≤ 122) ∧ (∀ c ∈ wBottom, 97 ≤ c ∧ c ≤ 122) ∧ (∀ c ∈ wMirror, 97 ≤ c ∧ c ≤ 122) ∧ (∀ c ∈ wOpen, 97 ≤ c ∧ c ≤ 122) ∧ (∀ c ∈ wShot, 97 ≤ c ∧ c ≤ 122) ∧ (∀ c ∈ wDown, 97 ≤ c ∧ c ≤ 122) ∧ (∀ c ∈ wUp, 97 ≤ c ∧ c ≤ 122) := by decide
theorem sLay {F N : Int → Int} {n i ho hb a b : Int} {r : List Int} (h : Sfx F n i (tLay a b ++ r)) (hN : N 0 < 10) (ha : 1000 ≤ a ∧ a ≤ 4000) (hb' : 1 ≤ b ∧ b ≤ 999) : stmE F n i N ho hb = .inr (i + ((tLay a b).length : Int), addLN N a b 0, ho, hb) := by
  have hr := h.app
  unfold tLay at h
  simp only [List.append_assoc, List.cons_append, List.nil_append] at h
  obtain ⟨w1, w2, -⟩ := tok_word0 h w_let.1 (by decide) (nh32_1 _)
  have h2 := h.app
  obtain ⟨a1, a2⟩ := tok_num (lo := 1000) (hi := 4000) (by omega) h2 (nh32_2 _) ha
  have h3 := h2.2.2.dg
  obtain ⟨b1, b2, -⟩ := tok_word h3 w_let.2.1 (by decide) (nh32_1 _)
  have h4 := h3.2.2.app
  obtain ⟨c1, c2⟩ := tok_num (lo := 1) (hi := 999) (by omega) h4 (nh59_2 _) hb'
  have h5 := h4.2.2.dg
  obtain ⟨d1, d2⟩ := tok_sym h5
  have hnl : ¬ isWd F n (i + (wLayer.length : Int) + 1 + dgs a + 1 + (wThick.length : Int) + 1 + dgs b) wLoss := fun z => by
    have k := (isWd_iff.mp z).1
    have e : tkC F n (i + (wLayer.length : Int) + 1 + dgs a + 1 + (wThick.length : Int) + 1 + dgs b) = 59 := by
      unfold tkC
      rw [tkS_0 h5 (by rw [isCl0]; omega)]
      exact h5.2.1
    unfold tkK at k
    rw [e] at k
    exact absurd k (by decide)
  unfold stmE
  rw [if_pos w1, layE_n (by omega), w2, a1, pb_inr rfl, a2, wdE_t b1, pb_inr rfl, b2, c1, pb_inr rfl, c2, if_neg hnl, d1, pb_inr rfl, d2]
  unfold tLay
  simp only [List.length_append, List.length_cons, List.length_nil]
  have l1 := dgL_len a
  have l2 := dgL_len b
  have e : i + (wLayer.length : Int) + 1 + dgs a + 1 + (wThick.length : Int) + 1 + dgs b + 1 = i + ((wLayer.length + ((dgL a).length + (wThick.length + ((dgL b).length + (0 + 1) + 1) + 1) + 1) : Nat) : Int) := by omega
  rw [e]
theorem sLay5 {F N : Int → Int} {n i ho hb a b c : Int} {r : List Int} (h : Sfx F n i (tLay5 a b c ++ r)) (hN : N 0 < 10) (ha : 1000 ≤ a ∧ a ≤ 4000) (hb' : 1 ≤ b ∧ b ≤ 999) (hc : 0 ≤ c ∧ c ≤ 99) : stmE F n i N ho hb = .inr (i + ((tLay5 a b c).length : Int), addLN N a b c, ho, hb) := by
  unfold tLay5 at h
  simp only [List.append_assoc, List.cons_append, List.nil_append] at h
  obtain ⟨w1, w2, -⟩ := tok_word0 h w_let.1 (by decide) (nh32_1 _)
  have h2 := h.app
  obtain ⟨a1, a2⟩ := tok_num (lo := 1000) (hi := 4000) (by omega) h2 (nh32_2 _) ha
  have h3 := h2.2.2.dg
  obtain ⟨b1, b2, -⟩ := tok_word h3 w_let.2.1 (by decide) (nh32_1 _)
  have h4 := h3.2.2.app
  obtain ⟨c1, c2⟩ := tok_num (lo := 1) (hi := 999) (by omega) h4 (nh32_2 _) hb'
  have h5 := h4.2.2.dg
  obtain ⟨g1, g2, -⟩ := tok_word h5 w_let.2.2.1 (by decide) (nh32_1 _)
  have h6 := h5.2.2.app
  obtain ⟨k1, k2⟩ := tok_num (lo := 0) (hi := 99) (by omega) h6 (nh59_2 _) hc
  have h7 := h6.2.2.dg
  obtain ⟨d1, d2⟩ := tok_sym h7
  unfold stmE
  rw [if_pos w1, layE_n (by omega), w2, a1, pb_inr rfl, a2, wdE_t b1, pb_inr rfl, b2, c1, pb_inr rfl, c2, if_pos g1, g2, k1, pb_inr rfl, k2, d1, pb_inr rfl, d2]
  unfold tLay5
  simp only [List.length_append, List.length_cons, List.length_nil]
  have l1 := dgL_len a
  have l2 := dgL_len b
  have l3 := dgL_len c
  have e : i + (wLayer.length : Int) + 1 + dgs a + 1 + (wThick.length : Int) + 1 + dgs b + 1 + (wLoss.length : Int) + 1 + dgs c + 1 = i + ((wLayer.length + ((dgL a).length + (wThick.length + ((dgL b).length + (wLoss.length + ((dgL c).length + (0 + 1) + 1) + 1) + 1) + 1) + 1) : Nat) : Int) := by omega
  rw [e]
theorem sOut {F N : Int → Int} {n i ho hb a : Int} {r : List Int} (h : Sfx F n i (tOut a ++ r)) (hN : N 0 ≠ 0) (h1 : ho ≠ 1) (ha : 1000 ≤ a ∧ a ≤ 4000) : stmE F n i N ho hb = .inr (i + ((tOut a).length : Int), upI N 1 a, 1, hb) := by
  unfold tOut at h
  simp only [List.append_assoc, List.cons_append, List.nil_append] at h
  obtain ⟨w1, w2, -⟩ := tok_word0 h w_let.2.2.2.1 (by decide) (nh32_1 _)
  have h2 := h.app
  obtain ⟨a1, a2⟩ := tok_num (lo := 1000) (hi := 4000) (by omega) h2 (nh59_2 _) ha
  have h3 := h2.2.2.dg
  obtain ⟨d1, d2⟩ := tok_sym h3
  unfold stmE
  rw [if_neg (isWd_not w1 (by decide)), if_neg hN, if_pos w1, outE_n h1, w2, a1, pb_inr rfl, a2, d1, pb_inr rfl, d2]
  unfold tOut
  simp only [List.length_append, List.length_cons, List.length_nil]
  have l1 := dgL_len a
  have e : i + (wOutside.length : Int) + 1 + dgs a + 1 = i + ((wOutside.length + ((dgL a).length + (0 + 1) + 1) : Nat) : Int) := by omega
  rw [e]
theorem sMir {F N : Int → Int} {n i ho hb a : Int} {r : List Int} (h : Sfx F n i (tMir a ++ r)) (hN : N 0 ≠ 0) (h1 : hb ≠ 1) (ha : 0 ≤ a ∧ a ≤ 100) : stmE F n i N ho hb = .inr (i + ((tMir a).length : Int), upI (upI N 2 1) 3 a, ho, 1) := by
  unfold tMir at h
  simp only [List.append_assoc, List.cons_append, List.nil_append] at h
  obtain ⟨w1, w2, -⟩ := tok_word0 h w_let.2.2.2.2.1 (by decide) (nh32_1 _)
  have h2 := h.app
  obtain ⟨m1, m2, -⟩ := tok_word h2 w_let.2.2.2.2.2.1 (by decide) (nh32_1 _)
  have h3 := h2.2.2.app
  obtain ⟨a1, a2⟩ := tok_num (lo := 0) (hi := 100) (by omega) h3 (nh59_2 _) ha
  have h4 := h3.2.2.dg
  obtain ⟨d1, d2⟩ := tok_sym h4
  unfold stmE
  rw [if_neg (isWd_not w1 (by decide)), if_neg hN, if_neg (isWd_not w1 (by decide)), if_pos w1, botE_m h1 (by rw [w2]; exact m1), w2, m2, a1, pb_inr rfl, a2, d1, pb_inr rfl, d2]
  unfold tMir
  simp only [List.length_append, List.length_cons, List.length_nil]
  have l1 := dgL_len a
  have e : i + (wBottom.length : Int) + 1 + (wMirror.length : Int) + 1 + dgs a + 1 = i + ((wBottom.length + (wMirror.length + ((dgL a).length + (0 + 1) + 1) + 1) : Nat) : Int) := by omega
  rw [e]
theorem sOpn {F N : Int → Int} {n i ho hb a : Int} {r : List Int} (h : Sfx F n i (tOpn a ++ r)) (hN : N 0 ≠ 0) (h1 : hb ≠ 1) (ha : 1000 ≤ a ∧ a ≤ 4000) : stmE F n i N ho hb = .inr (i + ((tOpn a).length : Int), upI (upI N 2 0) 3 a, ho, 1) := by
  unfold tOpn at h
  simp only [List.append_assoc, List.cons_append, List.nil_append] at h
  obtain ⟨w1, w2, -⟩ := tok_word0 h w_let.2.2.2.2.1 (by decide) (nh32_1 _)
  have h2 := h.app
  obtain ⟨m1, m2, -⟩ := tok_word h2 w_let.2.2.2.2.2.2.1 (by decide) (nh32_1 _)
  have h3 := h2.2.2.app
  obtain ⟨a1, a2⟩ := tok_num (lo := 1000) (hi := 4000) (by omega) h3 (nh59_2 _) ha
  have h4 := h3.2.2.dg
  obtain ⟨d1, d2⟩ := tok_sym h4
  unfold stmE
  rw [if_neg (isWd_not w1 (by decide)), if_neg hN, if_neg (isWd_not w1 (by decide)), if_pos w1, botE_o h1 (by rw [w2]; exact isWd_not m1 (by decide)) (by rw [w2]; exact m1), w2, m2, a1, pb_inr rfl, a2, d1, pb_inr rfl, d2]
  unfold tOpn
  simp only [List.length_append, List.length_cons, List.length_nil]
  have l1 := dgL_len a
  have e : i + (wBottom.length : Int) + 1 + (wOpen.length : Int) + 1 + dgs a + 1 = i + ((wBottom.length + (wOpen.length + ((dgL a).length + (0 + 1) + 1) + 1) : Nat) : Int) := by omega
  rw [e]
theorem sSho {F N : Int → Int} {n i ho hb a b c : Int} {r : List Int} (h : Sfx F n i (tSho a b c ++ r)) (hN : N 0 ≠ 0) (h4 : N 4 < 20) (ha : 0 ≤ a ∧ a ≤ 9 ∧ a < N 0) (hb' : b = 0 ∨ b = 1) (hc : 0 ≤ c ∧ c ≤ 3999 ∧ c < N (5 + 3 * a + 0)) : stmE F n i N ho hb = .inr (i + ((tSho a b c).length : Int), addSN N a b c, ho, hb) := by
  unfold tSho at h
  simp only [List.append_assoc, List.cons_append, List.nil_append] at h
  obtain ⟨w1, w2, -⟩ := tok_word0 h w_let.2.2.2.2.2.2.2.1 (by decide) (nh32_1 _)
  have h2 := h.app
  obtain ⟨a1, a2⟩ := tok_num (lo := 0) (hi := 9) (by omega) h2 (nh32_2 _) ⟨ha.1, ha.2.1⟩
  have h3 := h2.2.2.dg
  have hw : (∀ c ∈ (if b = 1 then wDown else wUp), 97 ≤ c ∧ c ≤ 122) ∧ (if b = 1 then wDown else wUp) ≠ [] := by
    split
    · exact ⟨w_let.2.2.2.2.2.2.2.2.1, by decide⟩
    · exact ⟨w_let.2.2.2.2.2.2.2.2.2, by decide⟩
  obtain ⟨m1, m2, -⟩ := tok_word h3 hw.1 hw.2 (nh32_1 _)
  have h5 := h3.2.2.app
  obtain ⟨c1, c2⟩ := tok_num (lo := 0) (hi := 3999) (by omega) h5 (nh59_2 _) ⟨hc.1, hc.2.1⟩
  have h6 := h5.2.2.dg
  obtain ⟨d1, d2⟩ := tok_sym h6
  have hd : isWd F n (i + (wShot.length : Int) + 1 + dgs a) wDown ∨ isWd F n (i + (wShot.length : Int) + 1 + dgs a) wUp := by
    split at m1
    · exact Or.inl m1
    · exact Or.inr m1
  have hbi : bI (isWd F n (i + (wShot.length : Int) + 1 + dgs a) wDown) = b := by
    rcases hb' with rfl | rfl
    · rw [if_neg (by decide)] at m1
      exact bI_f (isWd_not m1 (by decide))
    · rw [if_pos rfl] at m1
      exact bI_t m1
  unfold stmE
  rw [if_neg (isWd_not w1 (by decide)), if_neg hN, if_neg (isWd_not w1 (by decide)), if_neg (isWd_not w1 (by decide)), if_pos w1, shoE_n (by omega), w2, a1, pb_inr rfl, if_neg (by omega), a2, if_pos hd, m2, c1, pb_inr rfl, if_neg (by omega), c2, d1, pb_inr rfl, d2, hbi]
  unfold tSho
  simp only [List.length_append, List.length_cons, List.length_nil]
  have l1 := dgL_len a
  have l2 := dgL_len c
  have e : i + (wShot.length : Int) + 1 + dgs a + 1 + ((if b = 1 then wDown else wUp).length : Int) + 1 + dgs c + 1 = i + ((wShot.length + ((dgL a).length + ((if b = 1 then wDown else wUp).length + ((dgL c).length + (0 + 1) + 1) + 1) + 1) : Nat) : Int) := by omega
  rw [e]
/-! the whole text -/
abbrev PSt : Type := (Int → Int) × Int × Int
abbrev Stm : Type := Int × Int × Int × Int
def stT (s : Stm) : List Int := if s.1 = 0 then tLay s.2.1 s.2.2.1 else if s.1 = 5 then tLay5 s.2.1 s.2.2.1 s.2.2.2 else if s.1 = 1 then tOut s.2.1 else if s.1 = 2 then tMir s.2.1 else if s.1 = 3 then tOpn s.2.1 else tSho s.2.1 s.2.2.1 s.2.2.2
def stS (S : PSt) (s : Stm) : PSt := if s.1 = 0 then (addLN S.1 s.2.1 s.2.2.1 0, S.2.1, S.2.2) else if s.1 = 5 then (addLN S.1 s.2.1 s.2.2.1 s.2.2.2, S.2.1, S.2.2) else if s.1 = 1 then (upI S.1 1 s.2.1, 1, S.2.2) else if s.1 = 2 then (upI (upI S.1 2 1) 3 s.2.1, S.2.1, 1) else if s.1 = 3 then (upI (upI S.1 2 0) 3 s.2.1, S.2.1, 1) else (addSN S.1 s.2.1 s.2.2.1 s.2.2.2, S.2.1, S.2.2)
def stK (S : PSt) (s : Stm) : Prop := if s.1 = 0 then S.1 0 < 10 ∧ (1000 ≤ s.2.1 ∧ s.2.1 ≤ 4000) ∧ 1 ≤ s.2.2.1 ∧ s.2.2.1 ≤ 999 else if s.1 = 5 then S.1 0 < 10 ∧ (1000 ≤ s.2.1 ∧ s.2.1 ≤ 4000) ∧ (1 ≤ s.2.2.1 ∧ s.2.2.1 ≤ 999) ∧ 0 ≤ s.2.2.2 ∧ s.2.2.2 ≤ 99 else if s.1 = 1 then S.1 0 ≠ 0 ∧ S.2.1 ≠ 1 ∧ 1000 ≤ s.2.1 ∧ s.2.1 ≤ 4000 else if s.1 = 2 then S.1 0 ≠ 0 ∧ S.2.2 ≠ 1 ∧ 0 ≤ s.2.1 ∧ s.2.1 ≤ 100 else if s.1 = 3 then S.1 0 ≠ 0 ∧ S.2.2 ≠ 1 ∧ 1000 ≤ s.2.1 ∧ s.2.1 ≤ 4000 else
  S.1 0 ≠ 0 ∧ S.1 4 < 20 ∧ (0 ≤ s.2.1 ∧ s.2.1 ≤ 9 ∧ s.2.1 < S.1 0) ∧ (s.2.2.1 = 0 ∨ s.2.2.1 = 1) ∧ 0 ≤ s.2.2.2 ∧ s.2.2.2 ≤ 3999 ∧ s.2.2.2 < S.1 (5 + 3 * s.2.1 + 0)
theorem st_step {F : Int → Int} {n i : Int} {S : PSt} {s : Stm} {r : List Int} (h : Sfx F n i (stT s ++ r)) (hk : stK S s) : stmE F n i S.1 S.2.1 S.2.2 = .inr (i + ((stT s).length : Int), (stS S s).1, (stS S s).2.1, (stS S s).2.2) := by
  unfold stT at h ⊢
  unfold stK at hk
  unfold stS
  by_cases c0 : s.1 = 0
  · rw [if_pos c0] at h hk ⊢; rw [if_pos c0]; exact sLay h hk.1 hk.2.1 hk.2.2
  · rw [if_neg c0] at h hk ⊢; rw [if_neg c0]
    by_cases c5 : s.1 = 5
    · rw [if_pos c5] at h hk ⊢; rw [if_pos c5]; exact sLay5 h hk.1 hk.2.1 hk.2.2.1 hk.2.2.2
    · rw [if_neg c5] at h hk ⊢; rw [if_neg c5]
      by_cases c1 : s.1 = 1
      · rw [if_pos c1] at h hk ⊢; rw [if_pos c1]; exact sOut h hk.1 hk.2.1 hk.2.2
      · rw [if_neg c1] at h hk ⊢; rw [if_neg c1]
        by_cases c2 : s.1 = 2
        · rw [if_pos c2] at h hk ⊢; rw [if_pos c2]; exact sMir h hk.1 hk.2.1 hk.2.2
        · rw [if_neg c2] at h hk ⊢; rw [if_neg c2]
          by_cases c3 : s.1 = 3
          · rw [if_pos c3] at h hk ⊢; rw [if_pos c3]; exact sOpn h hk.1 hk.2.1 hk.2.2
          · rw [if_neg c3] at h hk ⊢; rw [if_neg c3]; exact sSho h hk.1 hk.2.1 hk.2.2.1 hk.2.2.2.1 hk.2.2.2.2
/-- a statement's text begins with a letter -/
theorem stT_ne (s : Stm) : ∃ c w, stT s = c :: w ∧ 97 ≤ c ∧ c ≤ 122 := by
  unfold stT
  (repeat' split) <;> exact ⟨_, _, rfl, by decide, by decide⟩
def runT : List Stm → List Int
  | [] => []
  | s :: L => stT s ++ runT L
def runK : List Stm → PSt → Prop
  | [], _ => True
  | s :: L, S => stK S s ∧ runK L (stS S s)
def runS : List Stm → PSt → PSt
  | [], S => S
  | s :: L, S => runS L (stS S s)
theorem tkK_end {F : Int → Int} {n i : Int} (h : i = n) : tkK F n i = 0 := by
  have e : tkS F n i = i := skp_stop (r := []) h (nhd_nil 0)
  unfold tkK tkC
  rw [e, bget_out (by omega), if_pos rfl]
theorem tkK_let {F : Int → Int} {n i c : Int} {w : List Int} (h : Sfx F n i (c :: w)) (hc : 97 ≤ c ∧ c ≤ 122) : tkK F n i ≠ 0 := by
  have e : tkS F n i = i := tkS_0 h (by rw [isCl0]; omega)
  unfold tkK tkC
  rw [e, h.2.1, if_neg (by omega), if_pos hc]
  decide
theorem prs_run {F : Int → Int} {n : Int} : ∀ (L : List Stm) (f : Nat) (i : Int) (S : PSt), L ≠ [] → L.length ≤ f → Sfx F n i (runT L) → runK L S → prsE F n f i S.1 S.2.1 S.2.2 = .inr (runS L S).1
  | [], _, _, _, h, _, _, _ => absurd rfl h
  | s :: L, 0, _, _, _, hf, _, _ => absurd hf (by simp)
  | s :: L, f + 1, i, S, _, hf, h, hk => by
    have e := st_step (r := runT L) h hk.1
    have h2 : Sfx F n (i + ((stT s).length : Int)) (runT L) := h.app
    cases L with
    | nil => exact prs_end rfl e (tkK_end h2)
    | cons s2 L2 =>
      obtain ⟨c, w, e3, hc⟩ := stT_ne s2
      have h3 := h2
      simp only [runT] at h3
      rw [e3] at h3
      rw [prs_next (x := prsE F n (f + 1) i S.1 S.2.1 S.2.2) rfl e (tkK_let h3 hc)]
      exact prs_run (s2 :: L2) f _ (stS S s) (by simp) (by simp at hf ⊢; omega) h2 hk.2
/-- what has been built is the text of statements that lead to S -/
def TxS (tx : List Int) (S : PSt) : Prop := ∃ L : List Stm, tx = runT L ∧ runK L (eN0, 0, 0) ∧ S = runS L (eN0, 0, 0)
theorem run_app : ∀ (L : List Stm) (s : Stm) (S : PSt), runT (L ++ [s]) = runT L ++ stT s ∧ (runK (L ++ [s]) S ↔ runK L S ∧ stK (runS L S) s) ∧ runS (L ++ [s]) S = stS (runS L S) s
  | [], s, S => ⟨by simp [runT], by simp [runK, runS], rfl⟩
  | t :: L, s, S => by
    obtain ⟨a, b, c⟩ := run_app L s (stS S t)
    refine ⟨?_, ?_, ?_⟩
    · simp only [List.cons_append, runT, a, List.append_assoc]
    · simp only [List.cons_append, runK, runS, b, and_assoc]
    · simp only [List.cons_append, runS, c]
theorem TxS.nil : TxS [] (eN0, 0, 0) := ⟨[], rfl, trivial, rfl⟩
theorem TxS.snoc {tx : List Int} {S : PSt} (h : TxS tx S) (s : Stm) (hk : stK S s) : TxS (tx ++ stT s) (stS S s) := by
  obtain ⟨L, a, b, c⟩ := h
  obtain ⟨p, q, r⟩ := run_app L s (eN0, 0, 0)
  exact ⟨L ++ [s], by rw [p, a], q.mpr ⟨b, by rw [← c]; exact hk⟩, by rw [r, c]⟩
theorem Sfx.of {F : Int → Int} {n : Int} : ∀ (tx : List Int) (i : Int), 0 ≤ i → i + (tx.length : Int) = n → (∀ j : Nat, j < tx.length → bget F n (i + (j : Int)) = tx.getD j 0) → Sfx F n i tx
  | [], i, _, h, _ => by show i = n; simpa using h
  | c :: w, i, h0, h, hb => by
    rw [List.length_cons] at h
    refine ⟨⟨h0, by omega⟩, ?_, Sfx.of w (i + 1) (by omega) (by omega) (fun j hj => ?_)⟩
    · have := hb 0 (by simp)
      rw [show i + ((0 : Nat) : Int) = i by omega] at this
      simpa using this
    · have := hb (j + 1) (by simp; omega)
      rw [show i + 1 + (j : Int) = i + ((j + 1 : Nat) : Int) by omega, this]
      simp
theorem runT_len : ∀ L : List Stm, L.length ≤ (runT L).length
  | [] => Nat.le_refl _
  | s :: L => by
    obtain ⟨c, w, e, -⟩ := stT_ne s
    have := runT_len L
    simp only [runT, List.length_cons, List.length_append, e]
    omega
theorem TxS.prs {tx : List Int} {S : PSt} (h : TxS tx S) (hne : tx ≠ []) (hl : tx.length ≤ 400) {F : Int → Int} {n : Int} (hn : n = (tx.length : Int)) (hF : ∀ j : Nat, j < tx.length → F (j : Int) % 256 = tx.getD j 0) : prsX F n = .inr S.1 := by
  obtain ⟨L, rfl, b, rfl⟩ := h
  have hL : L ≠ [] := fun z => hne (by rw [z]; rfl)
  refine prs_run L 401 0 (eN0, 0, 0) hL (by have := runT_len L; omega) (Sfx.of _ 0 (Int.le_refl _) (by omega) (fun j hj => ?_)) b
  rw [bget_in (by omega), show (0 : Int) + (j : Int) = (j : Int) by omega]
  exact hF j hj
/-- all letters are letters -/
theorem stT_let {S : PSt} {s : Stm} (hk : stK S s) : ∀ c ∈ stT s, 0 ≤ c ∧ c ≤ 127 := by
  have dg : ∀ z : Int, 0 ≤ z ∧ z < 10000 → ∀ c ∈ dgL z, 0 ≤ c ∧ c ≤ 127 := fun z hz c hc => by have := dgL_dig hz c hc; omega
  have w9 : ∀ c ∈ wLayer ++ wThick ++ wLoss ++ wOutside ++ wBottom ++ wMirror ++ wOpen ++ wShot ++ wDown ++ wUp, (0 : Int) ≤ c ∧ c ≤ 127 := by decide
  intro c hc
  unfold stK at hk
  unfold stT tLay tLay5 tOut tMir tOpn tSho at hc
  by_cases c0 : s.1 = 0
  · rw [if_pos c0] at hk hc
    simp only [List.mem_append, List.mem_cons, List.not_mem_nil, or_false] at hc w9
    rcases hc with h | h | h | h | h | h | h | h
    all_goals first | (subst h; decide) | exact dg _ (by omega) c h | exact w9 c (by simp [h])
  · rw [if_neg c0] at hk hc
    by_cases c5 : s.1 = 5
    · rw [if_pos c5] at hk hc
      simp only [List.mem_append, List.mem_cons, List.not_mem_nil, or_false] at hc w9
      rcases hc with h | h | h | h | h | h | h | h | h | h | h | h
      all_goals first | (subst h; decide) | exact dg _ (by omega) c h | exact w9 c (by simp [h])
    · rw [if_neg c5] at hk hc
      by_cases c1 : s.1 = 1
      · rw [if_pos c1] at hk hc
        simp only [List.mem_append, List.mem_cons, List.not_mem_nil, or_false] at hc w9
        rcases hc with h | h | h | h
        all_goals first | (subst h; decide) | exact dg _ (by omega) c h | exact w9 c (by simp [h])
      · rw [if_neg c1] at hk hc
        by_cases c2 : s.1 = 2
        · rw [if_pos c2] at hk hc
          simp only [List.mem_append, List.mem_cons, List.not_mem_nil, or_false] at hc w9
          rcases hc with h | h | h | h | h | h
          all_goals first | (subst h; decide) | exact dg _ (by omega) c h | exact w9 c (by simp [h])
        · rw [if_neg c2] at hk hc
          by_cases c3 : s.1 = 3
          · rw [if_pos c3] at hk hc
            simp only [List.mem_append, List.mem_cons, List.not_mem_nil, or_false] at hc w9
            rcases hc with h | h | h | h | h | h
            all_goals first | (subst h; decide) | exact dg _ (by omega) c h | exact w9 c (by simp [h])
          · rw [if_neg c3] at hk hc
            have hw : ∀ c ∈ (if s.2.2.1 = 1 then wDown else wUp), (0 : Int) ≤ c ∧ c ≤ 127 := by
              split <;> decide
            simp only [List.mem_append, List.mem_cons, List.not_mem_nil, or_false] at hc w9
            rcases hc with h | h | h | h | h | h | h | h
            all_goals first | (subst h; decide) | exact dg _ (by omega) c h | exact w9 c (by simp [h]) | exact hw c h
theorem run_let : ∀ (L : List Stm) (S : PSt), runK L S → ∀ c ∈ runT L, 0 ≤ c ∧ c ≤ 127
  | [], _, _, c, hc => by cases hc
  | s :: L, S, hk, c, hc => by
    simp only [runT, List.mem_append] at hc
    rcases hc with h | h
    · exact stT_let hk.1 c h
    · exact run_let L (stS S s) hk.2 c h
theorem TxS.let {tx : List Int} {S : PSt} (h : TxS tx S) : ∀ c ∈ tx, 0 ≤ c ∧ c ≤ 127 := by
  obtain ⟨L, rfl, b, -⟩ := h
  exact run_let L _ b
