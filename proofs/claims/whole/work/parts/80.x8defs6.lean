/-! ===== texts that are appended or written; what two paths have in common ===== -/
def app4 (F : Int → Int) (n v : Int) : Int → Int := upI (upI (upI (upI F n (v / 16777216)) (n + 1) (v / 65536)) (n + 1 + 1) (v / 256)) (n + 1 + 1 + 1) (v / 1)
def apd5 (F : Int → Int) (n a b c d e : Int) : Int → Int := app4 (app4 (app4 (app4 (app4 F n a) (n + 4) b) (n + 4 + 4) c) (n + 4 + 4 + 4) d) (n + 4 + 4 + 4 + 4) e
/-- the bytes F are the text -/
def OutI (F : Int → Int) (n : Int) (tx : List Int) : Prop := n = (tx.length : Int) ∧ ∀ j : Nat, j < tx.length → F (j : Int) = tx.getD j 0
theorem OutI.nil (F : Int → Int) : OutI F 0 [] := ⟨rfl, fun j hj => absurd hj (Nat.not_lt_zero j)⟩
theorem OutI.add {F : Int → Int} {n : Int} {tx : List Int} (h : OutI F n tx) (c : Int) : OutI (upI F n c) (n + 1) (tx ++ [c]) := by
  obtain ⟨h1, h2⟩ := h
  refine ⟨by rw [List.length_append]; simp only [List.length_singleton]; omega, fun j hj => ?_⟩
  rw [List.length_append, List.length_singleton] at hj
  by_cases q : j = tx.length
  · rw [upI_e _ _ (by omega), q]
    simp [List.getD]
  · rw [upI_n _ _ (by omega), h2 j (by omega), List.getD_eq_getElem?_getD, List.getD_eq_getElem?_getD, List.getElem?_append_left (by omega)]
def dgL (z : Int) : List Int := (List.range (dgs z).toNat).map (fun k : Nat => dgt z (k : Int))
theorem dgs_bd (z : Int) : 1 ≤ dgs z ∧ dgs z ≤ 4 := by
  unfold dgs
  (repeat' split) <;> omega
theorem dgL_len (z : Int) : ((dgL z).length : Int) = dgs z := by
  have := dgs_bd z
  unfold dgL
  rw [List.length_map, List.length_range]
  omega
theorem OutI.num {F F2 : Int → Int} {n z : Int} {tx : List Int} (h : OutI F n tx) (hF : ∀ j : Int, F2 j = if n ≤ j ∧ j < n + dgs z then dgt z (j - n) else F j) : OutI F2 (n + dgs z) (tx ++ dgL z) := by
  obtain ⟨h1, h2⟩ := h
  have hl := dgL_len z
  refine ⟨by rw [List.length_append]; omega, fun j hj => ?_⟩
  rw [List.length_append] at hj
  rw [hF]
  by_cases q : j < tx.length
  · rw [if_neg (by omega), h2 j q, List.getD_eq_getElem?_getD, List.getD_eq_getElem?_getD, List.getElem?_append_left q]
  · rw [if_pos (by omega)]
    have hk : j - tx.length < (dgs z).toNat := by omega
    rw [List.getD_eq_getElem?_getD, List.getElem?_append_right (by omega)]
    unfold dgL
    rw [List.getElem?_map, List.getElem?_range hk]
    show dgt z _ = dgt z _
    congr 1
    omega
/-- the first so many layers -/
def lyT (N : Int → Int) : Nat → List Int
  | 0 => []
  | k + 1 => lyT N k ++ ((if 0 < k then [47] else []) ++ dgL (N (5 + 3 * (k : Int) + 0)) ++ [120] ++ dgL (N (5 + 3 * (k : Int) + 1)))
def layT (N : Int → Int) : List Int := lyT N (N 0).toNat ++ [if N 2 = 1 then 35 else 124] ++ dgL (N 3)
def lgT (N : Int → Int) (r : Int) : Nat → List Int
  | 0 => []
  | k + 1 => lgT N r k ++ ([if ekS N r k = 1 then 118 else 94] ++ dgL (ykS N r k))
def pthT (N : Int → Int) (r : Int) : List Int := lgT N r (gS N r) ++ [[116, 98, 97, 114, 110].getD (eS N r).toNat 0]
/-- how many hold from the first one on -/
def cpf (p : Nat → Bool) : Nat → Nat
  | 0 => 0
  | n + 1 => if cpf p n = n ∧ p n = true then n + 1 else cpf p n
theorem cpf_spec (p : Nat → Bool) : ∀ n : Nat, cpf p n ≤ n ∧ (∀ i, i < cpf p n → p i = true) ∧ (cpf p n < n → ¬ p (cpf p n) = true)
  | 0 => ⟨Nat.le_refl _, fun i hi => absurd hi (Nat.not_lt_zero i), fun h => absurd h (Nat.lt_irrefl _)⟩
  | n + 1 => by
    obtain ⟨a, b, c⟩ := cpf_spec p n
    unfold cpf
    by_cases h : cpf p n = n ∧ p n = true
    · rw [if_pos h]
      refine ⟨Nat.le_refl _, fun i hi => ?_, fun q => absurd q (Nat.lt_irrefl _)⟩
      by_cases q : i < n
      · exact b i (by omega)
      · rw [show i = n by omega]; exact h.2
    · rw [if_neg h]
      refine ⟨by omega, b, fun _ => ?_⟩
      by_cases q : cpf p n < n
      · exact c q
      · have e : cpf p n = n := by omega
        intro z
        exact h ⟨e, by rw [e] at z; exact z⟩
theorem cpf_eq {p : Nat → Bool} {n k : Nat} (hk : k ≤ n) (h1 : ∀ i, i < k → p i = true) (h2 : k < n → ¬ p k = true) : cpf p n = k := by
  obtain ⟨a, b, c⟩ := cpf_spec p n
  rcases Nat.lt_trichotomy (cpf p n) k with q | q | q
  · exact absurd (h1 _ q) (c (by omega))
  · exact q
  · exact absurd (b k q) (h2 (by omega))
def alkP (N : Int → Int) (r s : Int) (i : Nat) : Bool := decide (ykS N r i = ykS N s i ∧ ekS N r i = ekS N s i)
def alkS (N : Int → Int) (r s : Int) : Nat := cpf (alkP N r s) (min (gS N r) (gS N s))
theorem AlkN.alk {N : Int → Int} {r s x : Int} {pv pw : PV} (h : PthR N (sP N r) (sY N r) (sD N r) pv) (g : PthR N (sP N s) (sY N s) (sD N s) pw) (hx : AlkN pv.2.2.1 pv.2.2.2.1 pw.2.2.1 pw.2.2.2.1 pv.1 pw.1 x) : x = (alkS N r s : Int) := by
  obtain ⟨x0, x1, x2, x3, x4⟩ := hx
  have e1 : pv.1 = (gS N r : Int) := h.2.1
  have e2 : pw.1 = (gS N s : Int) := g.2.1
  have q : alkS N r s = x.toNat := by
    refine cpf_eq (by omega) (fun i hi => ?_) (fun hlt => ?_)
    · have z := x3 (i : Int) (by omega) (by omega)
      have a := h.at0 (k := i) (by omega)
      have b := g.at0 (k := i) (by omega)
      rw [a.1, a.2.1, b.1, b.2.1] at z
      exact decide_eq_true z
    · have a := h.at0 (k := x.toNat) (by omega)
      have b := g.at0 (k := x.toNat) (by omega)
      rw [Int.toNat_of_nonneg x0] at a b
      rcases x4 with x4 | x4 | x4
      · omega
      · omega
      · rw [a.1, a.2.1, b.1, b.2.1] at x4
        intro z
        exact x4 (of_decide_eq_true z)
  omega
/-- the first time at which both are in one layer -/
def tgR (N : Int → Int) (r s x : Int) : Prop := MeetR (fun i => ykS N r i.toNat) (fun i => tqS N r i.toNat) (fun i => ykS N s i.toNat) (fun i => tqS N s i.toNat) (gS N r) (gS N s) x
theorem sF_congr {F G : Int → Int} {n : Nat} (h : ∀ i : Nat, i < n → F (i : Int) = G (i : Int)) {k : Nat} (hk : k ≤ n) : sF F k = sF G k := smN_congr k (fun i hi => h i (by omega))
theorem TogM.congr {A0 A4 B0 B4 A0' A4' B0' B4' : Int → Int} {n m : Nat} {t : Int} (h0 : ∀ i : Nat, i < n → A0 (i : Int) = A0' (i : Int)) (h4 : ∀ i : Nat, i < n → A4 (i : Int) = A4' (i : Int)) (g0 : ∀ i : Nat, i < m → B0 (i : Int) = B0' (i : Int)) (g4 : ∀ i : Nat, i < m → B4 (i : Int) = B4' (i : Int)) (h : TogM A0 A4 B0 B4 n m t) : TogM A0' A4' B0' B4' n m t := by
  obtain ⟨i, j, hi, hj, a, b, c⟩ := h
  refine ⟨i, j, hi, hj, ?_, ?_, ?_⟩
  · rw [← sF_congr h4 (Nat.le_of_lt hi), ← sF_congr h4 (show i + 1 ≤ n from hi)]; exact a
  · rw [← sF_congr g4 (Nat.le_of_lt hj), ← sF_congr g4 (show j + 1 ≤ m from hj)]; exact b
  · rw [← h0 i hi, ← g0 j hj]; exact c
theorem CndM.congr {A4 B4 A4' B4' : Int → Int} {n m : Nat} {t : Int} (h4 : ∀ i : Nat, i < n → A4 (i : Int) = A4' (i : Int)) (g4 : ∀ i : Nat, i < m → B4 (i : Int) = B4' (i : Int)) (h : CndM A4 B4 n m t) : CndM A4' B4' n m t := by
  rcases h with h | ⟨k, hk, h⟩ | ⟨k, hk, h⟩
  · exact Or.inl h
  · exact Or.inr (Or.inl ⟨k, hk, by rw [← sF_congr h4 (show k + 1 ≤ n from hk)]; exact h⟩)
  · exact Or.inr (Or.inr ⟨k, hk, by rw [← sF_congr g4 (show k + 1 ≤ m from hk)]; exact h⟩)
theorem MeetR.congr {A0 A4 B0 B4 A0' A4' B0' B4' : Int → Int} {n m : Nat} {r : Int} (h0 : ∀ i : Nat, i < n → A0 (i : Int) = A0' (i : Int)) (h4 : ∀ i : Nat, i < n → A4 (i : Int) = A4' (i : Int)) (g0 : ∀ i : Nat, i < m → B0 (i : Int) = B0' (i : Int)) (g4 : ∀ i : Nat, i < m → B4 (i : Int) = B4' (i : Int)) (h : MeetR A0 A4 B0 B4 n m r) : MeetR A0' A4' B0' B4' n m r := by
  have s0 := fun i hi => (h0 i hi).symm
  have s4 := fun i hi => (h4 i hi).symm
  have z0 := fun i hi => (g0 i hi).symm
  have z4 := fun i hi => (g4 i hi).symm
  rcases h with ⟨a, b⟩ | ⟨a, b, c⟩
  · exact Or.inl ⟨a, fun t ht g => b t (ht.congr s4 z4) (g.congr s0 s4 z0 z4)⟩
  · exact Or.inr ⟨a.congr h4 g4, b.congr h0 h4 g0 g4, fun t ht hlt g => c t (ht.congr s4 z4) hlt (g.congr s0 s4 z0 z4)⟩
theorem MeetR.one {A0 A4 B0 B4 : Int → Int} {n m : Nat} {r s : Int} (h : MeetR A0 A4 B0 B4 n m r) (g : MeetR A0 A4 B0 B4 n m s) : r = s := by
  rcases h with ⟨a, b⟩ | ⟨a, b, c⟩
  · rcases g with ⟨a', b'⟩ | ⟨a', b', c'⟩
    · omega
    · exact absurd b' (b s a')
  · rcases g with ⟨a', b'⟩ | ⟨a', b', c'⟩
    · exact absurd b (b' r a)
    · rcases Int.lt_trichotomy r s with q | q | q
      · exact absurd b (c' r a q)
      · exact q
      · exact absurd b' (c s a' q)
theorem MeetR.tg {N : Int → Int} {r s x : Int} {pv pw : PV} (h : PthR N (sP N r) (sY N r) (sD N r) pv) (g : PthR N (sP N s) (sY N s) (sD N s) pw) (hx : MeetR pv.2.2.1 pv.2.2.2.2.2.2.1 pw.2.2.1 pw.2.2.2.2.2.2.1 (gS N r) (gS N s) x) : tgR N r s x :=
  hx.congr (fun i hi => (h.at0 hi).1) (fun i hi => (h.at0 hi).2.2.2) (fun i hi => (g.at0 hi).1) (fun i hi => (g.at0 hi).2.2.2)
