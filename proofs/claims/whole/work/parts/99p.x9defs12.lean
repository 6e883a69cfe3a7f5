/-! ===== the model's parser ===== -/
def sgB (z : Int) : Int := (z + 128) % 256 - 128
theorem bB_sg (z : Int) : bB z = iI (sgB z) := by
  have h : -128 ≤ sgB z ∧ sgB z ≤ 127 := by unfold sgB; omega
  rw [← Int32.toInt_inj, iI_toInt (by omega)]
  unfold bB
  rw [Int8.toInt_toInt32, Int32.toInt_toInt8]
  unfold iI
  rw [Int32.toInt_ofInt, Int.bmod_bmod_of_dvd (by decide)]
  unfold sgB
  simp only [Int.bmod]
  split <;> omega
theorem sgB_eq {z c : Int} (hc : 0 ≤ c ∧ c ≤ 127) : sgB z = c ↔ z % 256 = c := by
  unfold sgB
  omega
/-- as TokI, where a number is at most 9999 and a sign has its value -/
def TokM (F : Int → Int) (n i p t k v : Int) : Prop := p = tkE F n i ∧ t = tkS F n i ∧ k = tkK F n i ∧ (k = 2 → v = min 9999 (tkV F n i)) ∧ (k = 3 → v = tkC F n i)
theorem TokM.c0 {F : Int → Int} {n i z v : Int} (hz : z = tkS F n i) (h : tkC F n i = -1) : TokM F n i z z 0 v := by
  unfold TokM tkE tkK
  rw [if_pos h, if_pos h]
  exact ⟨hz, hz, rfl, fun q => absurd q (by decide), fun q => absurd q (by decide)⟩
theorem TokM.c1 {F : Int → Int} {n i z p v : Int} (hz : z = tkS F n i) (h : ¬ tkC F n i = -1) (h1 : 97 ≤ tkC F n i ∧ tkC F n i ≤ 122) (hp : p = skp F n 1 z) : TokM F n i p z 1 v := by
  unfold TokM tkE tkK
  rw [if_neg h, if_neg h, if_pos h1, if_pos h1, ← hz]
  exact ⟨hp, rfl, rfl, fun q => absurd q (by decide), fun q => absurd q (by decide)⟩
theorem TokM.c2 {F : Int → Int} {n i z p v : Int} (hz : z = tkS F n i) (h : ¬ tkC F n i = -1) (h1 : ¬ (97 ≤ tkC F n i ∧ tkC F n i ≤ 122)) (h2 : 48 ≤ tkC F n i ∧ tkC F n i ≤ 57) (hp : p = skp F n 2 z) (hv : v = nmb F n 9999 z 0) : TokM F n i p z 2 v := by
  unfold TokM tkE tkK tkV
  rw [if_neg h, if_neg h, if_neg h1, if_neg h1, if_pos h2, if_pos h2, ← hz]
  refine ⟨hp, rfl, rfl, fun _ => ?_, fun q => absurd q (by decide)⟩
  rw [hv]
  exact nmF_cap F n (c := 9999) (d := 1000000) (by decide) (by decide) _ z 0 (Int.le_refl _)
theorem TokM.c3 {F : Int → Int} {n i z v : Int} (hz : z = tkS F n i) (h : ¬ tkC F n i = -1) (h1 : ¬ (97 ≤ tkC F n i ∧ tkC F n i ≤ 122)) (h2 : ¬ (48 ≤ tkC F n i ∧ tkC F n i ≤ 57)) (hv : v = tkC F n i) : TokM F n i (z + 1) z 3 v := by
  unfold TokM tkE tkK
  rw [if_neg h, if_neg h, if_neg h1, if_neg h1, if_neg h2, if_neg h2, ← hz]
  exact ⟨rfl, rfl, rfl, fun q => absurd q (by decide), fun _ => hv⟩
theorem TokM.bd {F : Int → Int} {n i p t k v : Int} (h : TokM F n i p t k v) (h0 : 0 ≤ i) (h1 : i ≤ n) : (i ≤ t ∧ t ≤ p ∧ p ≤ n) ∧ (k ≠ 0 → t < p) ∧ (0 ≤ k ∧ k ≤ 3) ∧ (k = 2 → 0 ≤ v ∧ v ≤ 9999) ∧ (k = 3 → -1 ≤ v ∧ v ≤ 255) := by
  obtain ⟨rfl, rfl, rfl, hv, hw⟩ := h
  have a := tk_bd F h0 h1
  exact ⟨a.1, a.2.1, a.2.2.1, fun q => by rw [hv q]; have := a.2.2.2; omega, fun q => by rw [hw q]; exact bget_bd F n _⟩
/-- the state fits what has been read: an error, or the token that is read from a place on -/
def MSt (F : Int → Int) (n : Int) (x : PE Int) (p t k v c e : Int) : Prop := match x with
  | .inl a => c = a.1 ∧ e = a.2 ∧ (1 ≤ c ∧ c ≤ 6) ∧ 0 ≤ e ∧ e ≤ n
  | .inr i => c = 0 ∧ e = -1 ∧ (0 ≤ i ∧ i ≤ n) ∧ TokM F n i p t k v
section MST
variable {F : Int → Int} {n p t k v c e : Int} {x : PE Int}
theorem MSt.rg (h : MSt F n x p t k v c e) : 0 ≤ c ∧ c ≤ 6 ∧ -1 ≤ e ∧ (c = 0 ∨ e ≤ n) := by
  cases x with
  | inl a => obtain ⟨_, _, h3, h4⟩ := h; omega
  | inr i => obtain ⟨h1, h2, _⟩ := h; omega
theorem MSt.good (h : MSt F n x p t k v c e) (hc : c = 0) : ∃ i, x = .inr i ∧ e = -1 ∧ (0 ≤ i ∧ i ≤ n) ∧ TokM F n i p t k v := by
  cases x with
  | inl a => obtain ⟨_, _, h3, h4⟩ := h; omega
  | inr i => exact ⟨i, rfl, h.2⟩
theorem MSt.bad (h : MSt F n x p t k v c e) (hc : ¬ c = 0) : ∃ a, x = .inl a := by
  cases x with
  | inl a => exact ⟨a, rfl⟩
  | inr i => exact absurd h.1 hc
/-- an error stays -/
theorem MSt.keep (h : MSt F n x p t k v c e) (hc : ¬ c = 0) (f : Int → PE Int) {p2 t2 k2 v2 : Int} : MSt F n (pb x f) p2 t2 k2 v2 c e := by
  obtain ⟨a, rfl⟩ := h.bad hc
  exact h
theorem MSt.err (h : MSt F n x p t k v c e) (hc : c = 0) {d : Int} (hd : 1 ≤ d ∧ d ≤ 6) : MSt F n (pb x fun i => fl F n i d) p t k v d t := by
  obtain ⟨i, rfl, _, hi, ht⟩ := h.good hc
  have b := ht.bd hi.1 hi.2
  exact ⟨rfl, ht.2.1, hd, by omega, by omega⟩
theorem MSt.ne {d : Int} (h : MSt F n (pb x fun i => fl F n i d) p t k v c e) : ¬ c = 0 := by
  cases x with
  | inl a => have := h.2.2.1; omega
  | inr i => have := h.2.2.1; omega
theorem MSt.same (h : MSt F n x p t k v c e) : MSt F n (pb x fun i => .inr i) p t k v c e := by
  cases x with
  | inl a => exact h
  | inr i => exact h
theorem MSt.next (h : MSt F n x p t k v c e) (hc : c = 0) {p2 t2 k2 v2 : Int} (g : TokM F n p p2 t2 k2 v2) : MSt F n (pb x fun i => .inr (tkE F n i)) p2 t2 k2 v2 c e := by
  obtain ⟨i, rfl, he, hi, ht⟩ := h.good hc
  have b := ht.bd hi.1 hi.2
  have q := ht.1
  subst q
  exact ⟨hc, he, by omega, g⟩
/-- the word is there -/
def wdX (F : Int → Int) (n : Int) (x : PE Int) (w : List Int) : Bool := match x with
  | .inl _ => false
  | .inr i => wdB F n i w
theorem wdX_bad (h : MSt F n x p t k v c e) (hc : ¬ c = 0) (w : List Int) : ¬ wdX F n x w = true := by
  obtain ⟨a, rfl⟩ := h.bad hc
  exact fun z => nomatch z
end MST
section MST2
variable {F : Int → Int} {n p t k v c e : Int} {x : PE Int}
theorem MSt.if_f (h : MSt F n x p t k v c e) {b d : Int} (hb : ¬ b = 1) : MSt F n (pb x fun i => if b = 1 then fl F n i d else .inr i) p t k v c e := by
  rw [show (fun i : Int => (if b = 1 then fl F n i d else .inr i : PE Int)) = fun i => .inr i from funext fun i => if_neg hb]
  exact h.same
theorem MSt.if_t {b d : Int} (hb : b = 1) (h : MSt F n (pb x fun i => fl F n i d) p t k v c e) : MSt F n (pb x fun i => if b = 1 then fl F n i d else .inr i) p t k v c e := by
  rw [show (fun i : Int => (if b = 1 then fl F n i d else .inr i : PE Int)) = fun i => fl F n i d from funext fun i => if_pos hb]
  exact h
def WdA (F : Int → Int) (n : Int) (x : PE Int) (st : Int) (w : List Int) : Prop := ∃ i, x = .inr i ∧ (0 ≤ i ∧ i ≤ n) ∧ tkK F n i = 1 ∧ tkE F n i - tkS F n i = (w.length : Int) ∧ st = tkS F n i
theorem WdA.rg {st : Int} {w : List Int} (h : WdA F n x st w) : 0 ≤ st ∧ st + (w.length : Int) ≤ n := by
  obtain ⟨i, _, hi, _, h4, h5⟩ := h
  have b := (tk_bd F hi.1 hi.2).1
  omega
theorem WdA.yes {st : Int} {w : List Int} (h : WdA F n x st w) (hz : ∀ j : Nat, j < w.length → bget F n (st + j) = w.getD j 0) : wdX F n x w = true := by
  obtain ⟨i, rfl, hi, h3, h4, rfl⟩ := h
  exact isWd_iff.mpr ⟨h3, h4, hz⟩
theorem WdA.no {st : Int} {w : List Int} (h : WdA F n x st w) {j : Nat} (hj : j < w.length) (hne : ¬ bget F n (st + j) = w.getD j 0) : ¬ wdX F n x w = true := by
  obtain ⟨i, rfl, hi, h3, h4, rfl⟩ := h
  exact fun z => hne ((isWd_iff.mp z).2.2 j hj)
theorem MSt.wdN (h : MSt F n x p t k v c e) (hc : c = 0) {w : List Int} (hk : ¬ (k = 1 ∧ p - t = (w.length : Int))) : ¬ wdX F n x w = true := by
  obtain ⟨i, rfl, _, hi, ht⟩ := h.good hc
  intro z
  have y := isWd_iff.mp z
  have h1 := ht.1
  have h2 := ht.2.1
  have h3 := ht.2.2.1
  omega
theorem MSt.wdA (h : MSt F n x p t k v c e) (hc : c = 0) {w : List Int} (hk : k = 1) (hl : p - t = (w.length : Int)) : WdA F n x t w := by
  obtain ⟨i, rfl, _, hi, ht⟩ := h.good hc
  have h1 := ht.1
  have h2 := ht.2.1
  have h3 := ht.2.2.1
  exact ⟨i, rfl, hi, by omega, by omega, h2⟩
theorem MSt.nh1 (h0 : MSt F n x p t k v c e) (hc : c = 0) (hk : ¬ k = 2) {lo hi c' e' : Int} (h : MSt F n (pb x fun i => fl F n i 1) p t k v c' e') : MSt F n (pb x fun i => pb (numE F n i lo hi) fun _ => .inr i) p t k v c' e' := by
  obtain ⟨i, rfl, _, _, ht⟩ := h0.good hc
  have h3 := ht.2.2.1
  have q : numE F n i lo hi = fl F n i 1 := numE_1 (by omega)
  show MSt F n (pb (numE F n i lo hi) fun _ => .inr i) p t k v c' e'
  rw [q]
  exact h
theorem MSt.nh2 (h0 : MSt F n x p t k v c e) (hc : c = 0) (hk : k = 2) {lo hi c' e' : Int} (hh : hi ≤ 9998) (hv : ¬ (lo ≤ v ∧ v ≤ hi)) (h : MSt F n (pb x fun i => fl F n i 2) p t k v c' e') : MSt F n (pb x fun i => pb (numE F n i lo hi) fun _ => .inr i) p t k v c' e' := by
  obtain ⟨i, rfl, _, _, ht⟩ := h0.good hc
  have h3 := ht.2.2.1
  have h4 := ht.2.2.2.1 hk
  have q : numE F n i lo hi = fl F n i 2 := numE_2 (by omega) (by omega)
  show MSt F n (pb (numE F n i lo hi) fun _ => .inr i) p t k v c' e'
  rw [q]
  exact h
theorem MSt.nh3 (h0 : MSt F n x p t k v c e) (hc : c = 0) (hk : k = 2) {lo hi : Int} (hh : hi ≤ 9998) (hv : lo ≤ v ∧ v ≤ hi) : MSt F n (pb x fun i => pb (numE F n i lo hi) fun _ => .inr i) p t k v c e ∧ ∀ i, x = .inr i → v = tkV F n i := by
  obtain ⟨i, rfl, _, _, ht⟩ := h0.good hc
  have h3 := ht.2.2.1
  have h4 := ht.2.2.2.1 hk
  have q : numE F n i lo hi = .inr (tkV F n i) := numE_3 (by omega) (by omega)
  refine ⟨?_, fun j hj => by cases hj; omega⟩
  show MSt F n (pb (numE F n i lo hi) fun _ => .inr i) p t k v c e
  rw [q]
  exact h0
theorem nb_eq (lo hi : Int) : (pb (pb x fun i => pb (numE F n i lo hi) fun _ => .inr i) fun i => .inr (tkE F n i)) = pb x fun i => pb (numE F n i lo hi) fun _ => (.inr (tkE F n i) : PE Int) := by
  cases x with
  | inl a => rfl
  | inr i =>
    show pb (pb (numE F n i lo hi) fun _ => .inr i) _ = pb (numE F n i lo hi) _
    cases numE F n i lo hi <;> rfl
theorem tw_t {w : List Int} (h : wdX F n x w = true) : (pb x fun i => (.inr (tkE F n i) : PE Int)) = pb x fun i => pb (wdE F n i w) fun _ => .inr (tkE F n i) := by
  cases x with
  | inl a => rfl
  | inr i =>
    show _ = pb (wdE F n i w) _
    rw [wdE_t h]
    rfl
theorem tw_f {w : List Int} (h : ¬ wdX F n x w = true) : (pb (pb x fun i => fl F n i 1) fun i => (.inr (tkE F n i) : PE Int)) = pb x fun i => pb (wdE F n i w) fun _ => .inr (tkE F n i) := by
  cases x with
  | inl a => rfl
  | inr i =>
    show _ = pb (wdE F n i w) _
    rw [wdE_f h]
    rfl
theorem MSt.sm_t (h0 : MSt F n x p t k v c e) (hc : c = 0) (hk : k = 3) (hv : v = 59) : (pb x fun i => (.inr (tkE F n i) : PE Int)) = pb x fun i => pb (smE F n i) fun _ => .inr (tkE F n i) := by
  obtain ⟨i, rfl, _, _, ht⟩ := h0.good hc
  have h3 := ht.2.2.1
  have h4 := ht.2.2.2.2 hk
  show _ = pb (smE F n i) _
  rw [smE_t ⟨by omega, by omega⟩]
  rfl
theorem MSt.sm_f (h0 : MSt F n x p t k v c e) (hv : c = 0 → ¬ (k = 3 ∧ v = 59)) : (pb (pb x fun i => fl F n i 1) fun i => (.inr (tkE F n i) : PE Int)) = pb x fun i => pb (smE F n i) fun _ => .inr (tkE F n i) := by
  by_cases hc : c = 0
  · obtain ⟨i, rfl, _, _, ht⟩ := h0.good hc
    have h3 := ht.2.2.1
    have g := hv hc
    show _ = pb (smE F n i) _
    rw [smE_f (fun z => g ⟨by omega, by have h4 := ht.2.2.2.2 (by omega); omega⟩)]
    rfl
  · obtain ⟨a, rfl⟩ := h0.bad hc
    rfl
end MST2
