theorem isCl0 {c : Int} : isCl 0 c ↔ (c = 32 ∨ c = 10) := by simp [isCl]
theorem isCl1 {c : Int} : isCl 1 c ↔ (97 ≤ c ∧ c ≤ 122) := by simp [isCl]
theorem isCl2 {c : Int} : isCl 2 c ↔ (48 ≤ c ∧ c ≤ 57) := by simp [isCl]
/-- the parser stands at the token that is read from i on -/
def TokI (F : Int → Int) (n i p t k v : Int) : Prop := p = tkE F n i ∧ t = tkS F n i ∧ k = tkK F n i ∧ (k = 2 → v = tkV F n i)
theorem TokI.c0 {F : Int → Int} {n i z v : Int} (hz : z = tkS F n i) (h : tkC F n i = -1) : TokI F n i z z 0 v := by
  unfold TokI tkE tkK
  rw [if_pos h, if_pos h]
  exact ⟨hz, hz, rfl, fun q => absurd q (by decide)⟩
theorem TokI.c1 {F : Int → Int} {n i z p v : Int} (hz : z = tkS F n i) (h : ¬ tkC F n i = -1) (h1 : 97 ≤ tkC F n i ∧ tkC F n i ≤ 122) (hp : p = skp F n 1 z) : TokI F n i p z 1 v := by
  unfold TokI tkE tkK
  rw [if_neg h, if_neg h, if_pos h1, if_pos h1, ← hz]
  exact ⟨hp, rfl, rfl, fun q => absurd q (by decide)⟩
theorem TokI.c2 {F : Int → Int} {n i z p v : Int} (hz : z = tkS F n i) (h : ¬ tkC F n i = -1) (h1 : ¬ (97 ≤ tkC F n i ∧ tkC F n i ≤ 122)) (h2 : 48 ≤ tkC F n i ∧ tkC F n i ≤ 57) (hp : p = skp F n 2 z) (hv : v = nmb F n 1000000 z 0) : TokI F n i p z 2 v := by
  unfold TokI tkE tkK tkV
  rw [if_neg h, if_neg h, if_neg h1, if_neg h1, if_pos h2, if_pos h2, ← hz]
  exact ⟨hp, rfl, rfl, fun _ => hv⟩
theorem TokI.c3 {F : Int → Int} {n i z v : Int} (hz : z = tkS F n i) (h : ¬ tkC F n i = -1) (h1 : ¬ (97 ≤ tkC F n i ∧ tkC F n i ≤ 122)) (h2 : ¬ (48 ≤ tkC F n i ∧ tkC F n i ≤ 57)) : TokI F n i (z + 1) z 3 v := by
  unfold TokI tkE tkK
  rw [if_neg h, if_neg h, if_neg h1, if_neg h1, if_neg h2, if_neg h2, ← hz]
  exact ⟨rfl, rfl, rfl, fun q => absurd q (by decide)⟩
/-- in range for the machine -/
theorem TokI.bd {F : Int → Int} {n i p t k v : Int} (h : TokI F n i p t k v) (h0 : 0 ≤ i) (h1 : i ≤ n) : (i ≤ t ∧ t ≤ p ∧ p ≤ n) ∧ (k ≠ 0 → t < p) ∧ (0 ≤ k ∧ k ≤ 3) ∧ (k = 2 → 0 ≤ v ∧ v ≤ 1000000) := by
  obtain ⟨rfl, rfl, rfl, hv⟩ := h
  have a := tk_bd F h0 h1
  exact ⟨a.1, a.2.1, a.2.2.1, fun q => by rw [hv q]; exact a.2.2.2⟩
abbrev okE {α : Type} (x : PE α) : Prop := x.isRight = true
/-- the error's code and place, 0 and -1 where there is none -/
def ErI {α : Type} (x : PE α) (c p : Int) : Prop := match x with
  | .inl e => c = e.1 ∧ p = e.2
  | .inr _ => c = 0 ∧ p = -1
theorem okE_inr {α : Type} {x : PE α} (h : okE x) : ∃ a, x = .inr a := by
  cases x with
  | inl e => simp [okE] at h
  | inr a => exact ⟨a, rfl⟩
theorem okE_inl {α : Type} {x : PE α} (h : ¬ okE x) : ∃ e, x = .inl e := by
  cases x with
  | inl e => exact ⟨e, rfl⟩
  | inr a => simp [okE] at h
theorem pb_no {α β : Type} {x : PE α} {f : α → PE β} {a b : Int} (h : ¬ okE x) (he : ErI x a b) : ¬ okE (pb x f) ∧ ErI (pb x f) a b := by
  obtain ⟨e, rfl⟩ := okE_inl h
  exact ⟨by simp [okE, pb], he⟩
theorem numE_ok {F : Int → Int} {n i lo hi : Int} (h : okE (numE F n i lo hi)) : numE F n i lo hi = .inr (tkV F n i) ∧ tkK F n i = 2 ∧ lo ≤ tkV F n i ∧ tkV F n i ≤ hi := by
  unfold numE at h ⊢
  by_cases g : tkK F n i ≠ 2
  · rw [if_pos g] at h; simp [okE, fl] at h
  · rw [if_neg g] at h ⊢
    by_cases g2 : lo ≤ tkV F n i ∧ tkV F n i ≤ hi
    · rw [if_pos g2]; exact ⟨rfl, by omega, g2⟩
    · rw [if_neg g2] at h; simp [okE, fl] at h
theorem numE_1 {F : Int → Int} {n i lo hi : Int} (h : tkK F n i ≠ 2) : numE F n i lo hi = fl F n i 1 := by unfold numE; rw [if_pos h]
theorem numE_2 {F : Int → Int} {n i lo hi : Int} (h : tkK F n i = 2) (h2 : ¬ (lo ≤ tkV F n i ∧ tkV F n i ≤ hi)) : numE F n i lo hi = fl F n i 2 := by unfold numE; rw [if_neg (by omega), if_neg h2]
theorem numE_3 {F : Int → Int} {n i lo hi : Int} (h : tkK F n i = 2) (h2 : lo ≤ tkV F n i ∧ tkV F n i ≤ hi) : numE F n i lo hi = .inr (tkV F n i) := by unfold numE; rw [if_neg (by omega), if_pos h2]
theorem fl_er {α : Type} (F : Int → Int) (n i c : Int) : ¬ okE (fl F n i c : PE α) ∧ ErI (fl F n i c : PE α) c (tkS F n i) := ⟨by simp [okE, fl], rfl, rfl⟩
