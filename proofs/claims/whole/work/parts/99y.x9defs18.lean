/-! ===== an array's numbers count only where it has places ===== -/
theorem arrV_congr {cA : ClassId} {n : Nat} {f g : Nat → Value} (h : ∀ j : Nat, j < n → f j = g j) : arrV cA n f = arrV cA n g := by
  have e : (List.range n).map f = (List.range n).map g := List.map_congr_left fun j hj => h j (List.mem_range.mp hj)
  unfold arrV
  first
    | rw [e]
    | (congr 1; exact congrArg Array.ofFn (funext fun i : Fin n => h i.1 i.2))
    | (congr 1; congr 1; exact congrArg Array.ofFn (funext fun i : Fin n => h i.1 i.2))
    | (congr 2; funext i; exact h i.1 i.2)
theorem va_D_map {A : Nat → Prop} {ws ws' : va_W} (e : ws.map Prod.fst = ws'.map Prod.fst) (h : va_D A ws) : va_D A ws' := by
  have q : ∀ (k : Nat) (p : Nat × va_E), ws'[k]? = some p → ∃ p0, ws[k]? = some p0 ∧ p0.1 = p.1 := fun k p hp => by
    have z : (ws'.map Prod.fst)[k]? = some p.1 := by rw [List.getElem?_map, hp]; rfl
    rw [← e, List.getElem?_map] at z
    cases hw : ws[k]? with
    | none => rw [hw] at z; cases z
    | some p0 => rw [hw] at z; exact ⟨p0, rfl, Option.some.inj z⟩
  refine ⟨fun i j p p' hp hp' he => ?_, fun k p hp => ?_⟩
  · obtain ⟨a, ha, ea⟩ := q i p hp
    obtain ⟨b, hb, eb⟩ := q j p' hp'
    exact h.1 i j a b ha hb (ea.trans (he.trans eb.symm))
  · obtain ⟨a, ha, ea⟩ := q k p hp
    rw [← ea]; exact h.2 k a ha
theorem gW_arr {K : KC} {A : Nat → Prop} {H0 H : Heap} {locs : List Loc} (xs ys : List va_W) {n b : Nat} {F G : Int → Int} (h : ∀ j : Nat, j < n → F (j : Int) = G (j : Int)) (hG : gW K A H0 (xs ++ gArr K n b F :: ys) H locs) : gW K A H0 (xs ++ gArr K n b G :: ys) H locs := by
  obtain ⟨h1, h2, h3⟩ := hG
  have e1 : ∀ Z : Int → Int, (xs ++ gArr K n b Z :: ys).flatten = xs.flatten ++ aI K b n Z :: ys.flatten := fun Z => by
    rw [List.flatten_append, List.flatten_cons]; rfl
  rw [e1] at h1 h2
  refine ⟨?_, ?_, h3⟩
  · rw [e1]
    intro k q hq
    have mem := List.mem_of_getElem? hq
    have all : ∀ p ∈ xs.flatten ++ aI K b n F :: ys.flatten, va_at K.1 vwCl p H := fun p hp => by
      obtain ⟨j, hj⟩ := List.getElem?_of_mem hp
      exact h1 j p hj
    rcases List.mem_append.mp mem with m | m
    · exact all q (List.mem_append.mpr (Or.inl m))
    · rcases List.mem_cons.mp m with m | m
      · have z := all (aI K b n F) (List.mem_append.mpr (Or.inr (List.mem_cons_self ..)))
        rw [m]
        have z1 : H[b]? = some (arrV (K.2.1 0) n fun j => .int (iI (F (j : Int)))) := z
        show H[b]? = some (arrV (K.2.1 0) n fun j => .int (iI (G (j : Int))))
        rw [z1]
        exact congrArg some (arrV_congr fun j hj => by rw [h j hj])
      · exact all q (List.mem_append.mpr (Or.inr (List.mem_cons_of_mem _ m)))
  · rw [e1]
    refine va_D_map ?_ h2
    rw [List.map_append, List.map_append, List.map_cons, List.map_cons]
theorem LdI.go {F : Int → Int} {n p t k v c e b : Int} (h : MSt F n (ifF F n b 1 (.inr 0)) p t k v c e) (hn : n ≤ 400) (hb : (b = 1 ∧ ¬ isWd F n 0 wLayer) ∨ (b = 0 ∧ isWd F n 0 wLayer)) : LdI F n 0 401 eN0 p t k v c e 0 0 := by
  rcases hb with ⟨rfl, hb⟩ | ⟨rfl, hb⟩
  · rw [ifF_y rfl] at h
    exact LdI.bad h hb
  · rw [ifF_n (by decide)] at h
    exact LdI.start h hn hb
theorem LdI.st {F : Int → Int} {n i : Int} {f : Nat} {N : Int → Int} {p t k v c e ho hb : Int} (h : LdI F n i f N p t k v c e ho hb) (hc : c = 0) : MSt F n (.inr i) p t k v c e ∧ NOk0 N ∧ (isWd F n i wLayer ∨ ¬ N 0 = 0) ∧ (ho = 0 ∨ ho = 1) ∧ (hb = 0 ∨ hb = 1) ∧ (0 ≤ i ∧ i ≤ n) ∧ (0 ≤ k ∧ k ≤ 3) ∧ k = tkK F n i := by
  rcases h with ⟨_, a2, a3, a4, a5, a6, a7, a8, a9⟩ | ⟨b1, _⟩
  · have hi := a2.2.2.1
    have bd := a2.2.2.2.bd hi.1 hi.2
    exact ⟨a2, a3, a4, a6, a7, hi, bd.2.2.1, a2.2.2.2.2.2.1⟩
  · omega
def ldM (c : Int) (f : Nat) : Nat := if c = 0 then f + 1 else 0
theorem ldM_lt {c c2 : Int} {f g fu : Nat} (h : c = 0) (hd : (c2 = 0 ∧ (g : Int) < f) ∨ ¬ c2 = 0) (hf : ldM c f < fu + 1) : ldM c2 g < fu := by
  unfold ldM at hf ⊢
  rw [if_pos h] at hf
  split <;> omega
theorem inr_one {a b : Int → Int} {x : PE (Int → Int)} (h : x = .inr a) (g : x = .inr b) : a = b := by
  rw [h] at g; cases g; rfl
