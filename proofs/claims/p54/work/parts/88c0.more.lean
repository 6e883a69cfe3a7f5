/-! ===== more of whole's rows ===== -/
section
variable {p : Program} {l : Launch} {e : Env} {R : Room} {s : State} {m : MethodId} {args : Array Value} {below : List Frame} {meth : Method} {c : Code} {H : Heap} {locs : List Loc} {cells slots : Nat} {Q : State → Prop}
variable {cc : ByteArray} {pc nL : Nat} {ls : Array Slot} {rest : List Value} {Ts : List Cond} {own : String} {K : KC} {A : Nat → Prop} {H0 : Heap} {gs gs' : List va_W} {a : Nat}
theorem g_bast (S : CallFix p m c cc nL s args Ts own) (C : gC K A H0 s) (hG : gW K A H0 gs H locs) (q0 : Nat) {n : Nat} {F : Int → Int} (he : gs.flatten[q0]? = some (aB K a n F)) {z v : Int} (h0 : 0 ≤ z) (h1 : z < (n : Int)) (hn : n ≤ 2147483647) (hs : gs.flatten.set q0 (aB K a n (upI F z v)) = gs'.flatten) (hd : decode cc pc = .ok (.bastore, 1)) (kk : ∀ (H1 : Heap) (locs1 : List Loc), gW K A H0 gs' H1 locs1 → W p l e R s m args below meth c H1 locs1 cells slots Q (F0 m (pc + 1) ls rest)) : W p l e R s m args below meth c H locs cells slots Q (F0 m pc ls (.int (iI v) :: .int (iI z) :: .ref a :: rest)) := by
  obtain ⟨k, rfl⟩ : ∃ k : Nat, z = (k : Int) := ⟨z.toNat, by omega⟩
  refine va_bast S.1 S.2.1 C.1.1 hG.1 hG.2.1 hG.2.2 q0 1 he rfl (iI_in rfl (by omega) hn) hd (fun H1 locs1 a b d => kk H1 locs1 ?_)
  rw [iI_cl rfl (by omega)] at a b
  rw [show vp_nar .byte (iI v) = bB v from rfl, upd_bB] at a b
  exact ⟨by rw [← hs]; exact a, by rw [← hs]; exact b, d⟩
end
/-- the first time, or -1 -/
def MeetR (A0 A4 B0 B4 : Int → Int) (n m : Nat) (r : Int) : Prop := (r = -1 ∧ ∀ t, CndM A4 B4 n m t → ¬ TogM A0 A4 B0 B4 n m t) ∨ (CndM A4 B4 n m r ∧ TogM A0 A4 B0 B4 n m r ∧ ∀ t, CndM A4 B4 n m t → t < r → ¬ TogM A0 A4 B0 B4 n m t)
def skS (N : Int → Int) (r : Int) : Nat → Int := shK N (sP N r) (sY N r) (sD N r)
def ykS (N : Int → Int) (r : Int) : Nat → Int := yN N (sP N r) (sY N r) (sD N r)
def ekS (N : Int → Int) (r : Int) : Nat → Int := eN N (sP N r) (sY N r) (sD N r)
theorem sF_congr {F G : Int → Int} {n : Nat} (h : ∀ i : Nat, i < n → F (i : Int) = G (i : Int)) {k : Nat} (hk : k ≤ n) : sF F k = sF G k := smN_congr k (fun i hi => h i (by omega))
theorem TogM.congr {A0 A4 B0 B4 A0' A4' B0' B4' : Int → Int} {n m : Nat} {t : Int} (h0 : ∀ i : Nat, i < n → A0 (i : Int) = A0' (i : Int)) (h4 : ∀ i : Nat, i < n → A4 (i : Int) = A4' (i : Int)) (g0 : ∀ i : Nat, i < m → B0 (i : Int) = B0' (i : Int)) (g4 : ∀ i : Nat, i < m → B4 (i : Int) = B4' (i : Int)) (h : TogM A0 A4 B0 B4 n m t) : TogM A0' A4' B0' B4' n m t := by
  obtain ⟨i, j, hi, hj, a, b, c⟩ := h
  refine ⟨i, j, hi, hj, ?_, ?_, ?_⟩
  · rw [← sF_congr h4 (Nat.le_of_lt hi), ← sF_congr h4 (show i + 1 ≤ n from hi)]; exact a
  · rw [← sF_congr g4 (Nat.le_of_lt hj), ← sF_congr g4 (show j + 1 ≤ m from hj)]; exact b
  · rw [← h0 i hi, ← g0 j hj]; exact c
theorem CndM.congr {A4 B4 A4' B4' : Int → Int} {n m : Nat} {t : Int} (h4 : ∀ i : Nat, i < n → A4 (i : Int) = A4' (i : Int)) (g4 : ∀ i : Nat, i < m → B4 (i : Int) = B4' (i : Int)) (h : CndM A4 B4 n m t) : CndM A4' B4' n m t := by
  rcases h with h | ⟨k, hk, h⟩ | ⟨k, hk, h⟩
  · exact Or.inl h
  · exact Or.inr (Or.inl ⟨k, hk, by rw [← sF_congr h4 (show k + 1 ≤ n from hk)]; exact h⟩)
  · exact Or.inr (Or.inr ⟨k, hk, by rw [← sF_congr g4 (show k + 1 ≤ m from hk)]; exact h⟩)
theorem MeetR.congr {A0 A4 B0 B4 A0' A4' B0' B4' : Int → Int} {n m : Nat} {r : Int} (h0 : ∀ i : Nat, i < n → A0 (i : Int) = A0' (i : Int)) (h4 : ∀ i : Nat, i < n → A4 (i : Int) = A4' (i : Int)) (g0 : ∀ i : Nat, i < m → B0 (i : Int) = B0' (i : Int)) (g4 : ∀ i : Nat, i < m → B4 (i : Int) = B4' (i : Int)) (h : MeetR A0 A4 B0 B4 n m r) : MeetR A0' A4' B0' B4' n m r := by
  have s0 := fun i hi => (h0 i hi).symm
  have s4 := fun i hi => (h4 i hi).symm
  have z0 := fun i hi => (g0 i hi).symm
  have z4 := fun i hi => (g4 i hi).symm
  rcases h with ⟨a, b⟩ | ⟨a, b, c⟩
  · exact Or.inl ⟨a, fun t ht g => b t (ht.congr s4 z4) (g.congr s0 s4 z0 z4)⟩
  · exact Or.inr ⟨a.congr h4 g4, b.congr h0 h4 g0 g4, fun t ht hlt g => c t (ht.congr s4 z4) hlt (g.congr s0 s4 z0 z4)⟩
