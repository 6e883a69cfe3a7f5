/-! ===== RayLayers$Path: cells, and what its numbers say ===== -/
/-- seven rows' addresses, by their places -/
def rw7 (r0 r1 r2 r3 r4 r5 r6 : Nat) : Nat → Option Nat := fun i => if i = 0 then some r0 else if i = 1 then some r1 else if i = 2 then some r2 else if i = 3 then some r3 else if i = 4 then some r4 else if i = 5 then some r5 else if i = 6 then some r6 else none
def gPthC (K : KC) (pa nb ra : Nat) (pl pe : Int) : va_W := [(pa, .inr (3, [.ref nb, .ref ra, .int (iI pl), .int (iI pe)]))]
def gRw7 (K : KC) (nb r0 r1 r2 r3 r4 r5 r6 : Nat) : va_W := [aQ K 6 nb 7 (rw7 r0 r1 r2 r3 r4 r5 r6)]
def gPth (K : KC) (pa nb ra : Nat) (pl pe : Int) (r0 r1 r2 r3 r4 r5 r6 : Nat) (M0 M1 M2 M3 M4 M5 M6 : Int → Int) : va_W := gPthC K pa nb ra pl pe ++ (gRw7 K nb r0 r1 r2 r3 r4 r5 r6 ++ (gArr K 60 r0 M0 ++ (gArr K 60 r1 M1 ++ (gArr K 60 r2 M2 ++ (gArr K 60 r3 M3 ++ (gArr K 60 r4 M4 ++ (gArr K 60 r5 M5 ++ gArr K 60 r6 M6)))))))
section GALD
variable {p : Program} {l : Launch} {e : Env} {R : Room} {s : State} {m : MethodId} {args : Array Value} {below : List Frame} {meth : Method} {c : Code} {H : Heap} {locs : List Loc} {cells slots : Nat} {Q : State → Prop}
variable {cc : ByteArray} {pc nL : Nat} {ls : Array Slot} {rest : List Value} {Ts : List Cond} {own : String} {K : KC} {A : Nat → Prop} {H0 : Heap} {gs : List va_W} {a : Nat}
theorem g_aald6 (S : CallFix p m c cc nL s args Ts own) (C : gC K A H0 s) (hG : gW K A H0 gs H locs) (q0 : Nat) {n : Nat} {F : Nat → Option Nat} (he : gs.flatten[q0]? = some (aQ K 6 a n F)) {z : Int} (k y : Nat) (hz : z = (k : Int)) (hk : k < n) (hn : n ≤ 2147483647) (hy : F k = some y) (hd : decode cc pc = .ok (.aaload, 1)) (kk : W p l e R s m args below meth c H locs cells slots Q (F0 m (pc + 1) ls (.ref y :: rest))) : W p l e R s m args below meth c H locs cells slots Q (F0 m pc ls (.int (iI z) :: .ref a :: rest)) := by
  have e9 : (iI z).toNatClampNeg = k := iI_cl hz (by omega)
  have hin := iI_in hz hk hn
  refine W.aald (v := .ref y) (ty := .array .int) S.1 S.2.1 (hG.1 q0 _ he) ((C.1.1.2 6 _ rfl).1 n (fun j => va_rf (F j))) rfl (fun q => by cases q) (by show ¬ (iI z < 0 ∨ (arrV _ _ _).slots.size ≤ _); rw [arrV_size]; exact hin) (by show (arrV _ _ _).slots[_]? = _; rw [e9, arrV_read _ _ hk, hy]; rfl) rfl rfl hd kk
end GALD
/-- one of seven -/
def pick7 (k a0 a1 a2 a3 a4 a5 a6 : Int) : Int := if k = 0 then a0 else if k = 1 then a1 else if k = 2 then a2 else if k = 3 then a3 else if k = 4 then a4 else if k = 5 then a5 else a6
/-- a row's sum -/
def sF (F : Int → Int) (n : Nat) : Int := smN (fun i : Nat => F (i : Int)) n
theorem sF_s (F : Int → Int) (n : Nat) : sF F (n + 1) = sF F n + F (n : Int) := rfl
def FilI (N : Int → Int) (p y0 e0 : Int) (k : Nat) (M0 M1 M2 M3 M4 M5 M6 : Int → Int) : Prop := ∀ i : Nat, i < k → M0 (i : Int) = yN N p y0 e0 i ∧ M1 (i : Int) = eN N p y0 e0 i ∧ M2 (i : Int) = shK N p y0 e0 i ∧ M3 (i : Int) = leK N p y0 e0 i ∧ M4 (i : Int) = tmK N p y0 e0 i ∧ M5 (i : Int) = kN N p y0 e0 i ∧ M6 (i : Int) = whE (vE N p y0 e0 i)
def PthOk (N : Int → Int) (p y0 e0 : Int) (n : Nat) (pl pe : Int) (M0 M1 M2 M3 M4 M5 M6 : Int → Int) : Prop := isN N p y0 e0 n ∧ pl = (n : Int) ∧ pe = enN N p y0 e0 n ∧ FilI N p y0 e0 n M0 M1 M2 M3 M4 M5 M6
theorem RunI.alive {N : Int → Int} {p y0 e0 : Int} {k : Nat} {ly dn lg en sh le tm pw tr mr cr de : Int} (h : RunI N p y0 e0 k ly dn lg en sh le tm pw tr mr cr de) (he : en = -1) : begN N y0 p ∧ pw = wN N p y0 e0 k ∧ onN N p y0 e0 k ∧ ly = yN N p y0 e0 k ∧ dn = eN N p y0 e0 k ∧ lg = (k : Int) := by
  obtain ⟨⟨s1, -⟩, h⟩ := h
  rcases h with ⟨hb, -, hw, ho, hy, hd⟩ | ⟨hb, hw, j, rfl, ho, hv', he'⟩ | ⟨hb, rfl, he', hw⟩
  · exact ⟨hb, hw, ho, hy, hd, s1⟩
  · have := endE_ge (v := vE N p y0 e0 j)
    omega
  · omega
theorem FilI.step {N : Int → Int} {p y0 e0 : Int} {k : Nat} {ly dn lg en sh le tm pw tr mr cr de w x : Int} {M0 M1 M2 M3 M4 M5 M6 : Int → Int} (h : RunI N p y0 e0 k ly dn lg en sh le tm pw tr mr cr de) (he : en = -1) (f : FilI N p y0 e0 k M0 M1 M2 M3 M4 M5 M6) (hw : w = (k : Int)) (hx : x = whE (evN N p (lg + 1) ly dn (qN N p ly pw))) :
    FilI N p y0 e0 (k + 1) (upI M0 w ly) (upI M1 w dn) (upI M2 w (shN N p ly)) (upI M3 w (leN N p ly)) (upI M4 w (tmN N p ly)) (upI M5 w (qN N p ly pw)) (upI M6 w x) := by
  obtain ⟨-, a2, -, a4, a5, a6⟩ := h.alive he
  subst hw
  intro i hi
  rcases Nat.lt_succ_iff_lt_or_eq.mp hi with q | q
  · have n : (i : Int) ≠ (k : Int) := by omega
    rw [upI_n _ _ n, upI_n _ _ n, upI_n _ _ n, upI_n _ _ n, upI_n _ _ n, upI_n _ _ n, upI_n _ _ n]
    exact f i q
  · subst q
    rw [upI_s, upI_s, upI_s, upI_s, upI_s, upI_s, upI_s]
    refine ⟨a4, a5, by rw [a4]; rfl, by rw [a4]; rfl, by rw [a4]; rfl, by rw [a4, a2]; rfl, by rw [hx, a6, a5, a4, a2]; rfl⟩
theorem RunI.donep {N : Int → Int} {p y0 e0 : Int} {k : Nat} {ly dn lg en sh le tm pw tr mr cr de : Int} {M0 M1 M2 M3 M4 M5 M6 : Int → Int} (h : RunI N p y0 e0 k ly dn lg en sh le tm pw tr mr cr de) (hk : k ≤ 60) (hx : 60 ≤ k ∨ en ≠ -1) (f : FilI N p y0 e0 k M0 M1 M2 M3 M4 M5 M6) : PthOk N p y0 e0 k lg en M0 M1 M2 M3 M4 M5 M6 := by
  obtain ⟨a, b, c, d⟩ := h.done hk hx
  exact ⟨a, b.1, c, f⟩
/-- how many of the first n are y -/
def cnF (F : Int → Int) (y : Int) : Nat → Int
  | 0 => 0
  | k + 1 => cnF F y k + if F (k : Int) = y then 1 else 0
theorem cnF_bd (F : Int → Int) (y : Int) : ∀ k : Nat, 0 ≤ cnF F y k ∧ cnF F y k ≤ k
  | 0 => by simp [cnF]
  | k + 1 => by
    have := cnF_bd F y k
    simp only [cnF]
    split <;> omega
