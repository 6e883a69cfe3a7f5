/-! ===== the system's groups of cells ===== -/
/-- RayLayers$Bytes: n bytes so far, F the bytes -/
def gBuf (K : KC) (a b : Nat) (n : Int) (F : Int → Int) : va_W := [(a, .inr (0, [.ref b, .int (iI n)])), aB K b 400 F]
/-- RayLayers$Table: n rows, F the cells -/
def gTabC (K : KC) (a b : Nat) (n : Int) : va_W := [(a, .inr (7, [.ref b, .int (iI n)]))]
def gArr (K : KC) (n b : Nat) (F : Int → Int) : va_W := [aI K b n F]
def gTab (K : KC) (a b : Nat) (n : Int) (F : Int → Int) : va_W := gTabC K a b n ++ gArr K 60 b F
/-- the scene's own cell -/
def gScC (K : KC) (a la sa : Nat) (ou mi bo : Int) : va_W := [(a, .inr (5, [.ref la, .ref sa, .int (iI ou), .int (iI mi), .int (iI bo)]))]
/-- RayLayers$Scene with its tables -/
def gScn (K : KC) (a la lb sa sb : Nat) (ou mi bo ln : Int) (LF : Int → Int) (sn : Int) (SF : Int → Int) : va_W := gScC K a la sa ou mi bo ++ (gTab K la lb ln LF ++ gTab K sa sb sn SF)
/-- Math.min, max, abs -/
theorem imin_eq {a b : Int} (ha : -2147483648 ≤ a ∧ a < 2147483648) (hb : -2147483648 ≤ b ∧ b < 2147483648) : Value.int (if iI b < iI a then iI b else iI a) = .int (iI (min a b)) := by
  by_cases h : b < a
  · rw [if_pos ((iI_lt hb ha).mpr h), show min a b = b by omega]
  · rw [if_neg (fun g => h ((iI_lt hb ha).mp g)), show min a b = a by omega]
theorem imax_eq {a b : Int} (ha : -2147483648 ≤ a ∧ a < 2147483648) (hb : -2147483648 ≤ b ∧ b < 2147483648) : Value.int (if iI a < iI b then iI b else iI a) = .int (iI (max a b)) := by
  by_cases h : a < b
  · rw [if_pos ((iI_lt ha hb).mpr h), show max a b = b by omega]
  · rw [if_neg (fun g => h ((iI_lt ha hb).mp g)), show max a b = a by omega]
/-- one of three -/
def sel3 (k a b c : Int) : Int := if k = 0 then a else if k = 1 then b else c
def cpyI (F G : Int → Int) (n : Int) : Int → Int := fun j => if 0 ≤ j ∧ j < n then F j else G j
theorem cpy_iI (F G : Int → Int) (N : Nat) : va_cpy (fun j : Nat => iI (F (j : Int))) (fun j : Nat => iI (G (j : Int))) 0 0 N = fun j : Nat => iI (cpyI F G (N : Int) (j : Int)) := by
  funext j
  unfold va_cpy cpyI
  by_cases h : j < N
  · rw [if_pos (by omega), if_pos (by omega)]
    congr 3
    omega
  · rw [if_neg (by omega), if_neg (by omega)]
section GCPY
variable {p : Program} {l : Launch} {e : Env} {R : Room} {s : State} {m : MethodId} {args : Array Value} {below : List Frame} {meth : Method} {c : Code} {H : Heap} {locs : List Loc} {cells slots : Nat} {Q : State → Prop}
variable {cc : ByteArray} {pc nL : Nat} {ls : Array Slot} {rest : List Value} {Ts : List Cond} {own : String} {K : KC} {A : Nat → Prop} {H0 : Heap} {gs gs' : List va_W} {a a0 : Nat}
theorem g_acopy (S : CallFix p m c cc nL s args Ts own) (C : gC K A H0 s) (hG : gW K A H0 gs H locs) (hsz : ls.size = nL) {index : Nat} (w1 : Cond.methodLink own index arraycopyName ∈ Ts) (w2 : Cond.native arraycopyName ∈ Ts) (w3 : Cond.static arraycopyName ∈ Ts) (w4 : Cond.initialized "java/lang/System" ∈ Ts) (q0 q1 : Nat) {n0 n1 : Nat} {F G : Int → Int} (he0 : gs.flatten[q0]? = some (aI K a0 n0 F)) (he1 : gs.flatten[q1]? = some (aI K a n1 G)) (N : Nat) (h0 : N ≤ n0) (h1 : N ≤ n1) (hN : N ≤ 2147483647) (hfr : 1 ≤ R.frames) (hlo : (rest.map fun v => v.category).sum + (nativeFrameWords "java/lang/System" "arraycopy" 5 + 11) ≤ R.locals) (hs : gs.flatten.set q1 (aI K a n1 (cpyI F G (N : Int))) = gs'.flatten) (hd : decode cc pc = .ok (.invokestatic index, 3))
    (kk : ∀ (H1 : Heap) (locs1 : List Loc), gW K A H0 gs' H1 locs1 → W p l e R s m args below meth c H1 locs1 cells slots Q (F0 m (pc + 3) ls rest)) : W p l e R s m args below meth c H locs cells slots Q (F0 m pc ls (.int (iI (N : Int)) :: .int (iI 0) :: .ref a :: .int (iI 0) :: .ref a0 :: rest)) := by
  have e0 : (iI 0).toNatClampNeg = 0 := rfl
  have eN : (iI (N : Int)).toNatClampNeg = N := iI_cl rfl (by omega)
  have z0 : ¬ iI 0 < 0 := by decide
  have zN : ¬ iI (N : Int) < 0 := by
    show ¬ iI (N : Int) < iI 0
    rw [iI_lt (by omega) (by omega)]
    omega
  refine va_copyi S.1 S.2.1 (by rw [S.2.2.1]; exact hsz.symm) S.2.2.2.1 (S.2.2.2.2 _ w1) (S.2.2.2.2 _ w2) (S.2.2.2.2 _ w3) (S.2.2.2.2 _ w4) C.1.1 hG.1 hG.2.1 hG.2.2 q0 q1 0 0 he0 he1 rfl rfl rfl z0 z0 zN (by rw [e0, eN]; omega) (by rw [e0, eN]; omega) (fun _ _ => rfl) hfr hlo hd (fun H1 locs1 a b d => kk H1 locs1 ?_)
  rw [e0, eN, cpy_iI] at a b
  exact ⟨by rw [← hs]; exact a, by rw [← hs]; exact b, d⟩
end GCPY
/-- the byte at a place, or -1 -/
def bget (F : Int → Int) (n i : Int) : Int := if 0 ≤ i ∧ i < n then F i % 256 else -1
theorem bget_in {F : Int → Int} {n i : Int} (h : 0 ≤ i ∧ i < n) : bget F n i = F i % 256 := if_pos h
theorem bget_out {F : Int → Int} {n i : Int} (h : ¬ (0 ≤ i ∧ i < n)) : bget F n i = -1 := if_neg h
/-- how many digits, and the k-th of them from the left -/
def dgs (z : Int) : Int := if 1000 ≤ z then 4 else if 100 ≤ z then 3 else if 10 ≤ z then 2 else 1
def dgt (z k : Int) : Int := if dgs z - 1 - k = 3 then 48 + z / 1000 % 10 else if dgs z - 1 - k = 2 then 48 + z / 100 % 10 else if dgs z - 1 - k = 1 then 48 + z / 10 % 10 else 48 + z / 1 % 10
/-- a scene's numbers N: 0 layers, 1 above, 2 mirror, 3 below, 4 shots, then three a layer, three a shot -/
def ScOk (N : Int → Int) (ou mi bo ln : Int) (LF : Int → Int) (sn : Int) (SF : Int → Int) : Prop :=
  N 0 = ln ∧ N 1 = ou ∧ N 2 = mi ∧ N 3 = bo ∧ N 4 = sn ∧ (∀ r k : Int, 0 ≤ r → r < ln → 0 ≤ k → k < 3 → LF (r * 3 + k) = N (5 + 3 * r + k)) ∧ ∀ r k : Int, 0 ≤ r → r < sn → 0 ≤ k → k < 3 → SF (r * 3 + k) = N (35 + 3 * r + k)
/-- the numbers' ranges; a text that is being read may have no layer yet -/
def NOk0 (N : Int → Int) : Prop :=
  (0 ≤ N 0 ∧ N 0 ≤ 10) ∧ (1000 ≤ N 1 ∧ N 1 ≤ 4000) ∧ (N 2 = 0 ∧ 1000 ≤ N 3 ∧ N 3 ≤ 4000 ∨ N 2 = 1 ∧ 0 ≤ N 3 ∧ N 3 ≤ 100) ∧ (0 ≤ N 4 ∧ N 4 ≤ 20) ∧ (∀ r : Int, 0 ≤ r → r < N 0 → (1000 ≤ N (5 + 3 * r + 0) ∧ N (5 + 3 * r + 0) ≤ 4000) ∧ (1 ≤ N (5 + 3 * r + 1) ∧ N (5 + 3 * r + 1) ≤ 999) ∧ 0 ≤ N (5 + 3 * r + 2) ∧ N (5 + 3 * r + 2) ≤ 99) ∧
  ∀ r : Int, 0 ≤ r → r < N 4 → (0 ≤ N (35 + 3 * r + 0) ∧ N (35 + 3 * r + 0) ≤ 9) ∧ (N (35 + 3 * r + 1) = 0 ∨ N (35 + 3 * r + 1) = 1) ∧ 0 ≤ N (35 + 3 * r + 2) ∧ N (35 + 3 * r + 2) ≤ 3999
/-- the index at a place, from above the first layer to below the last one; 0 of a mirror -/
def ixN (N : Int → Int) (z : Int) : Int := if z < 0 then N 1 else if N 0 ≤ z then (if N 2 = 1 then 0 else N 3) else N (5 + 3 * z + 0)
/-- the thickness of the first layers -/
def depN (N : Int → Int) : Nat → Int
  | 0 => 0
  | k + 1 => depN N k + N (5 + 3 * (k : Int) + 1)
theorem depN_bd {N : Int → Int} (h : NOk0 N) : ∀ k : Nat, (k : Int) ≤ N 0 → 0 ≤ depN N k ∧ depN N k ≤ 999 * k
  | 0, _ => by simp [depN]
  | k + 1, hk => by
    have ih := depN_bd h k (by omega)
    have h2 := (h.2.2.2.2.1 (k : Int) (by omega) (by omega)).2.1
    simp only [depN]
    omega
/-- may a ray of this slant begin in this layer -/
abbrev begN (N : Int → Int) (y p : Int) : Prop := 0 ≤ y ∧ y < N 0 ∧ p < N (5 + 3 * y + 0)
theorem ixN_bd {N : Int → Int} (h : NOk0 N) (z : Int) : 0 ≤ ixN N z ∧ ixN N z ≤ 4000 := by
  obtain ⟨h0, h1, h2, h3, h4, h5⟩ := h
  unfold ixN
  split
  · omega
  · split
    · split <;> omega
    · have := (h4 z (by omega) (by omega)).1
      omega
theorem ScOk.cpy {N LF SF LF2 SF2 : Int → Int} {ou mi bo ln sn : Int} (h : ScOk N ou mi bo ln LF2 sn SF2) (hN : NOk0 N) : ScOk N ou mi bo ln (cpyI LF2 LF 60) sn (cpyI SF2 SF 60) := by
  obtain ⟨e0, e1, e2, e3, e4, e5, e6⟩ := h
  refine ⟨e0, e1, e2, e3, e4, fun r k h1 h2 h3 h4 => ?_, fun r k h1 h2 h3 h4 => ?_⟩
  · have := hN.1
    rw [cpyI, if_pos (by omega)]
    exact e5 r k h1 h2 h3 h4
  · have := hN.2.2.2.1
    rw [cpyI, if_pos (by omega)]
    exact e6 r k h1 h2 h3 h4
