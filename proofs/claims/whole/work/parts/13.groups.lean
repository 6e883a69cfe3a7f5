/-! ===== the system's groups of cells ===== -/
/-- RayLayers$Bytes: n bytes so far, F the bytes -/
def gBuf (K : KC) (a b : Nat) (n : Int) (F : Int → Int) : va_W := [(a, .inr (0, [.ref b, .int (iI n)])), aB K b 400 F]
/-- RayLayers$Table: n rows, F the cells -/
def gTabC (K : KC) (a b : Nat) (n : Int) : va_W := [(a, .inr (7, [.ref b, .int (iI n)]))]
def gArr60 (K : KC) (b : Nat) (F : Int → Int) : va_W := [aI K b 60 F]
def gTab (K : KC) (a b : Nat) (n : Int) (F : Int → Int) : va_W := gTabC K a b n ++ gArr60 K b F
/-- the scene's own cell -/
def gScC (K : KC) (a la sa : Nat) (ou mi bo : Int) : va_W := [(a, .inr (5, [.ref la, .ref sa, .int (iI ou), .int (iI mi), .int (iI bo)]))]
/-- RayLayers$Scene with its tables -/
def gScn (K : KC) (a la lb sa sb : Nat) (ou mi bo ln : Int) (LF : Int → Int) (sn : Int) (SF : Int → Int) : va_W := gScC K a la sa ou mi bo ++ (gTab K la lb ln LF ++ gTab K sa sb sn SF)
/-- Math.min, max, abs -/
theorem imin_eq {a b : Int} (ha : -2147483648 ≤ a ∧ a < 2147483648) (hb : -2147483648 ≤ b ∧ b < 2147483648) : Value.int (if iI b < iI a then iI b else iI a) = .int (iI (min a b)) := by
  by_cases h : b < a
  · rw [if_pos ((iI_lt hb ha).mpr h), show min a b = b by omega]
  · rw [if_neg (fun g => h ((iI_lt hb ha).mp g)), show min a b = a by omega]
theorem imax_eq {a b : Int} (ha : -2147483648 ≤ a ∧ a < 2147483648) (hb : -2147483648 ≤ b ∧ b < 2147483648) : Value.int (if iI a < iI b then iI b else iI a) = .int (iI (max a b)) := by
  by_cases h : a < b
  · rw [if_pos ((iI_lt ha hb).mpr h), show max a b = b by omega]
  · rw [if_neg (fun g => h ((iI_lt ha hb).mp g)), show max a b = a by omega]
def iabs (a : Int) : Int := if 0 ≤ a then a else -a
theorem iabs_eq {a : Int} (ha : -2147483648 < a ∧ a < 2147483648) : Value.int (if 0 ≤ iI a then iI a else 0 - iI a) = .int (iI (iabs a)) := by
  unfold iabs
  show Value.int (if iI 0 ≤ iI a then iI a else iI 0 - iI a) = _
  by_cases h : 0 ≤ a
  · rw [if_pos ((iI_le (by omega) (by omega)).mpr h), if_pos h]
  · rw [if_neg (fun g => h ((iI_le (by omega) (by omega)).mp g)), if_neg h, iI_sub, show (0 : Int) - a = -a by omega]
/-- one of three -/
def sel3 (k a b c : Int) : Int := if k = 0 then a else if k = 1 then b else c
def cpyI (F G : Int → Int) (n : Int) : Int → Int := fun j => if 0 ≤ j ∧ j < n then F j else G j
theorem cpy_iI (F G : Int → Int) (N : Nat) : va_cpy (fun j : Nat => iI (F (j : Int))) (fun j : Nat => iI (G (j : Int))) 0 0 N = fun j : Nat => iI (cpyI F G (N : Int) (j : Int)) := by
  funext j
  unfold va_cpy cpyI
  by_cases h : j < N
  · rw [if_pos (by omega), if_pos (by omega)]
    congr 3
    omega
  · rw [if_neg (by omega), if_neg (by omega)]
section GCPY
variable {p : Program} {l : Launch} {e : Env} {R : Room} {s : State} {m : MethodId} {args : Array Value} {below : List Frame} {meth : Method} {c : Code} {H : Heap} {locs : List Loc} {cells slots : Nat} {Q : State → Prop}
variable {cc : ByteArray} {pc nL : Nat} {ls : Array Slot} {rest : List Value} {Ts : List Cond} {own : String} {K : KC} {A : Nat → Prop} {H0 : Heap} {gs gs' : List va_W} {a a0 : Nat}
theorem g_acopy (S : CallFix p m c cc nL s args Ts own) (C : gC K A H0 s) (hG : gW K A H0 gs H locs) (hsz : ls.size = nL) {index : Nat} (w1 : Cond.methodLink own index arraycopyName ∈ Ts) (w2 : Cond.native arraycopyName ∈ Ts) (w3 : Cond.static arraycopyName ∈ Ts) (w4 : Cond.initialized "java/lang/System" ∈ Ts) (q0 q1 : Nat) {n0 n1 : Nat} {F G : Int → Int} (he0 : gs.flatten[q0]? = some (aI K a0 n0 F)) (he1 : gs.flatten[q1]? = some (aI K a n1 G)) (N : Nat) (h0 : N ≤ n0) (h1 : N ≤ n1) (hN : N ≤ 2147483647) (hfr : 1 ≤ R.frames) (hlo : (rest.map fun v => v.category).sum + (nativeFrameWords "java/lang/System" "arraycopy" 5 + 11) ≤ R.locals) (hs : gs.flatten.set q1 (aI K a n1 (cpyI F G (N : Int))) = gs'.flatten) (hd : decode cc pc = .ok (.invokestatic index, 3))
    (kk : ∀ (H1 : Heap) (locs1 : List Loc), gW K A H0 gs' H1 locs1 → W p l e R s m args below meth c H1 locs1 cells slots Q (F0 m (pc + 3) ls rest)) : W p l e R s m args below meth c H locs cells slots Q (F0 m pc ls (.int (iI (N : Int)) :: .int (iI 0) :: .ref a :: .int (iI 0) :: .ref a0 :: rest)) := by
  have e0 : (iI 0).toNatClampNeg = 0 := rfl
  have eN : (iI (N : Int)).toNatClampNeg = N := iI_cl rfl (by omega)
  have z0 : ¬ iI 0 < 0 := by decide
  have zN : ¬ iI (N : Int) < 0 := by
    show ¬ iI (N : Int) < iI 0
    rw [iI_lt (by omega) (by omega)]
    omega
  refine va_copyi S.1 S.2.1 (by rw [S.2.2.1]; exact hsz.symm) S.2.2.2.1 (S.2.2.2.2 _ w1) (S.2.2.2.2 _ w2) (S.2.2.2.2 _ w3) (S.2.2.2.2 _ w4) C.1.1 hG.1 hG.2.1 hG.2.2 q0 q1 0 0 he0 he1 rfl rfl rfl z0 z0 zN (by rw [e0, eN]; omega) (by rw [e0, eN]; omega) (fun _ _ => rfl) hfr hlo hd (fun H1 locs1 a b d => kk H1 locs1 ?_)
  rw [e0, eN, cpy_iI] at a b
  exact ⟨by rw [← hs]; exact a, by rw [← hs]; exact b, d⟩
end GCPY
