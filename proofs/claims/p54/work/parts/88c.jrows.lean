/-! ===== rows for the JDK's text builders, for the digits' tables and for the script ===== -/
theorem gW_pick {K : KC} {A : Nat → Prop} {H0 H : Heap} {gs gc : List va_W} {locs : List Loc} (is : List Nat) (hC : is.map (fun i => gs[i]?) = gc.map some) (hn : va_nd is = true) (hG : gW K A H0 gs H locs) : gW K A H0 gc H locs := ⟨gpick_P hG.1 hC, gpick_D hG.2.1 hC hn, hG.2.2⟩
/-- w's bytes from place d on -/
def cpyW (F : Int → Int) (d : Int) (w : List Int) : Int → Int := fun z => if d ≤ z ∧ z < d + (w.length : Int) then w.getD (z - d).toNat 0 else F z
theorem small_b : ∀ k : Nat, k < 128 → bB (k : Int) = iI (k : Int) := by decide +kernel
theorem bB_small {v : Int} (h : 0 ≤ v ∧ v ≤ 127) : bB v = iI v := by
  have := small_b v.toNat (by omega)
  rw [Int.toNat_of_nonneg h.1] at this
  exact this
theorem fits_bB (v : Int) : fits .byte (.int (bB v)) = true := fits_narrow_byte (iI v)
theorem OutI.cat {F : Int → Int} {n : Int} {tx : List Int} (h : OutI F n tx) (w : List Int) : OutI (cpyW F n w) (n + (w.length : Int)) (tx ++ w) := by
  obtain ⟨h1, h2⟩ := h
  refine ⟨by rw [List.length_append]; omega, fun j hj => ?_⟩
  rw [List.length_append] at hj
  unfold cpyW
  by_cases q : j < tx.length
  · rw [if_neg (by omega), h2 j q, List.getD_eq_getElem?_getD, List.getD_eq_getElem?_getD, List.getElem?_append_left q]
  · rw [if_pos (by omega), List.getD_eq_getElem?_getD, List.getD_eq_getElem?_getD, List.getElem?_append_right (by omega)]
    congr 2
    omega
theorem OutI.cpy {F G : Int → Int} {n m : Int} {tx : List Int} (h : OutI F n tx) (hm : n ≤ m) : OutI (cpyI F G m) n tx := by
  obtain ⟨h1, h2⟩ := h
  refine ⟨h1, fun j hj => ?_⟩
  unfold cpyI
  rw [if_pos (by omega)]
  exact h2 j hj
theorem cpy_bB (F G : Int → Int) (N : Nat) : va_cpy (fun j : Nat => bB (F (j : Int))) (fun j : Nat => bB (G (j : Int))) 0 0 N = fun j : Nat => bB (cpyI F G (N : Int) (j : Int)) := by
  funext j
  unfold va_cpy cpyI
  by_cases h : j < N
  · rw [if_pos (by omega), if_pos (by omega)]
    congr 2
    omega
  · rw [if_neg (by omega), if_neg (by omega)]
theorem cpy_wB (w : List Int) (hw : ∀ c ∈ w, 0 ≤ c ∧ c ≤ 127) (G : Int → Int) (d : Nat) : va_cpy (fun j : Nat => (w.map iI).getD j 0) (fun j : Nat => bB (G (j : Int))) 0 d w.length = fun j : Nat => bB (cpyW G (d : Int) w (j : Int)) := by
  funext j
  unfold va_cpy cpyW
  by_cases h : d ≤ j ∧ j < d + w.length
  · rw [if_pos h, if_pos (by omega)]
    have e : ((j : Int) - (d : Int)).toNat = j - d := by omega
    have e2 : 0 + (j - d) = j - d := by omega
    rw [e, e2, bB_small (by have := wd_bd hw (j - d); omega)]
    have : j - d < w.length := by omega
    simp [List.getD, this]
  · rw [if_neg h, if_neg (by omega)]
/-- Math's numbers that are below 0, divided -/
theorem iI_divn {a b : Int} (ha : 0 ≤ a ∧ a < 2147483648) (hb : 0 < b ∧ b < 2147483648) : iI (-a) / iI b = iI (-(a / b)) := by
  have h := Int32.ofInt_tdiv (a := -a) (b := b) (by rw [Int32.toInt_minValue]; omega) (by rw [Int32.toInt_maxValue]; omega) (by rw [Int32.toInt_minValue]; omega) (by rw [Int32.toInt_maxValue]; omega)
  rw [Int.neg_tdiv, Int.tdiv_eq_ediv_of_nonneg ha.1] at h
  exact h.symm
theorem iI_neg (a : Int) : -iI a = iI (-a) := (Int32.ofInt_neg a).symm
theorem iI_shl0 (a : Int) : iI a <<< (iI 0 &&& 31) = iI a := by
  show iI a <<< (0 : Int32) = iI a
  exact Int32.shiftLeft_zero
theorem iI_shr0 (a : Int) : iI a >>> (iI 0 &&& 31) = iI a := by
  show iI a >>> (0 : Int32) = iI a
  exact Int32.shiftRight_zero
section GJR
variable {p : Program} {l : Launch} {e : Env} {R : Room} {s : State} {m : MethodId} {args : Array Value} {below : List Frame} {meth : Method} {c : Code} {H : Heap} {locs : List Loc} {cells slots : Nat} {Q : State → Prop}
variable {cc : ByteArray} {pc nL : Nat} {ls : Array Slot} {rest : List Value} {Ts : List Cond} {own : String} {K : KC} {A : Nat → Prop} {H0 : Heap} {gs gs' : List va_W} {a a0 : Nat}
theorem g_ineg (S : CallFix p m c cc nL s args Ts own) {a z : Int} (hd : decode cc pc = .ok (.ineg, 1)) (hz : -a = z) (k : W p l e R s m args below meth c H locs cells slots Q (F0 m (pc + 1) ls (.int (iI z) :: rest))) : W p l e R s m args below meth c H locs cells slots Q (F0 m pc ls (.int (iI a) :: rest)) := by
  subst hz
  rw [← iI_neg] at k
  exact lv_ineg S.1 S.2.1 hd k
theorem g_idivn (S : CallFix p m c cc nL s args Ts own) {a b z : Int} (hd : decode cc pc = .ok (.idiv, 1)) (ha : 0 ≤ a ∧ a < 2147483648) (hb : 0 < b ∧ b < 2147483648) (hz : -(a / b) = z) (k : W p l e R s m args below meth c H locs cells slots Q (F0 m (pc + 1) ls (.int (iI z) :: rest))) : W p l e R s m args below meth c H locs cells slots Q (F0 m pc ls (.int (iI b) :: .int (iI (-a)) :: rest)) := by
  subst hz
  rw [← iI_divn ha hb] at k
  exact lv_idiv S.1 S.2.1 hd (iI_ne0 (by omega) (by omega)) k
theorem g_shl0 (S : CallFix p m c cc nL s args Ts own) {a : Int} (hd : decode cc pc = .ok (.ishl, 1)) (k : W p l e R s m args below meth c H locs cells slots Q (F0 m (pc + 1) ls (.int (iI a) :: rest))) : W p l e R s m args below meth c H locs cells slots Q (F0 m pc ls (.int (iI 0) :: .int (iI a) :: rest)) := by
  rw [← iI_shl0] at k
  exact lv_ishl S.1 S.2.1 hd k
theorem g_shr0 (S : CallFix p m c cc nL s args Ts own) {a : Int} (hd : decode cc pc = .ok (.ishr, 1)) (k : W p l e R s m args below meth c H locs cells slots Q (F0 m (pc + 1) ls (.int (iI a) :: rest))) : W p l e R s m args below meth c H locs cells slots Q (F0 m pc ls (.int (iI 0) :: .int (iI a) :: rest)) := by
  rw [← iI_shr0] at k
  exact lv_ishr S.1 S.2.1 hd k
/-- bytes of one array of the world into another one, from place 0 to place 0 -/
theorem g_bcopy (S : CallFix p m c cc nL s args Ts own) (C : gC K A H0 s) (hG : gW K A H0 gs H locs) (hsz : ls.size = nL) {index : Nat} (w1 : Cond.methodLink own index arraycopyName ∈ Ts) (w2 : Cond.native arraycopyName ∈ Ts) (w3 : Cond.static arraycopyName ∈ Ts) (w4 : Cond.initialized "java/lang/System" ∈ Ts) (q0 q1 : Nat) {n0 n1 : Nat} {F G : Int → Int} (he0 : gs.flatten[q0]? = some (aB K a0 n0 F)) (he1 : gs.flatten[q1]? = some (aB K a n1 G)) {z : Int} (hz : 0 ≤ z) (h0 : z ≤ (n0 : Int)) (h1 : z ≤ (n1 : Int)) (hN : z ≤ 2147483647) (hfr : 1 ≤ R.frames) (hlo : (rest.map fun v => v.category).sum + (nativeFrameWords "java/lang/System" "arraycopy" 5 + 11) ≤ R.locals) (hs : gs.flatten.set q1 (aB K a n1 (cpyI F G z)) = gs'.flatten) (hd : decode cc pc = .ok (.invokestatic index, 3))
    (kk : ∀ (H1 : Heap) (locs1 : List Loc), gW K A H0 gs' H1 locs1 → W p l e R s m args below meth c H1 locs1 cells slots Q (F0 m (pc + 3) ls rest)) : W p l e R s m args below meth c H locs cells slots Q (F0 m pc ls (.int (iI z) :: .int (iI 0) :: .ref a :: .int (iI 0) :: .ref a0 :: rest)) := by
  obtain ⟨N, rfl⟩ : ∃ N : Nat, z = (N : Int) := ⟨z.toNat, by omega⟩
  have e0 : (iI 0).toNatClampNeg = 0 := rfl
  have eN : (iI (N : Int)).toNatClampNeg = N := iI_cl rfl (by omega)
  have z0 : ¬ iI 0 < 0 := by decide
  have zN : ¬ iI (N : Int) < 0 := by
    show ¬ iI (N : Int) < iI 0
    rw [iI_lt (by omega) (by omega)]
    omega
  refine va_copyi S.1 S.2.1 (by rw [S.2.2.1]; exact hsz.symm) S.2.2.2.1 (S.2.2.2.2 _ w1) (S.2.2.2.2 _ w2) (S.2.2.2.2 _ w3) (S.2.2.2.2 _ w4) C.1.1 hG.1 hG.2.1 hG.2.2 q0 q1 1 1 he0 he1 rfl rfl rfl z0 z0 zN (by rw [e0, eN]; omega) (by rw [e0, eN]; omega) (fun _ _ => fits_bB _) hfr hlo hd (fun H1 locs1 a b d => kk H1 locs1 ?_)
  rw [e0, eN, cpy_bB] at a b
  exact ⟨by rw [← hs]; exact a, by rw [← hs]; exact b, d⟩
theorem va_copyT (hexec : p.tables.exec = Jvm.exec) (hb : c.code = cc) (hml : c.maxLocals = ls.size) {index : Nat} (hown : s.vm.findClass own = some m.cls) (hlink : (Cond.methodLink own index arraycopyName).before args s = true) (hnat : (Cond.native arraycopyName).before args s = true) (hstat : (Cond.static arraycopyName).before args s = true) (hini : (Cond.initialized "java/lang/System").before args s = true)
    {D : va_G} {cl : List vw_C} {tys : List (ClassId × FieldType)} {ws : va_W} (hK : va_K D cl tys s) (hP : va_P D cl ws H) (hD : va_D A ws) (hS : va_S A s.heap H locs) {b0 n0 : Nat} {f : Nat → Int32} (hX : va_T .byte b0 n0 (fun j => .int (f j)) A s s.heap) (hfit : ∀ j, fits .byte (.int (f j)) = true) (q1 t1 : Nat) {c1 : ClassId} {n1 : Nat} {g : Nat → Int32} (ha1 : ws[q1]? = some (a, .inl (c1, n1, .inl g))) (ht1 : tys[t1]? = some (c1, .byte))
    {sp dp n : Int32} (h1 : ¬ sp < 0) (h2 : ¬ dp < 0) (h3 : ¬ n < 0) (h4 : sp.toNatClampNeg + n.toNatClampNeg ≤ n0) (h5 : dp.toNatClampNeg + n.toNatClampNeg ≤ n1)
    (hframes : 1 ≤ R.frames) (hlocals : (rest.map fun v => v.category).sum + (nativeFrameWords "java/lang/System" "arraycopy" 5 + 11) ≤ R.locals) (hdg : decode cc pc = .ok (.invokestatic index, 3))
    (kk : ∀ (H1 : Heap) (locs1 : List Loc), va_P D cl (ws.set q1 (a, .inl (c1, n1, .inl (va_cpy f g sp.toNatClampNeg dp.toNatClampNeg n.toNatClampNeg)))) H1 → va_D A (ws.set q1 (a, .inl (c1, n1, .inl (va_cpy f g sp.toNatClampNeg dp.toNatClampNeg n.toNatClampNeg)))) → va_S A s.heap H1 locs1 → W p l e R s m args below meth c H1 locs1 cells slots Q (F0 m (pc + 3) ls rest)) : W p l e R s m args below meth c H locs cells slots Q (F0 m pc ls (.int n :: .int dp :: .ref a :: .int sp :: .ref b0 :: rest)) := by
  have nn : ∀ z : Int32, ¬ z < 0 → z.toInt = (z.toNatClampNeg : Int) := by
    intro z hz
    have hz0 : (0 : Int) ≤ z.toInt := by
      have := Int32.not_lt.mp hz
      simpa using Int32.le_iff_toInt_le.mp this
    show z.toInt = ((z.toInt.toNat : Nat) : Int)
    omega
  intro T hT X
  obtain ⟨scr, hs1, hs2, hs3, hs4, -, hs5, hbA⟩ := hX
  have hbl : b0 < s.heap.size := (Array.getElem?_eq_some_iff.mp hs1).1
  have hc0 : H[b0]? = some scr := by rw [hS.2.1 b0 hbl hbA]; exact hs1
  have hc1 : H[a]? = some (vp_cell c1 (n1, .inl g)) := hP q1 _ ha1
  obtain ⟨hs6, k0, hk0, cm0, hkk0⟩ := hs2
  obtain ⟨-, k1, hk1, cm1, hkk1⟩ := (hK.2 t1 _ ht1).1 n1 (fun j => .int (g j))
  obtain ⟨vm', X', step⟩ := X.arraycopy hexec hown hlink hnat hstat hini (src := b0) (dst := a) (cs := scr) (cd := vp_cell c1 (n1, .inl g)) (srcPos := sp) (destPos := dp) (n := n) (by rw [hT]; exact hc0) (by rw [hT]; exact hc1)
    hs6 (fun _ h => by cases h) hs3 (fun h => by cases h) hk0 hk1 hkk0 hkk1 (by simp [refKind]) h1 h2 h3
    (by rw [nn sp h1, nn n h3]; omega)
    (by rw [nn dp h2, nn n h3]; show ¬ _ > ((arrV c1 n1 (fun j => .int (g j))).slots.size : Int); rw [arrV_size]; omega)
    (fun vm₁ _ i hi => by
      have e : scr.slots.getD (sp.toNatClampNeg + i) .null = .int (f (sp.toNatClampNeg + i)) := by
        rw [Array.getD_eq_getD_getElem?, hs5 _ (by omega)]
        rfl
      refine ⟨?_, ?_⟩
      · rw [e]
        exact hfit _
      · rw [e]
        exact trivial)
    (g := F0 m pc ls (.int n :: .int dp :: .ref a :: .int sp :: .ref b0 :: rest)) rfl (by rw [hml]) (rest := rest) rfl (by rw [hb]; exact hdg) hframes (by show 2 * 0 + _ + _ ≤ _; omega)
  have e1 : copied scr (vp_cell c1 (n1, .inl g)) sp dp n = vp_cell c1 (n1, .inl (va_cpy f g sp.toNatClampNeg dp.toNatClampNeg n.toNatClampNeg)) := va_copiedX (fun z => .int z) scr c1 f g hs5 h4
  rw [e1] at X' step
  have hl : a < H.size := (Array.getElem?_eq_some_iff.mp hc1).1
  have hheap : ((T.setVm vm').setCell a (vp_cell c1 (n1, .inl (va_cpy f g sp.toNatClampNeg dp.toNatClampNeg n.toNatClampNeg)))).heap = H.setIfInBounds a (vp_cell c1 (n1, .inl (va_cpy f g sp.toNatClampNeg dp.toNatClampNeg n.toNatClampNeg))) := by rw [← hT]; rfl
  have oq : ∀ q : Nat, q ≠ a → (H.setIfInBounds a (vp_cell c1 (n1, .inl (va_cpy f g sp.toNatClampNeg dp.toNatClampNeg n.toNatClampNeg))))[q]? = H[q]? := fun q hq => by simp [Array.getElem?_setIfInBounds, Ne.symm hq]
  obtain ⟨t, a1, b1⟩ := kk _ _ (hP.set hD ha1 (show (H.setIfInBounds a _)[a]? = some _ by simp [Array.getElem?_setIfInBounds, hl]) oq) (hD.set ha1) ⟨by simp; exact hS.1, fun q g1 g2 => by
      rw [oq q (fun e => g2 (by rw [e]; exact hD.2 q1 _ ha1))]
      exact hS.2.1 q g1 g2, fun q hq => by
      rcases List.mem_append.mp hq with h | h
      · exact hS.2.2 q h
      · obtain ⟨z, -, hz⟩ := List.mem_map.mp h
        rw [← hz]
        exact hD.2 q1 _ ha1⟩ _ hheap X'
  exact ⟨t, step t a1, b1⟩
/-- a String constant's bytes into an array of the world -/
theorem g_tcopy (S : CallFix p m c cc nL s args Ts own) (C : gC K A s.heap s) (hG : gW K A s.heap gs H locs) (hsz : ls.size = nL) {index : Nat} (w1 : Cond.methodLink own index arraycopyName ∈ Ts) (w2 : Cond.native arraycopyName ∈ Ts) (w3 : Cond.static arraycopyName ∈ Ts) (w4 : Cond.initialized "java/lang/System" ∈ Ts) {i : Nat} {w : List Int} (hT : txI i w) (hl : w.length ≤ 100) (q1 : Nat) {n1 : Nat} {G : Int → Int} (he1 : gs.flatten[q1]? = some (aB K a n1 G)) {d : Int} (h0 : 0 ≤ d) (h1 : d + (w.length : Int) ≤ (n1 : Int)) (hn : n1 ≤ 2147483647) (hfr : 1 ≤ R.frames) (hlo : (rest.map fun v => v.category).sum + (nativeFrameWords "java/lang/System" "arraycopy" 5 + 11) ≤ R.locals) (hs : gs.flatten.set q1 (aB K a n1 (cpyW G d w)) = gs'.flatten) (hd : decode cc pc = .ok (.invokestatic index, 3))
    (kk : ∀ (H1 : Heap) (locs1 : List Loc), gW K A s.heap gs' H1 locs1 → W p l e R s m args below meth c H1 locs1 cells slots Q (F0 m (pc + 3) ls rest)) : W p l e R s m args below meth c H locs cells slots Q (F0 m pc ls (.int (iI (w.length : Int)) :: .int (iI d) :: .ref a :: .int (iI 0) :: .ref (K.2.2.2.2 i) :: rest)) := by
  obtain ⟨N, rfl⟩ : ∃ N : Nat, d = (N : Int) := ⟨d.toNat, by omega⟩
  have e0 : (iI 0).toNatClampNeg = 0 := rfl
  have eN : (iI (N : Int)).toNatClampNeg = N := iI_cl rfl (by omega)
  have ew : (iI (w.length : Int)).toNatClampNeg = w.length := iI_cl rfl (by omega)
  have z0 : ¬ iI 0 < 0 := by decide
  have zN : ∀ k : Nat, (k : Int) < 2147483648 → ¬ iI (k : Int) < 0 := fun k hk => by
    show ¬ iI (k : Int) < iI 0
    rw [iI_lt (by omega) (by omega)]
    omega
  have hf : ∀ j : Nat, fits .byte (.int ((w.map iI).getD j 0)) = true := fun j => by
    have b9 := wd_bd hT.2 j
    have e9 : (w.map iI).getD j 0 = iI (w.getD j 0) := by
      by_cases q : j < w.length
      · simp [List.getD, q]
      · simp [List.getD, q]; rfl
    rw [e9, ← bB_small b9]
    exact fits_bB _
  refine va_copyT S.1 S.2.1 (by rw [S.2.2.1]; exact hsz.symm) S.2.2.2.1 (S.2.2.2.2 _ w1) (S.2.2.2.2 _ w2) (S.2.2.2.2 _ w3) (S.2.2.2.2 _ w4) C.1.1 hG.1 hG.2.1 hG.2.2 (old_T C (gTxt_of C hT).2.2.2) hf q1 1 he1 rfl z0 (zN N (by omega)) (zN w.length (by omega)) (by rw [e0, ew]; omega) (by rw [eN, ew]; omega) hfr hlo hd (fun H1 locs1 a b d => kk H1 locs1 ?_)
  rw [e0, eN, ew, cpy_wB w hT.2] at a b
  exact ⟨by rw [← hs]; exact a, by rw [← hs]; exact b, d⟩
/-- the digits' tables -/
theorem g_dig10 (S : CallFix p m c cc nL s args Ts own) (C : gC K A s.heap s) (hG : gW K A s.heap gs H locs) {z : Int} (h0 : 0 ≤ z) (h1 : z < 100) (hd : decode cc pc = .ok (.baload, 1)) (kk : W p l e R s m args below meth c H locs cells slots Q (F0 m (pc + 1) ls (.int (iI (48 + z / 10)) :: rest))) : W p l e R s m args below meth c H locs cells slots Q (F0 m pc ls (.int (iI z) :: .ref (K.2.2.2.2 40) :: rest)) := by
  obtain ⟨N, rfl⟩ : ∃ N : Nat, z = (N : Int) := ⟨z.toNat, by omega⟩
  refine va_tb S.1 S.2.1 (old_T C C.1.2.2.2.2.1.2.1.1.2.1.1.2) hG.2.2 (iI_in rfl (by omega) (by omega)) ?_ hd kk
  rw [iI_cl rfl (by omega)]
theorem g_dig1 (S : CallFix p m c cc nL s args Ts own) (C : gC K A s.heap s) (hG : gW K A s.heap gs H locs) {z : Int} (h0 : 0 ≤ z) (h1 : z < 100) (hd : decode cc pc = .ok (.baload, 1)) (kk : W p l e R s m args below meth c H locs cells slots Q (F0 m (pc + 1) ls (.int (iI (48 + z % 10)) :: rest))) : W p l e R s m args below meth c H locs cells slots Q (F0 m pc ls (.int (iI z) :: .ref (K.2.2.2.2 41) :: rest)) := by
  obtain ⟨N, rfl⟩ : ∃ N : Nat, z = (N : Int) := ⟨z.toNat, by omega⟩
  refine va_tb S.1 S.2.1 (old_T C C.1.2.2.2.2.1.2.1.1.2.1.2.2) hG.2.2 (iI_in rfl (by omega) (by omega)) ?_ hd kk
  rw [iI_cl rfl (by omega)]
/-- the script: its length, its numbers -/
def scrL (K : KC) : Int := (K.2.2.2.2 43 : Int)
def scrN (K : KC) (k : Int) : Int32 := Int32.ofNat (K.2.2.2.1 (100 + k.toNat))
theorem g_slen (S : CallFix p m c cc nL s args Ts own) (C : gC K A s.heap s) (hG : gW K A s.heap gs H locs) (hd : decode cc pc = .ok (.arraylength, 1)) (kk : W p l e R s m args below meth c H locs cells slots Q (F0 m (pc + 1) ls (.int (iI (scrL K)) :: rest))) : W p l e R s m args below meth c H locs cells slots Q (F0 m pc ls (.ref (K.2.2.2.2 42) :: rest)) :=
  va_tlen S.1 S.2.1 (old_T C C.1.2.2.2.2.1.2.1.1.2.2.2) hG.2.2 (nI_iI _) hd kk
theorem g_sald (S : CallFix p m c cc nL s args Ts own) (C : gC K A s.heap s) (hG : gW K A s.heap gs H locs) {z : Int} (h0 : 0 ≤ z) (h1 : z < scrL K) (hd : decode cc pc = .ok (.iaload, 1)) (kk : W p l e R s m args below meth c H locs cells slots Q (F0 m (pc + 1) ls (.int (scrN K z) :: rest))) : W p l e R s m args below meth c H locs cells slots Q (F0 m pc ls (.int (iI z) :: .ref (K.2.2.2.2 42) :: rest)) := by
  obtain ⟨N, rfl⟩ : ∃ N : Nat, z = (N : Int) := ⟨z.toNat, by omega⟩
  have hL : K.2.2.2.2 43 ≤ 260 := C.1.2.2.2.2.1.2.1.1.2.2.1
  unfold scrL at h1
  refine va_ti S.1 S.2.1 (old_T C C.1.2.2.2.2.1.2.1.1.2.2.2) hG.2.2 (iI_in rfl (by omega) (by omega)) ?_ hd kk
  rw [iI_cl rfl (by omega)]
  unfold scrN
  rw [Int.toNat_natCast]
end GJR
/-- a number's last 31 bits -/
def and31 (x : Int32) : Int := (x &&& 2147483647).toInt
theorem and31_bd (x : Int32) : 0 ≤ and31 x ∧ and31 x < 2147483648 := by
  unfold and31
  refine ⟨?_, Int32.toInt_lt _⟩
  have e : (x &&& 2147483647).toInt = (x.toBitVec &&& 2147483647#32).toInt := rfl
  rw [e]
  refine BitVec.toInt_nonneg_of_msb_false ?_
  rw [BitVec.msb_and, show (2147483647#32).msb = false from by decide, Bool.and_false]
theorem and31_e (x : Int32) : x &&& iI 2147483647 = iI (and31 x) := (Int32.ofInt_toInt _).symm
/-- what a draw answers -/
def drwN (K : KC) (k n : Int) : Int := (if k < scrL K then and31 (scrN K k) else 0) % n
theorem drwN_bd (K : KC) (k : Int) {n : Int} (h : 0 < n) : 0 ≤ drwN K k n ∧ drwN K k n < n := ⟨Int.emod_nonneg _ (by omega), Int.emod_lt_of_pos _ h⟩
theorem shl8 (x : Int32) : x <<< (iI 8 &&& 31) = x * iI 256 := by
  apply Int32.toBitVec_inj.mp
  have e1 : (x <<< (iI 8 &&& 31)).toBitVec = x.toBitVec <<< (8 : Nat) := rfl
  have e2 : (x * iI 256).toBitVec = x.toBitVec * 256#32 := rfl
  rw [e1, e2, BitVec.shiftLeft_eq_mul_twoPow]
  rfl
theorem or8 {v c : Int} (hv : 0 ≤ v ∧ v < 8388608) (hc : 0 ≤ c ∧ c < 256) : iI (v * 256) ||| iI c = iI (v * 256 + c) := by
  obtain ⟨a, rfl⟩ : ∃ a : Nat, v = (a : Int) := ⟨v.toNat, by omega⟩
  obtain ⟨b, rfl⟩ : ∃ b : Nat, c = (b : Int) := ⟨c.toNat, by omega⟩
  apply Int32.toBitVec_inj.mp
  have e1 : (iI ((a : Int) * 256) ||| iI (b : Int)).toBitVec = (BitVec.ofInt 32 ((a : Int) * 256)) ||| (BitVec.ofInt 32 (b : Int)) := rfl
  have e2 : (iI ((a : Int) * 256 + (b : Int))).toBitVec = BitVec.ofInt 32 ((a : Int) * 256 + (b : Int)) := rfl
  have f1 : ((a : Int) * 256) = ((2 ^ 8 * a : Nat) : Int) := by omega
  have f2 : ((a : Int) * 256 + (b : Int)) = ((2 ^ 8 * a + b : Nat) : Int) := by omega
  rw [e1, e2, f2, f1, BitVec.ofInt_natCast, BitVec.ofInt_natCast, BitVec.ofInt_natCast]
  apply BitVec.eq_of_toNat_eq
  rw [BitVec.toNat_or, BitVec.toNat_ofNat, BitVec.toNat_ofNat, BitVec.toNat_ofNat, Nat.mod_eq_of_lt (by omega), Nat.mod_eq_of_lt (by omega), Nat.mod_eq_of_lt (by omega), Nat.two_pow_add_eq_or_of_lt (by omega)]
section GJC
variable {p : Program} {l : Launch} {e : Env} {R : Room} {s : State} {m : MethodId} {args : Array Value} {below : List Frame} {meth : Method} {c : Code} {H : Heap} {locs : List Loc} {cells slots : Nat} {Q : State → Prop}
variable {cc bytes : ByteArray} {pc nL maxL index n mc ms f lo b : Nat} {ls : Array Slot} {rest st0 : List Value} {Ts wsY : List Cond} {own owner : String} {K : KC} {A A0 : Nat → Prop} {H0 : Heap} {gs gc : List va_W} {x y : MethodName} {ret : Option FieldType} {As : List Value}
theorem g_shl8 (S : CallFix p m c cc nL s args Ts own) {a : Int} (hd : decode cc pc = .ok (.ishl, 1)) (k : W p l e R s m args below meth c H locs cells slots Q (F0 m (pc + 1) ls (.int (iI (a * 256)) :: rest))) : W p l e R s m args below meth c H locs cells slots Q (F0 m pc ls (.int (iI 8) :: .int (iI a) :: rest)) := by
  rw [← iI_mul, ← shl8] at k
  exact lv_ishl S.1 S.2.1 hd k
theorem g_or8 (S : CallFix p m c cc nL s args Ts own) {v z : Int} (hv : 0 ≤ v ∧ v < 8388608) (hz : 0 ≤ z ∧ z < 256) (hd : decode cc pc = .ok (.ior, 1)) (k : W p l e R s m args below meth c H locs cells slots Q (F0 m (pc + 1) ls (.int (iI (v * 256 + z)) :: rest))) : W p l e R s m args below meth c H locs cells slots Q (F0 m pc ls (.int (iI z) :: .int (iI (v * 256)) :: rest)) := by
  rw [← or8 hv hz] at k
  exact lv_ior S.1 S.2.1 hd k
/-- a call of a method that the receiver's class has from above -/
theorem g_invU (S : CallFix p m c cc nL s args Ts own) (C : gC K A0 H0 s) (hG : gW K A0 H0 gs H locs) {T : Type} {post : Value → T → Prop} {Wn gs' : T → List va_W} (is : List Nat) (hM : mG l y wsY f lo K (.ref b :: As) gc post Wn mc ms) (hC : is.map (fun i => gs[i]?) = gc.map some) (hn : va_nd is = true) {Cn : String} {T9 : u_T} {N ci : Nat} {fs : List Value} (q0 : Nat) (he : gc.flatten[q0]? = some (b, .inr (ci, fs))) (hc : vwCl[ci]? = some (Cn, T9, N)) (cw : va_CU R s args own Cn owner index x y bytes maxL ret wsY { frames := f, cells := mc, slots := ms, locals := lo } mc ms n) (hlen : As.length = n) (hsz : ls.size = nL) (hst : st0 = As.reverse ++ .ref b :: rest) (hrm : (rest.map fun v => v.category).sum ≤ 8) (hd : decode cc pc = .ok (.invokevirtual index, 3)) (hf : cells + mc ≤ R.cells ∧ slots + ms ≤ R.slots) (hl : ∀ u, is.length ≤ (Wn u).length) (hg : ∀ u, gback gs is (Wn u) = gs' u)
    (kk : ∀ (v : Value) (u : T) (H1 : Heap) (locs1 : List Loc), post v u → gW K A0 H0 (gs' u) H1 locs1 → W p l e R s m args below meth c H1 locs1 (cells + mc) (slots + ms) Q (F0 m (pc + 3) ls (v :: rest))) : W p l e R s m args below meth c H locs cells slots Q (F0 m pc ls st0) :=
  g_backg C hG hC hn (va_runU S (hM H.size) cw ⟨gPre_blind, va_recv C.1.1 (gpick_P hG.1 hC) hc he, fun U hU hW => ⟨rfl, gPre_of C hG hC hn hU hW⟩⟩ rfl hlen hsz hst (lv_room hrm) hd hf) hl hg kk
theorem g_invUv (S : CallFix p m c cc nL s args Ts own) (C : gC K A0 H0 s) (hG : gW K A0 H0 gs H locs) {T : Type} {post : T → Prop} {Wn gs' : T → List va_W} (is : List Nat) (hM : mV l y wsY f lo K (.ref b :: As) gc post Wn mc ms) (hC : is.map (fun i => gs[i]?) = gc.map some) (hn : va_nd is = true) {Cn : String} {T9 : u_T} {N ci : Nat} {fs : List Value} (q0 : Nat) (he : gc.flatten[q0]? = some (b, .inr (ci, fs))) (hc : vwCl[ci]? = some (Cn, T9, N)) (cw : va_CU R s args own Cn owner index x y bytes maxL ret wsY { frames := f, cells := mc, slots := ms, locals := lo } mc ms n) (hlen : As.length = n) (hsz : ls.size = nL) (hst : st0 = As.reverse ++ .ref b :: rest) (hrm : (rest.map fun v => v.category).sum ≤ 8) (hd : decode cc pc = .ok (.invokevirtual index, 3)) (hf : cells + mc ≤ R.cells ∧ slots + ms ≤ R.slots) (hl : ∀ u, is.length ≤ (Wn u).length) (hg : ∀ u, gback gs is (Wn u) = gs' u)
    (kk : ∀ (u : T) (H1 : Heap) (locs1 : List Loc), post u → gW K A0 H0 (gs' u) H1 locs1 → W p l e R s m args below meth c H1 locs1 (cells + mc) (slots + ms) Q (F0 m (pc + 3) ls rest)) : W p l e R s m args below meth c H locs cells slots Q (F0 m pc ls st0) :=
  g_backv C hG hC hn (va_runU S (hM H.size) cw ⟨gPre_blind, va_recv C.1.1 (gpick_P hG.1 hC) hc he, fun U hU hW => ⟨rfl, gPre_of C hG hC hn hU hW⟩⟩ rfl hlen hsz hst (lv_room hrm) hd hf) hl hg kk
/-- a call of the class above -/
theorem g_invSU (S : CallFix p m c cc nL s args Ts own) (C : gC K A0 H0 s) (hG : gW K A0 H0 gs H locs) {T : Type} {post : Value → T → Prop} {Wn gs' : T → List va_W} (is : List Nat) (hM : mG l y wsY f lo K (.ref b :: As) gc post Wn mc ms) (hC : is.map (fun i => gs[i]?) = gc.map some) (hn : va_nd is = true) {Cn : String} {T9 : u_T} {N ci : Nat} {fs : List Value} (q0 : Nat) (he : gc.flatten[q0]? = some (b, .inr (ci, fs))) (hc : vwCl[ci]? = some (Cn, T9, N)) (cw : va_CS R s args own index y bytes maxL ret wsY { frames := f, cells := mc, slots := ms, locals := lo } mc ms n) (hlen : As.length = n) (hsz : ls.size = nL) (hst : st0 = As.reverse ++ .ref b :: rest) (hrm : (rest.map fun v => v.category).sum ≤ 8) (hd : decode cc pc = .ok (.invokespecial index, 3)) (hf : cells + mc ≤ R.cells ∧ slots + ms ≤ R.slots) (hl : ∀ u, is.length ≤ (Wn u).length) (hg : ∀ u, gback gs is (Wn u) = gs' u)
    (kk : ∀ (v : Value) (u : T) (H1 : Heap) (locs1 : List Loc), post v u → gW K A0 H0 (gs' u) H1 locs1 → W p l e R s m args below meth c H1 locs1 (cells + mc) (slots + ms) Q (F0 m (pc + 3) ls (v :: rest))) : W p l e R s m args below meth c H locs cells slots Q (F0 m pc ls st0) :=
  g_backg C hG hC hn (va_runSU (C := Cn) (cC := K.1.1 ci) (C.1.1.1 ci _ hc).2 S (hM H.size) cw ⟨gPre_blind, va_recv C.1.1 (gpick_P hG.1 hC) hc he, fun U hU hW => ⟨rfl, gPre_of C hG hC hn hU hW⟩⟩ rfl hlen hsz hst (lv_room hrm) hd hf) hl hg kk
/-- a copy of an array of bytes -/
theorem g_clone (S : CallFix p m c cc nL s args Ts own) (C : gC K A s.heap s) (hG : gW K A s.heap gs H locs) (hsz : ls.size = nL) {a : Nat} (w1 : Cond.methodLink own index ⟨"[B", "clone", "()Ljava/lang/Object;"⟩ ∈ Ts) (w2 : Cond.sameMethod "[B" "java/lang/Object" "clone" "()Ljava/lang/Object;" ∈ Ts) (w3 : Cond.native ⟨"java/lang/Object", "clone", "()Ljava/lang/Object;"⟩ ∈ Ts) (w4 : Cond.instanceMethod ⟨"java/lang/Object", "clone", "()Ljava/lang/Object;"⟩ ∈ Ts) (w5 : Cond.selects "[B" ⟨"[B", "clone", "()Ljava/lang/Object;"⟩ ⟨"java/lang/Object", "clone", "()Ljava/lang/Object;"⟩ ∈ Ts)
    (q0 : Nat) {n1 : Nat} {F : Int → Int} (he : gs.flatten[q0]? = some (aB K a n1 F)) (hfr : 1 ≤ R.frames) (hlo : (rest.map fun v => v.category).sum + 14 ≤ R.locals) (hcells : cells + 1 ≤ R.cells) (hslots : slots + n1 ≤ R.slots) {gs' : Nat → List va_W} (hs : ∀ q, gs.flatten ++ [aB K q n1 F] = (gs' q).flatten) (hd : decode cc pc = .ok (.invokevirtual index, 3))
    (kk : ∀ (q : Nat) (H1 : Heap), gW K A s.heap (gs' q) H1 locs → W p l e R s m args below meth c H1 locs (cells + 1) (slots + n1) Q (F0 m (pc + 3) ls (.ref q :: rest))) : W p l e R s m args below meth c H locs cells slots Q (F0 m pc ls (.ref a :: rest)) :=
  va_clone S.1 S.2.1 (by rw [S.2.2.1]; exact hsz.symm) S.2.2.2.1 (S.2.2.2.2 _ w1) (S.2.2.2.2 _ w2) (S.2.2.2.2 _ w3) (S.2.2.2.2 _ w4) (S.2.2.2.2 _ w5) C.1.2.2.2.2.1.2.1.2 C.1.1 hG.1 hG.2.1 hG.2.2 C.2.1 q0 1 he rfl (C.1.1.2 1 _ rfl).2 (fun i v hv => by
    have hv : (arrV (K.2.1 1) n1 (fun j => .int (bB (F (j : Int))))).slots[i]? = some v := hv
    have hi : i < n1 := by
      have h9 := (Array.getElem?_eq_some_iff.mp hv).1
      rw [arrV_size] at h9
      exact h9
    rw [arrV_read _ _ hi] at hv
    cases hv
    exact fits_bB _) hfr hlo hcells hslots hd (fun q H1 _ a b d => kk q H1 ⟨by rw [← hs]; exact a, by rw [← hs]; exact b, d⟩)
theorem g_castA (S : CallFix p m c cc nL s args Ts own) (C : gC K A s.heap s) (hG : gW K A s.heap gs H locs) {a : Nat} (w1 : Cond.classLink own index "[B" ∈ Ts) (q0 : Nat) {n1 : Nat} {F : Int → Int} (he : gs.flatten[q0]? = some (aB K a n1 F)) (hd : decode cc pc = .ok (.checkcast index, 3))
    (kk : W p l e R s m args below meth c H locs cells slots Q (F0 m (pc + 3) ls (.ref a :: rest))) : W p l e R s m args below meth c H locs cells slots Q (F0 m pc ls (.ref a :: rest)) :=
  va_castA S.1 S.2.1 S.2.2.2.1 (S.2.2.2.2 _ w1) hG.1 q0 he (C.1.1.2 1 _ rfl).2 hd kk
end GJC
section GINVO2
variable {p : Program} {l : Launch} {e : Env} {R : Room} {s : State} {m : MethodId} {args : Array Value} {below : List Frame} {meth : Method} {c : Code} {H : Heap} {locs : List Loc} {cells slots : Nat} {Q : State → Prop}
variable {cc bytes : ByteArray} {pc nL maxL index n mc ms f lo : Nat} {ls : Array Slot} {rest st0 : List Value} {Ts wsY : List Cond} {own : String} {K : KC} {A : Nat → Prop} {gs gc : List va_W} {y : MethodName} {ret : Option FieldType} {As : List Value}
/-- a call on a String constant that answers nothing -/
theorem g_invVOv (S : CallFix p m c cc nL s args Ts own) (C : gC K A s.heap s) (hG : gW K A s.heap gs H locs) {T : Type} {post : T → Prop} {Wn gs' : T → List va_W} {i : Nat} {w : List Int} (is : List Nat) (hM : mV l y wsY f lo K (.ref (K.2.2.2.1 i) :: As) gc post Wn mc ms) (hC : is.map (fun i => gs[i]?) = gc.map some) (hn : va_nd is = true) (hT : txI i w) (cw : CallW R s args own RJ0 index y bytes maxL ret wsY { frames := f, cells := mc, slots := ms, locals := lo } mc ms n) (hlen : As.length = n) (hsz : ls.size = nL) (hst : st0 = As.reverse ++ .ref (K.2.2.2.1 i) :: rest) (hrm : (rest.map fun v => v.category).sum ≤ 8) (hd : decode cc pc = .ok (.invokevirtual index, 3)) (hf : cells + mc ≤ R.cells ∧ slots + ms ≤ R.slots) (hl : ∀ u, is.length ≤ (Wn u).length) (hg : ∀ u, gback gs is (Wn u) = gs' u)
    (kk : ∀ (u : T) (H1 : Heap) (locs1 : List Loc), post u → gW K A s.heap (gs' u) H1 locs1 → W p l e R s m args below meth c H1 locs1 (cells + mc) (slots + ms) Q (F0 m (pc + 3) ls rest)) : W p l e R s m args below meth c H locs cells slots Q (F0 m pc ls st0) :=
  g_backv C hG hC hn (va_runV S (hM H.size) cw ⟨gPre_blind, va_Orecv ((((gTxt_of C hT).1).kept (fun a ha _ => C.2.2.2.2 a ha)).narrow (fun q hq => C.2.2.1 q hq)) hG.2.2, fun U hU hW => ⟨rfl, gPre_of C hG hC hn hU hW⟩⟩ rfl hlen hsz hst (lv_room hrm) hd hf) hl hg kk
end GINVO2
section GRET2
variable {p : Program} {l : Launch} {e : Env} {R : Room} {s : State} {m : MethodId} {args : Array Value} {below : List Frame} {meth : Method} {c : Code} {H : Heap} {locs : List Loc} {cells slots : Nat} {Q : State → Prop}
variable {cc : ByteArray} {pc nL : Nat} {ls : Array Slot} {Ts : List Cond} {own : String} {K : KC} {A : Nat → Prop} {mc ms : Nat}
theorem g_aretA (S : CallFix p m c cc nL s args Ts own) {T : Type} {post : Value → T → Prop} {Wn : T → List va_W} {cn : FieldType} (hr : meth.sig.returnType = some (.array cn)) (hlk : meth.locks = false) (hQ : Q = MQ below (gQ post (fun u => gAt K A (Wn u)) A) args s mc ms A) {v : Value} (hv : v = .null ∨ ∃ a, v = .ref a) (hd : decode cc pc = .ok (.areturn, 1)) (h1 : cells ≤ mc) (h2 : slots ≤ ms) (u : T) (hp : post (v) u) (hG : gW K A s.heap (Wn u) H locs) : W p l e R s m args below meth c H locs cells slots Q (F0 m pc ls [v]) := by
  subst hQ
  refine W.widen h1 h2 ?_
  exact W.aret (v := v) S.1 S.2.1 hr (Or.inr ⟨cn, rfl⟩) hv (fun t ht hW => ⟨⟨_, u, rfl, hp, gAt_of ht hG.1 hG.2.1⟩, hG.2.2.F ht⟩) hG.2.2.2.2 hd hlk
end GRET2
