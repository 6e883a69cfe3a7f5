/-! ===== new objects and arrays; worlds in another order ===== -/
theorem gW_perm {K : KC} {A : Nat → Prop} {H0 H : Heap} {gs gs' : List va_W} {locs : List Loc} (hp : gs.flatten.Perm gs'.flatten) (hG : gW K A H0 gs H locs) : gW K A H0 gs' H locs := by
  refine ⟨vaP_iff.mpr fun q hq => vaP_iff.mp hG.1 q (hp.mem_iff.mpr hq), vaD_iff.mpr ⟨?_, fun q hq => (vaD_iff.mp hG.2.1).2 q (hp.mem_iff.mpr hq)⟩, hG.2.2⟩
  exact (hp.pairwise_iff (fun {x y} (h : nEq x y) => (fun e => h (Eq.symm e) : nEq y x))).mp (vaD_iff.mp hG.2.1).1
theorem vaA_perm {ws ws' : va_W} (hp : ws.Perm ws') (sz : Nat) : va_A ws sz = va_A ws' sz := by
  funext q
  have e : ∀ {w w' : va_W}, w.Perm w' → (∃ (k : Nat) (e : va_E), w[k]? = some (q, e)) → ∃ (k : Nat) (e : va_E), w'[k]? = some (q, e) := fun {w w'} h ⟨k, e, hk⟩ => by
    obtain ⟨j, hj⟩ := List.getElem?_of_mem (h.mem_iff.mp (List.mem_of_getElem? hk))
    exact ⟨j, e, hj⟩
  refine propext ⟨fun h => ?_, fun h => ?_⟩
  · rcases h with h | h
    · exact Or.inl (e hp h)
    · exact Or.inr h
  · rcases h with h | h
    · exact Or.inl (e hp.symm h)
    · exact Or.inr h
theorem gPre_perm {K : KC} {gs gs' : List va_W} (hp : gs.flatten.Perm gs'.flatten) {sz : Nat} {U : State} (h : gPre K gs sz U) : gPre K gs' sz U := by
  obtain ⟨h1, h2, h3, h4, h5⟩ := h
  refine ⟨h1, h2, vaP_iff.mpr fun q hq => vaP_iff.mp h3 q (hp.mem_iff.mpr hq), vaD_iff.mpr ⟨?_, fun q hq => (vaD_iff.mp h4).2 q (hp.mem_iff.mpr hq)⟩, h5⟩
  exact (hp.pairwise_iff (fun {x y} (h : nEq x y) => (fun e => h (Eq.symm e) : nEq y x))).mp (vaD_iff.mp h4).1
theorem gAt_perm {K : KC} {A : Nat → Prop} {gs gs' : List va_W} (hp : gs.flatten.Perm gs'.flatten) {t : State} (h : gAt K A gs t) : gAt K A gs' t := by
  obtain ⟨h3, h4⟩ := h
  refine ⟨vaP_iff.mpr fun q hq => vaP_iff.mp h3 q (hp.mem_iff.mpr hq), vaD_iff.mpr ⟨?_, fun q hq => (vaD_iff.mp h4).2 q (hp.mem_iff.mpr hq)⟩⟩
  exact (hp.pairwise_iff (fun {x y} (h : nEq x y) => (fun e => h (Eq.symm e) : nEq y x))).mp (vaD_iff.mp h4).1
/-- a contract's world in another order, its answer told otherwise -/
theorem mV.world {l : Launch} {y : MethodName} {ws : List Cond} {f lo : Nat} {K : KC} {av : List Value} {gs gs' : List va_W} {S S' : Type} {post : S → Prop} {post' : S' → Prop} {Wn : S → List va_W} {Wn' : S' → List va_W} {mc ms : Nat} (h : mV l y ws f lo K av gs post Wn mc ms)
    (hp : gs'.flatten.Perm gs.flatten) (hq : ∀ u, post u → ∃ u', post' u' ∧ (Wn u).flatten.Perm (Wn' u').flatten) : mV l y ws f lo K av gs' post' Wn' mc ms := by
  intro sz
  have h1 := h sz
  rw [vaA_perm hp]
  refine MetFree.mono h1 (fun a s hP => ?_) (fun _ _ _ _ _ hk => hk) (fun a s o t hP hQ => ?_)
  · exact ⟨hP.1, gPre_perm hp hP.2⟩
  · obtain ⟨⟨⟨u, e, q1, q2⟩, q3⟩, q4⟩ := hQ
    obtain ⟨u', r1, r2⟩ := hq u q1
    exact ⟨⟨⟨u', e, r1, gAt_perm r2 q2⟩, q3⟩, q4⟩
theorem mG.world {l : Launch} {y : MethodName} {ws : List Cond} {f lo : Nat} {K : KC} {av : List Value} {gs gs' : List va_W} {S S' : Type} {post : Value → S → Prop} {post' : Value → S' → Prop} {Wn : S → List va_W} {Wn' : S' → List va_W} {mc ms : Nat} (h : mG l y ws f lo K av gs post Wn mc ms)
    (hp : gs'.flatten.Perm gs.flatten) (hq : ∀ v u, post v u → ∃ u', post' v u' ∧ (Wn u).flatten.Perm (Wn' u').flatten) : mG l y ws f lo K av gs' post' Wn' mc ms := by
  intro sz
  have h1 := h sz
  rw [vaA_perm hp]
  refine MetFree.mono h1 (fun a s hP => ?_) (fun _ _ _ _ _ hk => hk) (fun a s o t hP hQ => ?_)
  · exact ⟨hP.1, gPre_perm hp hP.2⟩
  · obtain ⟨⟨⟨v, u, e, q1, q2⟩, q3⟩, q4⟩ := hQ
    obtain ⟨u', r1, r2⟩ := hq v u q1
    exact ⟨⟨⟨v, u', e, r1, gAt_perm r2 q2⟩, q3⟩, q4⟩
section GNEW
variable {p : Program} {l : Launch} {e : Env} {R : Room} {s : State} {m : MethodId} {args : Array Value} {below : List Frame} {meth : Method} {c : Code} {H : Heap} {locs : List Loc} {cells slots : Nat} {Q : State → Prop}
variable {cc : ByteArray} {pc nL : Nat} {ls : Array Slot} {rest : List Value} {Ts : List Cond} {own : String} {K : KC} {A : Nat → Prop} {H0 : Heap} {gs : List va_W} {gs' : Nat → List va_W}
theorem g_new (S : CallFix p m c cc nL s args Ts own) (C : gC K A H0 s) (hG : gW K A H0 gs H locs) {Cn : String} {T : u_T} {N ci index : Nat} (hin : ∀ w ∈ u_ws Cn T N, w ∈ Ts) (ty0 : Nat → FieldType) (hty : ∀ k, k < N → parseFieldDescriptor (T k).2.2.1 = some (ty0 k)) (hcl : Cond.classLink own index Cn ∈ Ts) (hinst : Cond.instantiable Cn N ∈ Ts) (hini : Cond.initialized Cn ∈ Ts) (hc : vwCl[ci]? = some (Cn, T, N)) {fs : List Value} (hfs : ∀ j, j < N → defaultValue (ty0 j) = vp_V fs j) (hcells : cells + 1 ≤ R.cells) (hslots : slots + N ≤ R.slots) (hs : ∀ q, gs.flatten ++ [(q, .inr (ci, fs))] = (gs' q).flatten) (hd : decode cc pc = .ok (.new index, 3))
    (kk : ∀ (q : Nat) (H1 : Heap), gW K A H0 (gs' q) H1 locs → W p l e R s m args below meth c H1 locs (cells + 1) (slots + N) Q (F0 m (pc + 3) ls (.ref q :: rest))) : W p l e R s m args below meth c H locs cells slots Q (F0 m pc ls rest) :=
  va_new S.1 S.2.1 S.2.2.2.2 hin ty0 hty S.2.2.2.1 (S.2.2.2.2 _ hcl) (S.2.2.2.2 _ hinst) (S.2.2.2.2 _ hini) C.1.1 hG.1 hG.2.1 hG.2.2 C.2.1 hc hfs hcells hslots hd (fun q H1 a b d => kk q H1 ⟨by rw [← hs]; exact a, by rw [← hs]; exact b, d⟩)
theorem tyK_same {cA : ClassId} {ty : FieldType} (k : Nat) (hK : va_K K.1 vwCl (tyK K ++ [(cA, ty)]) s) (hk : (tyK K)[k]? = some (K.2.1 k, ty)) : cA = K.2.1 k := by
  have h1 := (hK.2 7 (cA, ty) rfl).2
  have h2 := (hK.2 k (K.2.1 k, ty) (by rw [List.getElem?_append_left (List.getElem?_eq_some_iff.mp hk).1]; exact hk)).2
  cases ty with
  | object C =>
    obtain ⟨-, -, -, -, -, a⟩ := h1
    obtain ⟨-, -, -, -, -, b⟩ := h2
    exact Option.some.inj (a.symm.trans b)
  | _ => exact Option.some.inj (h1.symm.trans h2)
theorem g_newa (S : CallFix p m c cc nL s args Ts own) (C : gC K A H0 s) (hG : gW K A H0 gs H locs) {atype : ArrayType} {ty : FieldType} (hty : newarray.typeOf atype = ty) (harr : Cond.arrayClass (newarray.typeOf atype) ∈ Ts) (k : Nat) (hk : (tyK K)[k]? = some (K.2.1 k, ty)) {n : Int} (N : Nat) (hn : n = (N : Int)) {a0 : vp_A} (ha : ∀ cA : ClassId, vp_cell cA a0 = arrV cA N (fun _ => defaultValue ty)) (hbytes : N * componentBytes ty ≤ 536870912) (hN : N ≤ 2147483647) (hcells : cells + 1 ≤ R.cells) (hslots : slots + N ≤ R.slots) (hs : ∀ q, gs.flatten ++ [(q, .inl (K.2.1 k, a0))] = (gs' q).flatten) (hd : decode cc pc = .ok (.newarray atype, 2))
    (kk : ∀ (q : Nat) (H1 : Heap), gW K A H0 (gs' q) H1 locs → W p l e R s m args below meth c H1 locs (cells + 1) (slots + N) Q (F0 m (pc + 2) ls (.ref q :: rest))) : W p l e R s m args below meth c H locs cells slots Q (F0 m pc ls (.int (iI n) :: rest)) := by
  refine va_newa S.1 S.2.1 (S.2.2.2.2 _ harr) hty C.1.1 hG.1 hG.2.1 hG.2.2 C.2.1 ha (by show ¬ iI n < iI 0; rw [iI_lt (by omega) (by omega)]; omega) (iI_cl hn (by omega)) hbytes hcells hslots hd (fun q cA H1 hK' a b d => ?_)
  have e := tyK_same k hK' hk
  subst e
  exact kk q H1 ⟨by rw [← hs]; exact a, by rw [← hs]; exact b, d⟩
theorem g_newq (S : CallFix p m c cc nL s args Ts own) (C : gC K A H0 s) (hG : gW K A H0 gs H locs) {index : Nat} (hcl : Cond.classLink own index "RayLayers$Scene" ∈ Ts) {n : Int} (N : Nat) (hn : n = (N : Int)) (hN : N ≤ 100000) (hcells : cells + 1 ≤ R.cells) (hslots : slots + N ≤ R.slots) (hs : ∀ q, gs.flatten ++ [aQ K 5 q N (fun _ => none)] = (gs' q).flatten) (hd : decode cc pc = .ok (.anewarray index, 3))
    (kk : ∀ (q : Nat) (H1 : Heap), gW K A H0 (gs' q) H1 locs → W p l e R s m args below meth c H1 locs (cells + 1) (slots + N) Q (F0 m (pc + 3) ls (.ref q :: rest))) : W p l e R s m args below meth c H locs cells slots Q (F0 m pc ls (.int (iI n) :: rest)) := by
  refine va_newq S.1 S.2.1 S.2.2.2.1 (S.2.2.2.2 _ hcl) C.1.2.2.2.2.2.1 C.1.1 hG.1 hG.2.1 hG.2.2 C.2.1 (by show ¬ iI n < iI 0; rw [iI_lt (by omega) (by omega)]; omega) (iI_cl hn (by omega)) (by omega) hcells hslots hd (fun q cA H1 hK' a b d => ?_)
  have e := tyK_same 5 hK' rfl
  subst e
  exact kk q H1 ⟨by rw [← hs]; exact a, by rw [← hs]; exact b, d⟩
theorem g_aald5 (S : CallFix p m c cc nL s args Ts own) (C : gC K A H0 s) (hG : gW K A H0 gs H locs) (q0 : Nat) {a n : Nat} {F : Nat → Option Nat} (he : gs.flatten[q0]? = some (aQ K 5 a n F)) {z : Int} (h0 : 0 ≤ z) (h1 : z < (n : Int)) (hn : n ≤ 2147483647) (hd : decode cc pc = .ok (.aaload, 1)) (kk : W p l e R s m args below meth c H locs cells slots Q (F0 m (pc + 1) ls (va_rf (F z.toNat) :: rest))) : W p l e R s m args below meth c H locs cells slots Q (F0 m pc ls (.int (iI z) :: .ref a :: rest)) := by
  have hz : z = (z.toNat : Int) := (Int.toNat_of_nonneg h0).symm
  have e9 : (iI z).toNatClampNeg = z.toNat := iI_cl hz (by omega)
  refine va_aldq S.1 S.2.1 C.1.1 hG.1 q0 5 he rfl (iI_in hz (by omega) hn) hd ?_
  rw [e9]
  exact kk
theorem g_aast5 {gs1 : List va_W} (S : CallFix p m c cc nL s args Ts own) (C : gC K A H0 s) (hG : gW K A H0 gs H locs) (q0 qk : Nat) {a n v : Nat} {vs : List Value} {F : Nat → Option Nat} (he : gs.flatten[q0]? = some (aQ K 5 a n F)) (hv : gs.flatten[qk]? = some (v, .inr (5, vs))) {z : Int} (h0 : 0 ≤ z) (h1 : z < (n : Int)) (hn : n ≤ 2147483647) (hs : gs.flatten.set q0 (aQ K 5 a n (va_up F z.toNat (some v))) = gs1.flatten) (hd : decode cc pc = .ok (.aastore, 1))
    (kk : ∀ (H1 : Heap) (locs1 : List Loc), gW K A H0 gs1 H1 locs1 → W p l e R s m args below meth c H1 locs1 cells slots Q (F0 m (pc + 1) ls rest)) : W p l e R s m args below meth c H locs cells slots Q (F0 m pc ls (.ref v :: .int (iI z) :: .ref a :: rest)) := by
  have hz : z = (z.toNat : Int) := (Int.toNat_of_nonneg h0).symm
  have e9 : (iI z).toNatClampNeg = z.toNat := iI_cl hz (by omega)
  refine va_astq S.1 S.2.1 C.1.1 hG.1 hG.2.1 hG.2.2 q0 5 qk 5 he rfl hv rfl (iI_in hz (by omega) hn) hd (fun H1 locs1 x y d => ?_)
  rw [e9] at x y
  exact kk H1 locs1 ⟨by rw [← hs]; exact x, by rw [← hs]; exact y, d⟩
end GNEW
theorem ha_i (N : Nat) : ∀ cA : ClassId, vp_cell cA (N, .inl (fun j : Nat => iI ((fun _ : Int => 0) (j : Int)))) = arrV cA N (fun _ => defaultValue .int) := fun _ => rfl
theorem ha_b (N : Nat) : ∀ cA : ClassId, vp_cell cA (N, .inl (fun j : Nat => bB ((fun _ : Int => 0) (j : Int)))) = arrV cA N (fun _ => defaultValue .byte) := fun _ => rfl
