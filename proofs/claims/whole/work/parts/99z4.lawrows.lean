/-! ===== rows of the law and of its methods that catch ===== -/
def gArrL (K : KC) (n b : Nat) (F : Int → Int) : va_W := [aL K b n F]
abbrev aD (K : KC) (a n : Nat) (F : Nat → UInt64) : Nat × va_E := (a, .inl (K.2.1 4, n, .inr (.inr (.inr (.inl F)))))
def gArrD (K : KC) (n b : Nat) (F : Nat → UInt64) : va_W := [aD K b n F]
theorem mH.met {l : Launch} {y : MethodName} {ws : List Cond} {f lo : Nat} {K : KC} {av : List Value} {gs : List va_W} {S : Type} {post : Value → S → Prop} {Wn : S → List va_W} {mc ms : Nat} (h : mH l y ws f lo K av gs post Wn mc ms) : mG l y ws f lo K av gs post Wn mc ms := by
  intro sz
  refine MetFree.mono (h sz) (fun a s hP => hP) (fun _ _ _ _ _ hk => hk) (fun a s o t hP hQ => ?_)
  rcases hQ with hQ | ⟨q, -, E, ce, L, hX, -⟩
  · exact hQ
  · exact hX.elim
theorem tab_split {f : ExceptionTableEntry → Nat × Nat × Nat × Nat} : ∀ {es : List ExceptionTableEntry} {pre' suf' : List (Nat × Nat × Nat × Nat)} {t : Nat × Nat × Nat × Nat}, es.map f = pre' ++ t :: suf' → ∃ pre x suf, es = pre ++ x :: suf ∧ pre.map f = pre' ∧ f x = t
  | [], [], suf', t, h => by simp at h
  | [], _ :: _, suf', t, h => by simp at h
  | e :: es, [], suf', t, h => by
    simp only [List.map_cons, List.nil_append, List.cons.injEq] at h
    exact ⟨[], e, es, rfl, rfl, h.1⟩
  | e :: es, p :: pre', suf', t, h => by
    simp only [List.map_cons, List.cons_append, List.cons.injEq] at h
    obtain ⟨pre, x, suf, h1, h2, h3⟩ := tab_split h.2
    exact ⟨e :: pre, x, suf, by rw [h1]; rfl, by rw [List.map_cons, h2, h.1], h3⟩
section GLAW
variable {p : Program} {l : Launch} {e : Env} {R : Room} {s : State} {m : MethodId} {args : Array Value} {below : List Frame} {meth : Method} {c : Code} {H : Heap} {locs : List Loc} {cells slots : Nat} {Q : State → Prop}
variable {cc bytes : ByteArray} {pc nL maxL index n mc ms f lo b : Nat} {ls : Array Slot} {rest st0 : List Value} {Ts wsY : List Cond} {own E : String} {K : KC} {A A0 : Nat → Prop} {H0 : Heap} {gs gs' gc : List va_W} {y : MethodName} {ret : Option FieldType} {As : List Value} {a : Nat}
theorem g_iretH (S : CallFix p m c cc nL s args Ts own) {T : Type} {post : Value → T → Prop} {Wn : T → List va_W} (hr : meth.sig.returnType = some .int) (hlk : meth.locks = false) (hQ : Q = vx_MQ below (gQ post (fun u => gAt K A (Wn u)) A) (fun _ _ _ => False) args s mc ms A) {x : Int32} (hd : decode cc pc = .ok (.ireturn, 1)) (h1 : cells ≤ mc) (h2 : slots ≤ ms) (u : T) (hp : post (.int x) u) (hG : gW K A s.heap (Wn u) H locs) : W p l e R s m args below meth c H locs cells slots Q (F0 m pc ls [.int x]) := by
  subst hQ
  exact vx_ret (g_iret S hr hlk rfl hd h1 h2 u hp hG)
theorem g_catch (S : CallFix p m c cc nL s args Ts own) (C : gC K A0 H0 s) {q : Addr} {ce : Cell} (pre' : List (Nat × Nat × Nat × Nat)) {suf' : List (Nat × Nat × Nat × Nat)} {st en hpc ct : Nat} (htab : c.exceptionTable.toList.map (fun h => (h.startPc, h.endPc, h.handlerPc, h.catchType)) = pre' ++ (st, en, hpc, ct) :: suf') (hE : E ∈ exC) (hpre : ∀ t ∈ pre', t.2.2.2 ≠ 0 ∧ ∃ nm ∈ exC, E ≠ nm ∧ Cond.classLink own t.2.2.2 nm ∈ Ts) (hin : st ≤ pc ∧ pc < en) (hct : ct ≠ 0) (hl : Cond.classLink own ct E ∈ Ts) (hcell : H[q]? = some ce) (hv : ce.vm = .none) (hcl : s.vm.findClass E = some ce.cls)
    (kk : W p l e R s m args below meth c H locs cells slots Q (F0 m hpc ls [.ref q])) : vx_W p l e R s m args below meth c H locs cells slots Q (F0 m pc ls rest) q := by
  obtain ⟨pre, x, suf, h1, h2, h3⟩ := tab_split htab
  have e1 : x.startPc = st := congrArg (·.1) h3
  have e2 : x.endPc = en := congrArg (·.2.1) h3
  have e3 : x.handlerPc = hpc := congrArg (·.2.2.1) h3
  have e4 : x.catchType = ct := congrArg (·.2.2.2) h3
  have hcst := C.1.2.2.2.1.2.2
  refine vx_catch (name := E) (E := E) S.2.2.2.1 pre x suf h1 (fun z hz => ?_) ?_ (by rw [e4]; exact hct) (by rw [e4]; exact S.2.2.2.2 _ hl) (va_Nw.use rfl (hcst.1 E hE)) hcell hv hcl (by rw [e3]; exact kk)
  · have hm : (z.startPc, z.endPc, z.handlerPc, z.catchType) ∈ pre' := by
      rw [← h2]
      exact List.mem_map_of_mem hz
    obtain ⟨a1, nm, a2, a3, a4⟩ := hpre _ hm
    exact Or.inr ⟨a1, nm, S.2.2.2.2 _ a4, hcst.2.1 E hE nm a2 a3⟩
  · unfold covers
    rw [e1, e2, Bool.and_eq_true, decide_eq_true_eq, decide_eq_true_eq]
    exact hin
theorem g_invSH (S : CallFix p m c cc nL s args Ts own) (C : gC K A0 H0 s) (hG : gW K A0 H0 gs H locs) {T : Type} {post : Value → T → Prop} {Wn gs' : T → List va_W} {hh : List (Nat × Nat × Nat × Nat)} (is : List Nat) (hM : mH l y wsY f lo K As gc post Wn mc ms) (hC : is.map (fun i => gs[i]?) = gc.map some) (hn : va_nd is = true) (cw : vx_CSW R s args own index y bytes maxL ret hh wsY { frames := f, cells := mc, slots := ms, locals := lo } mc ms n) (hlen : As.length = n) (hsz : ls.size = nL) (hst : st0 = As.reverse ++ rest) (hrm : (rest.map fun v => v.category).sum ≤ 8) (hd : decode cc pc = .ok (.invokestatic index, 3)) (hf : cells + mc ≤ R.cells ∧ slots + ms ≤ R.slots) (hl : ∀ u, is.length ≤ (Wn u).length) (hg : ∀ u, gback gs is (Wn u) = gs' u)
    (kk : ∀ (v : Value) (u : T) (H1 : Heap) (locs1 : List Loc), post v u → gW K A0 H0 (gs' u) H1 locs1 → W p l e R s m args below meth c H1 locs1 (cells + mc) (slots + ms) Q (F0 m (pc + 3) ls (v :: rest))) : W p l e R s m args below meth c H locs cells slots Q (F0 m pc ls st0) :=
  g_backg C hG hC hn (vx_runSW S (hM.met H.size) cw ⟨gPre_blind, fun U hU hW => ⟨rfl, gPre_of C hG hC hn hU hW⟩⟩ rfl hlen hsz hst (lv_room hrm) hd hf) hl hg kk
theorem toInt_bd (x : Int32) : -2147483648 ≤ x.toInt ∧ x.toInt < 2147483648 := ⟨Int32.le_toInt x, Int32.toInt_lt x⟩
theorem iI_ofI (x : Int32) : iI x.toInt = x := Int32.ofInt_toInt x
theorem g_i2lr (S : CallFix p m c cc nL s args Ts own) {z : Int} (hd : decode cc pc = .ok (.i2l, 1)) (k : W p l e R s m args below meth c H locs cells slots Q (F0 m (pc + 1) ls (.long (iL (iI z).toInt) :: rest))) : W p l e R s m args below meth c H locs cells slots Q (F0 m pc ls (.int (iI z) :: rest)) := by
  refine lv_i2l S.1 S.2.1 hd ?_ k
  have h := iI_l (toInt_bd (iI z))
  rw [iI_ofI] at h
  exact h
theorem g_lcmpE (S : CallFix p m c cc nL s args Ts own) {x z : Int} (hd : decode cc pc = .ok (.lcmp, 1)) (h : x = z) (k : W p l e R s m args below meth c H locs cells slots Q (F0 m (pc + 1) ls (.int (iI 0) :: rest))) : W p l e R s m args below meth c H locs cells slots Q (F0 m pc ls (.long (iL z) :: .long (iL x) :: rest)) := by
  subst h
  refine W.lcmp S.1 S.2.1 hd ?_
  rw [show lg_cmp (iL x) (iL x) = iI 0 by simp [lg_cmp]; rfl]
  exact k
/-- 'x != 0' as a number -/
theorem g_neb (S : CallFix p m c cc nL s args Ts own) {z : Int} (hz : -2147483648 ≤ z ∧ z < 2147483648) (d0 : decode cc pc = .ok (.ifCond .eq 7, 3)) (d3 : decode cc (pc + 3) = .ok (.iconst 1, 1)) (d4 : decode cc (pc + 4) = .ok (.goto 4, 3)) (d7 : decode cc (pc + 7) = .ok (.iconst 0, 1)) (k : W p l e R s m args below meth c H locs cells slots Q (F0 m (pc + 8) ls (.int (iI (bI (¬ z = 0))) :: rest))) : W p l e R s m args below meth c H locs cells slots Q (F0 m pc ls (.int (iI z) :: rest)) := by
  refine g_if_eq (tgt := pc + 7) S d0 (by omega) hz (fun h => ?_) (fun h => ?_)
  · refine g_iconst S d7 ?_
    rw [bI_f (by omega : ¬ ¬ z = 0)] at k
    exact k
  · refine g_iconst S d3 ?_
    refine lv_goto (tgt := pc + 8) S.1 S.2.1 d4 (by omega) ?_
    rw [bI_t h] at k
    exact k
/-- the script's k-th number of this act -/
def SL (L : Nat) (xs : Nat → Int32) (i k : Nat) (z : Int) : Prop := i + k < L ∧ L ≤ 3072 ∧ xs (i + k) = iI z
theorem g_sld (S : CallFix p m c cc nL s args Ts own) (hG : gW K A s.heap gs H locs) {L i k : Nat} {xs : Nat → Int32} {z kz : Int} (hX : va_X b L xs s s.heap) (hbl : b < s.heap.size) (hbA : ¬ A b) (hx : SL L xs i k z) (hk : kz = (k : Int)) (hd : decode cc pc = .ok (.iaload, 1)) (kk : W p l e R s m args below meth c H locs cells slots Q (F0 m (pc + 1) ls (.int (iI z) :: rest))) : W p l e R s m args below meth c H locs cells slots Q (F0 m pc ls (.int (iI ((i : Int) + kz)) :: .ref b :: rest)) := by
  subst hk
  obtain ⟨h1, h2, h3⟩ := hx
  have e9 : iI ((i : Int) + (k : Int)) = iI (((i + k : Nat)) : Int) := by congr 1
  rw [e9]
  refine va_sld S.1 S.2.1 hX hbl hbA hG.2.2 (iI_in (k := i + k) rfl h1 (by omega)) hd ?_
  rw [iI_cl (k := i + k) rfl (by omega), h3]
  exact kk
theorem g_slen (S : CallFix p m c cc nL s args Ts own) (hG : gW K A s.heap gs H locs) {L : Nat} {xs : Nat → Int32} (hX : va_X b L xs s s.heap) (hbl : b < s.heap.size) (hbA : ¬ A b) (hd : decode cc pc = .ok (.arraylength, 1)) (kk : W p l e R s m args below meth c H locs cells slots Q (F0 m (pc + 1) ls (.int (iI (L : Int)) :: rest))) : W p l e R s m args below meth c H locs cells slots Q (F0 m pc ls (.ref b :: rest)) := by
  refine va_slen S.1 S.2.1 hX hbl hbA hG.2.2 hd ?_
  rw [nI_iI]
  exact kk
theorem g_dast0 (S : CallFix p m c cc nL s args Ts own) (C : gC K A H0 s) (hG : gW K A H0 gs H locs) (q0 : Nat) {n : Nat} {F : Nat → UInt64} {x : UInt64} (he : gs.flatten[q0]? = some (aD K a n F)) (h1 : 0 < n) (hn : n ≤ 2147483647) (hs : gs.flatten.set q0 (aD K a n (vf_upd F 0 x)) = gs'.flatten) (hd : decode cc pc = .ok (.dastore, 1)) (kk : ∀ (H1 : Heap) (locs1 : List Loc), gW K A H0 gs' H1 locs1 → W p l e R s m args below meth c H1 locs1 cells slots Q (F0 m (pc + 1) ls rest)) : W p l e R s m args below meth c H locs cells slots Q (F0 m pc ls (.double x :: .int (iI 0) :: .ref a :: rest)) := by
  refine va_dast S.1 S.2.1 C.1.1 hG.1 hG.2.1 hG.2.2 q0 4 he rfl (iI_in (k := 0) rfl (by omega) hn) hd (fun H1 locs1 a b d => kk H1 locs1 ?_)
  rw [show (iI 0).toNatClampNeg = 0 from rfl] at a b
  exact ⟨by rw [← hs]; exact a, by rw [← hs]; exact b, d⟩
theorem g_dald0 (S : CallFix p m c cc nL s args Ts own) (C : gC K A H0 s) (hG : gW K A H0 gs H locs) (q0 : Nat) {n : Nat} {F : Nat → UInt64} (he : gs.flatten[q0]? = some (aD K a n F)) (h1 : 0 < n) (hn : n ≤ 2147483647) (hd : decode cc pc = .ok (.daload, 1)) (kk : W p l e R s m args below meth c H locs cells slots Q (F0 m (pc + 1) ls (.double (F 0) :: rest))) : W p l e R s m args below meth c H locs cells slots Q (F0 m pc ls (.int (iI 0) :: .ref a :: rest)) := by
  refine va_dald S.1 S.2.1 C.1.1 hG.1 q0 4 he rfl (iI_in (k := 0) rfl (by omega) hn) hd ?_
  rw [show (iI 0).toNatClampNeg = 0 from rfl]
  exact kk
theorem g_icmpE (S : CallFix p m c cc nL s args Ts own) {x y : Int32} {off : Int} {tgt : Nat} (hd : decode cc pc = .ok (.if_icmp .eq off, 3)) (ht : (pc : Int) + off = (tgt : Int)) (h : x = y) (k : W p l e R s m args below meth c H locs cells slots Q (F0 m tgt ls rest)) : W p l e R s m args below meth c H locs cells slots Q (F0 m pc ls (.int y :: .int x :: rest)) :=
  lv_icmp_eq (tgt := tgt) S.1 S.2.1 hd ht (fun _ => k) (fun q => absurd h q)
theorem g_dcmpE (S : CallFix p m c cc nL s args Ts own) {x y : UInt64} (hd : decode cc pc = .ok (.dcmp .l, 1)) (h : x = y) (hn : FP.Core.dIsNaN x = false) (k : W p l e R s m args below meth c H locs cells slots Q (F0 m (pc + 1) ls (.int (iI 0) :: rest))) : W p l e R s m args below meth c H locs cells slots Q (F0 m pc ls (.double y :: .double x :: rest)) := by
  subst h
  refine lv_dcmp S.1 S.2.1 hd ?_
  have e9 : FP.dcmp x x = some .eq := FP.Core.dcmp_self (fun q => by
    unfold FP.Core.dIsNaN FP.Core.isNaN at hn
    exact absurd q (of_decide_eq_false hn))
  rw [e9]
  exact k
end GLAW
theorem lw_rm {c0 s0 mc ms : Nat} (h : c0 + 6 ≤ 601024 ∧ s0 + 135 ≤ 7293034) (h1 : mc ≤ 6) (h2 : ms ≤ 135) : c0 + mc ≤ room_1.cells ∧ s0 + ms ≤ room_1.slots := ⟨Nat.le_trans (Nat.add_le_add_left h1 _) h.1, Nat.le_trans (Nat.add_le_add_left h2 _) h.2⟩
theorem lw_eq {OB : Int → Int} {a b : Int} (h : a = b) : upI OB 0 (iI a).toInt 0 = (iI b).toInt := by rw [upI_s, h]
theorem vf_upd_s {α : Type} (f : Nat → α) (x : α) : vf_upd f 0 x 0 = x := if_pos rfl
