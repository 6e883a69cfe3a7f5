/-! ===== rows of the law and of its methods that catch ===== -/
theorem mH.met {l : Launch} {y : MethodName} {ws : List Cond} {f lo : Nat} {K : KC} {av : List Value} {gs : List va_W} {S : Type} {post : Value → S → Prop} {Wn : S → List va_W} {mc ms : Nat} (h : mH l y ws f lo K av gs post Wn mc ms) : mG l y ws f lo K av gs post Wn mc ms := by
  intro sz
  refine MetFree.mono (h sz) (fun a s hP => hP) (fun _ _ _ _ _ hk => hk) (fun a s o t hP hQ => ?_)
  rcases hQ with hQ | ⟨q, -, E, ce, L, hX, -⟩
  · exact hQ
  · exact hX.elim
theorem tab_split {f : ExceptionTableEntry → Nat × Nat × Nat × Nat} : ∀ {es : List ExceptionTableEntry} {pre' suf' : List (Nat × Nat × Nat × Nat)} {t : Nat × Nat × Nat × Nat}, es.map f = pre' ++ t :: suf' → ∃ pre x suf, es = pre ++ x :: suf ∧ pre.map f = pre' ∧ f x = t
  | [], [], suf', t, h => by simp at h
  | [], _ :: _, suf', t, h => by simp at h
  | e :: es, [], suf', t, h => by
    simp only [List.map_cons, List.nil_append, List.cons.injEq] at h
    exact ⟨[], e, es, rfl, rfl, h.1⟩
  | e :: es, p :: pre', suf', t, h => by
    simp only [List.map_cons, List.cons_append, List.cons.injEq] at h
    obtain ⟨pre, x, suf, h1, h2, h3⟩ := tab_split h.2
    exact ⟨e :: pre, x, suf, by rw [h1]; rfl, by rw [List.map_cons, h2, h.1], h3⟩
section GLAW
variable {p : Program} {l : Launch} {e : Env} {R : Room} {s : State} {m : MethodId} {args : Array Value} {below : List Frame} {meth : Method} {c : Code} {H : Heap} {locs : List Loc} {cells slots : Nat} {Q : State → Prop}
variable {cc bytes : ByteArray} {pc nL maxL index n mc ms f lo b : Nat} {ls : Array Slot} {rest st0 : List Value} {Ts wsY : List Cond} {own E : String} {K : KC} {A A0 : Nat → Prop} {H0 : Heap} {gs gs' gc : List va_W} {y : MethodName} {ret : Option FieldType} {As : List Value} {a : Nat}
theorem g_iretH (S : CallFix p m c cc nL s args Ts own) {T : Type} {post : Value → T → Prop} {Wn : T → List va_W} (hr : meth.sig.returnType = some .int) (hlk : meth.locks = false) (hQ : Q = vx_MQ below (gQ post (fun u => gAt K A (Wn u)) A) (fun _ _ _ => False) args s mc ms A) {x : Int32} (hd : decode cc pc = .ok (.ireturn, 1)) (h1 : cells ≤ mc) (h2 : slots ≤ ms) (u : T) (hp : post (.int x) u) (hG : gW K A s.heap (Wn u) H locs) : W p l e R s m args below meth c H locs cells slots Q (F0 m pc ls [.int x]) := by
  subst hQ
  exact vx_ret (g_iret S hr hlk rfl hd h1 h2 u hp hG)
theorem g_catch (S : CallFix p m c cc nL s args Ts own) (C : gC K A0 H0 s) {q : Addr} {ce : Cell} (pre' : List (Nat × Nat × Nat × Nat)) {suf' : List (Nat × Nat × Nat × Nat)} {st en hpc ct : Nat} (htab : c.exceptionTable.toList.map (fun h => (h.startPc, h.endPc, h.handlerPc, h.catchType)) = pre' ++ (st, en, hpc, ct) :: suf') (hE : E ∈ exC) (hpre : ∀ t ∈ pre', t.2.2.2 ≠ 0 ∧ ∃ nm ∈ exT, E ≠ nm ∧ Cond.classLink own t.2.2.2 nm ∈ Ts) (hin : st ≤ pc ∧ pc < en) (hct : ct ≠ 0) (hl : Cond.classLink own ct E ∈ Ts) (hcell : H[q]? = some ce) (hv : ce.vm = .none) (hcl : s.vm.findClass E = some ce.cls)
    (kk : W p l e R s m args below meth c H locs cells slots Q (F0 m hpc ls [.ref q])) : vx_W p l e R s m args below meth c H locs cells slots Q (F0 m pc ls rest) q := by
  obtain ⟨pre, x, suf, h1, h2, h3⟩ := tab_split htab
  have e1 : x.startPc = st := congrArg (·.1) h3
  have e2 : x.endPc = en := congrArg (·.2.1) h3
  have e3 : x.handlerPc = hpc := congrArg (·.2.2.1) h3
  have e4 : x.catchType = ct := congrArg (·.2.2.2) h3
  have hcst := C.1.2.2.2.1.2.2
  refine vx_catch (name := E) (E := E) S.2.2.2.1 pre x suf h1 (fun z hz => ?_) ?_ (by rw [e4]; exact hct) (by rw [e4]; exact S.2.2.2.2 _ hl) (va_Nw.use rfl (hcst.1 E hE)) hcell hv hcl (by rw [e3]; exact kk)
  · have hm : (z.startPc, z.endPc, z.handlerPc, z.catchType) ∈ pre' := by
      rw [← h2]
      exact List.mem_map_of_mem hz
    obtain ⟨a1, nm, a2, a3, a4⟩ := hpre _ hm
    exact Or.inr ⟨a1, nm, S.2.2.2.2 _ a4, hcst.2.1 E hE nm a2 a3⟩
  · unfold covers
    rw [e1, e2, Bool.and_eq_true, decide_eq_true_eq, decide_eq_true_eq]
    exact hin
theorem g_invSH (S : CallFix p m c cc nL s args Ts own) (C : gC K A0 H0 s) (hG : gW K A0 H0 gs H locs) {T : Type} {post : Value → T → Prop} {Wn gs' : T → List va_W} {hh : List (Nat × Nat × Nat × Nat)} (is : List Nat) (hM : mH l y wsY f lo K As gc post Wn mc ms) (hC : is.map (fun i => gs[i]?) = gc.map some) (hn : va_nd is = true) (cw : vx_CSW R s args own index y bytes maxL ret hh wsY { frames := f, cells := mc, slots := ms, locals := lo } mc ms n) (hlen : As.length = n) (hsz : ls.size = nL) (hst : st0 = As.reverse ++ rest) (hrm : (rest.map fun v => v.category).sum ≤ 8) (hd : decode cc pc = .ok (.invokestatic index, 3)) (hf : cells + mc ≤ R.cells ∧ slots + ms ≤ R.slots) (hl : ∀ u, is.length ≤ (Wn u).length) (hg : ∀ u, gback gs is (Wn u) = gs' u)
    (kk : ∀ (v : Value) (u : T) (H1 : Heap) (locs1 : List Loc), post v u → gW K A0 H0 (gs' u) H1 locs1 → W p l e R s m args below meth c H1 locs1 (cells + mc) (slots + ms) Q (F0 m (pc + 3) ls (v :: rest))) : W p l e R s m args below meth c H locs cells slots Q (F0 m pc ls st0) :=
  g_backg C hG hC hn (vx_runSW S (hM.met H.size) cw ⟨gPre_blind, fun U hU hW => ⟨rfl, gPre_of C hG hC hn hU hW⟩⟩ rfl hlen hsz hst (lv_room hrm) hd hf) hl hg kk
end GLAW
