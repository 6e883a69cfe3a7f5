/-! ===== methods that catch: their contract ===== -/
def mH (l : Launch) (y : MethodName) (ws : List Cond) (f lo : Nat) (K : KC) (av : List Value) (gs : List va_W) {S : Type} (post : Value → S → Prop) (Wn : S → List va_W) (mc ms : Nat) : Prop :=
  ∀ sz : Nat, vx_Met l y ws { frames := f, cells := mc, slots := ms, locals := lo } (va_Pc av (gPre K gs sz)) (gQ post (fun u => gAt K (va_A gs.flatten sz) (Wn u)) (va_A gs.flatten sz)) (fun _ _ _ => False) mc ms (va_A gs.flatten sz)
theorem mH_of {l : Launch} {y : MethodName} {ws ws' : List Cond} {f lo : Nat} {K : KC} {av : List Value} {gs : List va_W} {S : Type} {post : Value → S → Prop} {Wn : S → List va_W} {mc ms : Nat} (cc : ByteArray) (maxL : Nat) {ret : Option FieldType} {hh : List (Nat × Nat × Nat × Nat)} (hy : plainName y.cls = true) (hw : ws = Cond.codeWith y cc maxL ret hh :: ws') (hsl : (lg_sl av).length ≤ maxL)
    (body : ∀ (p : Program) (e : Env) (s : State) (m : MethodId) (below : List Frame) (meth : Method) (c : Code) (A : Nat → Prop) (ls : Array Slot) (Q : State → Prop), CallFix p m c cc maxL s av.toArray ws y.cls → gC K A s.heap s → gW K A s.heap gs s.heap [] → lv_has ls maxL (lv_args 0 av) → meth.sig.returnType = ret → meth.locks = false → meth.name = y.name → c.exceptionTable.toList.map (fun h => (h.startPc, h.endPc, h.handlerPc, h.catchType)) = hh →
      Q = vx_MQ below (gQ post (fun u => gAt K A (Wn u)) A) (fun _ _ _ => False) av.toArray s mc ms A → W p l e { frames := f, cells := mc, slots := ms, locals := lo } s m av.toArray below meth c s.heap [] 0 0 Q (F0 m 0 ls [])) : mH l y ws f lo K av gs post Wn mc ms := by
  intro sz
  refine vx_ofWH (cc := cc) (maxL := maxL) (ret := ret) (hh := hh) hy hw ?_
  intro p e s m args below meth c s₁ B hml hv
  obtain ⟨rfl, hsz, hOK, hP, hD0, hold⟩ := hv
  have hts := atoms_spec (ws := ws) B.pre
  have hown : s.vm.findClass y.cls = some m.cls := findClass_of_methodNamed B.named
  have hin : meth.name = y.name := (name_of_methodNamed B.named B.method).1
  subst hsz
  have hA : ∀ q, va_A gs.flatten s.heap.size q → K.2.2.1.size ≤ q := by
    intro q h
    rcases h with ⟨k, e9, h⟩ | h
    · exact hD0.2 k (q, e9) h
    · exact Nat.le_trans hold.1 h
  have htab : c.exceptionTable.toList.map (fun h => (h.startPc, h.endPc, h.handlerPc, h.catchType)) = hh := by
    obtain ⟨m9, meth9, c9, a1, a2, a3, -, -, a6, -⟩ := Cond.codeWith_spec (hts _ (by rw [hw]; exact List.mem_cons_self))
    cases B.named.symm.trans a1
    cases B.method.symm.trans a2
    have hc : meth.code = some c := by
      have h := B.here.code
      have hm := B.method
      rw [B.state] at h
      have h' : (s.vm.classes[m.cls]? >>= fun k => k.methods[m.idx]? >>= fun x => x.code) = some c := h
      have hm' : (s.vm.classes[m.cls]? >>= fun k => k.methods[m.idx]?) = some meth := hm
      cases hk : s.vm.classes[m.cls]? with
      | none => rw [hk] at hm'; cases hm'
      | some k =>
        rw [hk] at h' hm'
        have hm2 : k.methods[m.idx]? = some meth := hm'
        have h2 : (k.methods[m.idx]? >>= fun x => x.code) = some c := h'
        rw [hm2] at h2
        exact h2
    cases hc.symm.trans a3
    exact a6
  have hl := lv_entry av (n := maxL) hsl
  rw [lg_entry_eq]
  exact body p e s m below meth c _ _ _ ⟨B.exec, B.bytes, hml, hown, hts⟩ ⟨hOK, fun q h => Or.inr h, hA, hold⟩ ⟨hP, hD0.self, va_S.rf⟩ hl B.returns B.notSynchronized hin htab rfl
