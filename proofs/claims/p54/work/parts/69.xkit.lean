/-! ===== methods that throw: always, where their premises say so ===== -/
/-- the contract of a method that throws E -/
def mX (l : Launch) (y : MethodName) (ws : List Cond) (f lo : Nat) (K : KC) (av : List Value) (gs : List va_W) (E : String) {S : Type} (post : S → Prop) (Wn : S → List va_W) (mc ms : Nat) : Prop :=
  ∀ sz : Nat, vx_Met l y ws { frames := f, cells := mc, slots := ms, locals := lo } (va_Pc av (gPre K gs sz)) (va_Qv (fun _ : Unit => False) (fun _ _ => True) (va_A gs.flatten sz)) (vx_X post (fun E' u t => E' = E ∧ gAt K (va_A gs.flatten sz) (Wn u) t) (va_A gs.flatten sz)) mc ms (va_A gs.flatten sz)
def gXQ (below : List Frame) (K : KC) (A : Nat → Prop) (E : String) {S : Type} (post : S → Prop) (Wn : S → List va_W) (args : Array Value) (s : State) (mc ms : Nat) : State → Prop :=
  vx_MQ below (va_Qv (fun _ : Unit => False) (fun _ _ => True) A) (vx_X post (fun E' u t => E' = E ∧ gAt K A (Wn u) t) A) args s mc ms A
theorem mX_of {l : Launch} {y : MethodName} {ws ws' : List Cond} {f lo : Nat} {K : KC} {av : List Value} {gs : List va_W} {E : String} {S : Type} {post : S → Prop} {Wn : S → List va_W} {mc ms : Nat} (cc : ByteArray) (maxL : Nat) {ret : Option FieldType} (hy : plainName y.cls = true) (hw : ws = Cond.code y cc maxL ret :: ws') (hsl : (lg_sl av).length ≤ maxL)
    (body : ∀ (p : Program) (e : Env) (s : State) (m : MethodId) (below : List Frame) (meth : Method) (c : Code) (A : Nat → Prop) (ls : Array Slot) (Q : State → Prop), CallFix p m c cc maxL s av.toArray ws y.cls → gC K A s.heap s → gW K A s.heap gs s.heap [] → lv_has ls maxL (lv_args 0 av) → (∀ x ∈ c.exceptionTable.toList, False) → meth.locks = false → meth.name = y.name →
      Q = gXQ below K A E post Wn av.toArray s mc ms → W p l e { frames := f, cells := mc, slots := ms, locals := lo } s m av.toArray below meth c s.heap [] 0 0 Q (F0 m 0 ls [])) : mX l y ws f lo K av gs E post Wn mc ms := by
  intro sz
  refine vx_ofW (cc := cc) (maxL := maxL) (ret := ret) hy hw ?_
  intro p e s m args below meth c s₁ B hml htb hv
  obtain ⟨rfl, hsz, hOK, hP, hD0, hold⟩ := hv
  have hts := atoms_spec (ws := ws) B.pre
  have hown : s.vm.findClass y.cls = some m.cls := findClass_of_methodNamed B.named
  have hin : meth.name = y.name := (name_of_methodNamed B.named B.method).1
  subst hsz
  have hA : ∀ q, va_A gs.flatten s.heap.size q → K.2.2.1.size ≤ q := by
    intro q h
    rcases h with ⟨k, e9, h⟩ | h
    · exact hD0.2 k (q, e9) h
    · exact Nat.le_trans hold.1 h
  have hl := lv_entry av (n := maxL) hsl
  rw [lg_entry_eq]
  exact body p e s m below meth c _ _ _ ⟨B.exec, B.bytes, hml, hown, hts⟩ ⟨hOK, fun q h => Or.inr h, hA, hold⟩ ⟨hP, hD0.self, va_S.rf⟩ hl htb B.notSynchronized hin rfl
def thNs : List String := ["java/lang/RuntimeException", "java/lang/Exception"]
section GTHR
variable {p : Program} {l : Launch} {e : Env} {R : Room} {s : State} {m : MethodId} {args : Array Value} {below : List Frame} {meth : Method} {c : Code} {H : Heap} {locs : List Loc} {cells slots : Nat} {Q : State → Prop}
variable {cc : ByteArray} {pc nL : Nat} {ls : Array Slot} {rest st0 : List Value} {Ts : List Cond} {own : String} {K : KC} {A : Nat → Prop} {mc ms : Nat} {E : String}
/-- it leaves this method too -/
theorem g_xout {T : Type} {post : T → Prop} {Wn : T → List va_W} (hQ : Q = gXQ below K A E post Wn args s mc ms) (hex : ∀ x ∈ c.exceptionTable.toList, False) (hlk : meth.locks = false) {q : Addr} {ce : Cell} (hcell : H[q]? = some ce) (hv : ce.vm = .none) (hcl : s.vm.findClass E = some ce.cls) (h1 : cells ≤ mc) (h2 : slots ≤ ms) (u : T) (hp : post u) (hG : gW K A s.heap (Wn u) H locs) :
    vx_W p l e R s m args below meth c H locs cells slots Q (F0 m pc ls rest) q := by
  subst hQ
  exact vx_out (fun x hx => (hex x hx).elim) hlk hcell hv hcl (fun t ht _ => ⟨u, hp, ⟨rfl, gAt_of ht hG.1 hG.2.1⟩, hG.2.2.F ht⟩) hG.2.2.2.2 h1 h2
/-- 'throw new E("text")' in such a method -/
theorem g_thrW (S : CallFix p m c cc nL s args Ts own) (C : gC K A s.heap s) {T : Type} {post : T → Prop} {Wn : T → List va_W} (hls : ls.size = nL) (hst : l.stackTraces = false) (hQ : Q = gXQ below K A E post Wn args s mc ms) (hex : ∀ x ∈ c.exceptionTable.toList, False) (hlk : meth.locks = false) {text : String} {ik is ic si : Nat} (hE : E ∈ exC) (hfit : Bundle.fit E = true)
    (hk : Cond.classLink own ik E ∈ Ts) (hi : Cond.initialized E ∈ Ts) (hstr : (own, is, text, si) ∈ strW) (hat : ∀ w ∈ (vx_atS own ic E thNs).filter goodWord, w ∈ Ts) (hng : ∀ w ∈ (vx_atS own ic E thNs).filter (fun w => !goodWord w), w ∈ [Cond.castable E E, Cond.declares (Bundle.initS "java/lang/RuntimeException"), Cond.declares (Bundle.initS "java/lang/Exception"), Cond.declares (Bundle.initS Bundle.tN)]) (hgood : ∀ w ∈ Cond.classLink own ik E :: Cond.initialized E :: vx_atS own ic E thNs, vx_ot w = true)
    (d0 : decode cc pc = .ok (.new ik, 3)) (d3 : decode cc (pc + 3) = .ok (.dup, 1)) (d4 : decode cc (pc + 4) = .ok (.ldc_w is, 3)) (d7 : decode cc (pc + 7) = .ok (.invokespecial ic, 3)) (d10 : decode cc (pc + 10) = .ok (.athrow, 1))
    (hR : 5 < R.frames ∧ (rest.map fun v => v.category).sum + 82 ≤ R.locals ∧ cells + 1 ≤ R.cells ∧ slots + 6 ≤ R.slots) (h1 : cells + 1 ≤ mc) (h2 : slots + 6 ≤ ms) (u : T) (hp : post u) (hG : gW K A s.heap (Wn u) H locs) : W p l e R s m args below meth c H locs cells slots Q (F0 m pc ls rest) := by
  subst hQ
  refine vx_throwSW (names := thNs) (A := A) S.1 S.2.1 hst S.2.2.2.1 hfit (by decide +kernel) (S.2.2.2.2 _ hk) (S.2.2.2.2 _ hi) (C.1.2.2.1 _ hstr) (vx_hat (fun w hw => S.2.2.2.2 _ (hat w hw)) hng (vx_c (va_Nw.use rfl (C.1.2.2.2.1.2.2.1 E hE)) (vx_c (va_Nw.use rfl (C.1.2.2.2.1.2.2.2.2 _ (List.mem_of_getElem? (l := dclW) (i := 0) rfl))) (vx_c (va_Nw.use rfl (C.1.2.2.2.1.2.2.2.2 _ (List.mem_of_getElem? (l := dclW) (i := 1) rfl))) (vx_c (va_Nw.use rfl (C.1.2.2.2.1.2.2.2.2 _ (List.mem_of_getElem? (l := dclW) (i := 2) rfl))) vx_n))))) hgood ?_ ?_ hG.2.2 (hls.trans S.2.2.1.symm) d0 d3 d4 d7 d10 (fun x hx => (hex x hx).elim) hR.1 hR.2.1 hR.2.2.1 hR.2.2.2 hlk ?_ hG.2.2.2.2 h1 h2
  · exact (C.1.2.2.2.1.1.kept (fun a ha _ => C.2.2.2.2 a ha)).narrow (fun q hq => C.2.2.1 q hq)
  · exact (C.1.2.2.2.1.2.1.kept (fun a ha _ => C.2.2.2.2 a ha)).narrow (fun q hq => C.2.2.1 q hq)
  · intro t _ hz hk9
    have hlt : ∀ (k : Nat) (q : Nat × va_E), (Wn u).flatten[k]? = some q → q.1 < H.size := fun k q hq => (hG.1 k q hq).lt
    have hP : va_P K.1 vwCl (Wn u).flatten t.heap := hG.1.kept (fun k q hq => hk9 q.1 (hlt k q hq))
    exact ⟨u, hp, ⟨rfl, hP, hG.2.1⟩, ⟨Nat.le_trans hG.2.2.1 hz, fun q a1 a2 => (hk9 q (Nat.lt_of_lt_of_le a1 hG.2.2.1)).trans (hG.2.2.2.1 q a1 a2)⟩⟩
end GTHR
section GXCALL
variable {p : Program} {l : Launch} {e : Env} {R : Room} {s : State} {m : MethodId} {args : Array Value} {below : List Frame} {meth : Method} {c : Code} {H : Heap} {locs : List Loc} {cells slots : Nat} {Q : State → Prop}
variable {cc bytes : ByteArray} {pc nL maxL index n mc ms f lo b : Nat} {ls : Array Slot} {rest st0 : List Value} {Ts wsY : List Cond} {own E : String} {K : KC} {A0 : Nat → Prop} {H0 : Heap} {gs gc : List va_W} {y : MethodName} {ret : Option FieldType} {As : List Value} {a : Array Value}
theorem g_backx {S : Type} {post : S → Prop} {Wn gs' : S → List va_W} {is : List Nat} (C : gC K A0 H0 s) (hG : gW K A0 H0 gs H locs) (hC : is.map (fun i => gs[i]?) = gc.map some) (hn : va_nd is = true)
    (hr : vx_Run p l e R s m args below meth c H locs cells slots mc ms (F0 m pc ls st0) rest (va_Qv (fun _ : Unit => False) (fun _ _ => True) (va_A gc.flatten H.size) a) (vx_X post (fun E' u t => E' = E ∧ gAt K (va_A gc.flatten H.size) (Wn u) t) (va_A gc.flatten H.size)) (va_A gc.flatten H.size))
    (hl : ∀ u, is.length ≤ (Wn u).length) (hg : ∀ u, gback gs is (Wn u) = gs' u)
    (kx : ∀ (u : S) (q : Addr) (ce : Cell) (H1 : Heap) (locs1 : List Loc), post u → gW K A0 H0 (gs' u) H1 locs1 → H1[q]? = some ce → ce.vm = .none → s.vm.findClass E = some ce.cls → vx_W p l e R s m args below meth c H1 locs1 (cells + mc) (slots + ms) Q (F0 m pc ls rest) q) : W p l e R s m args below meth c H locs cells slots Q (F0 m pc ls st0) := by
  have hF := gpick_F hG.2.1 hG.2.2 C.2.1 hC hn
  refine vx_callv hr hG.2.2 (fun q _ h => hF q h) hF (fun q _ h => hF q h) (fun E' ce q9 u t H1 locs1 ht _ hp hB _ hk hS hce hcv hcl => ?_) (fun u t H1 locs1 ht _ hp => hp.elim)
  obtain ⟨rfl, b1, b2⟩ := hB
  rw [ht] at b1
  have := gback_PD hG.1 hG.2.1 hC hn (hl u) hk hF b1 b2
  rw [hg u] at this
  exact kx u q9 ce H1 locs1 hp ⟨this.1, this.2, hS⟩ hce hcv hcl
theorem g_xS (S : CallFix p m c cc nL s args Ts own) (C : gC K A0 H0 s) (hG : gW K A0 H0 gs H locs) {T : Type} {post : T → Prop} {Wn gs' : T → List va_W} (is : List Nat) (hM : mX l y wsY f lo K As gc E post Wn mc ms) (hC : is.map (fun i => gs[i]?) = gc.map some) (hn : va_nd is = true) (cw : CallB R s args own index y bytes maxL ret wsY { frames := f, cells := mc, slots := ms, locals := lo } mc ms n ∧ (Cond.static y).before args s = true) (hlen : As.length = n) (hsz : ls.size = nL) (hst : st0 = As.reverse ++ rest) (hrm : (rest.map fun v => v.category).sum ≤ 8) (hd : decode cc pc = .ok (.invokestatic index, 3)) (hf : cells + mc ≤ R.cells ∧ slots + ms ≤ R.slots) (hl : ∀ u, is.length ≤ (Wn u).length) (hg : ∀ u, gback gs is (Wn u) = gs' u)
    (kx : ∀ (u : T) (q : Addr) (ce : Cell) (H1 : Heap) (locs1 : List Loc), post u → gW K A0 H0 (gs' u) H1 locs1 → H1[q]? = some ce → ce.vm = .none → s.vm.findClass E = some ce.cls → vx_W p l e R s m args below meth c H1 locs1 (cells + mc) (slots + ms) Q (F0 m pc ls rest) q) : W p l e R s m args below meth c H locs cells slots Q (F0 m pc ls st0) :=
  g_backx C hG hC hn (vx_runS S (hM H.size) cw ⟨gPre_blind, fun U hU hW => ⟨rfl, gPre_of C hG hC hn hU hW⟩⟩ rfl hlen hsz hst (lv_room hrm) hd hf) hl hg kx
end GXCALL
