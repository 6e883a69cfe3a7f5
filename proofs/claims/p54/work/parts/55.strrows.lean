/-! ===== String constants: their cells lie below the law's start ===== -/
/-- text i is w -/
def txI (i : Nat) (w : List Int) : Prop := ((i < 10 ∨ 30 ≤ i ∧ i < 40) ∧ txtL.getD i 0 = w.length ∧ txtB.getD i [] = w.map iI) ∧ ∀ c ∈ w, 0 ≤ c ∧ c ≤ 127
section GSTR
variable {p : Program} {l : Launch} {e : Env} {R : Room} {s : State} {m : MethodId} {args : Array Value} {below : List Frame} {meth : Method} {c : Code} {H : Heap} {locs : List Loc} {cells slots : Nat} {Q : State → Prop}
variable {cc : ByteArray} {pc nL : Nat} {ls : Array Slot} {rest : List Value} {Ts : List Cond} {own : String} {K : KC} {A : Nat → Prop} {gs : List va_W}
theorem gTxt_of {i : Nat} {w : List Int} (C : gC K A s.heap s) (h : txI i w) : gTxt K s i w.length (w.map iI) := by
  obtain ⟨⟨h1, h2, h3⟩, -⟩ := h
  rw [← h2, ← h3]
  rcases h1 with h1 | h1
  · exact C.1.2.2.2.2.1.1 i h1
  · exact C.1.2.2.2.2.1.2.1.1.1 i h1.2 h1.1
theorem old_Z (C : gC K A s.heap s) {Cn n d : String} {v : Value} (h : va_Z Cn n d v (fun q => K.2.2.1.size ≤ q) s K.2.2.1) : va_Z Cn n d v A s s.heap := (h.kept (fun a ha _ => C.2.2.2.2 a ha)).narrow (fun q hq => C.2.2.1 q hq)
theorem old_OF (C : gC K A s.heap s) {o n d : String} {v : Value} {t : Nat} (h : va_OF o n d v t (fun q => K.2.2.1.size ≤ q) s K.2.2.1) : va_OF o n d v t A s s.heap := (h.kept (fun a ha _ => C.2.2.2.2 a ha)).narrow (fun q hq => C.2.2.1 q hq)
theorem old_T (C : gC K A s.heap s) {ty : FieldType} {t N : Nat} {f : Nat → Value} (h : va_T ty t N f (fun q => K.2.2.1.size ≤ q) s K.2.2.1) : va_T ty t N f A s s.heap := (h.kept (fun a ha _ => C.2.2.2.2 a ha)).narrow (fun q hq => C.2.2.1 q hq)
theorem g_gets (S : CallFix p m c cc nL s args Ts own) (C : gC K A s.heap s) (hG : gW K A s.heap gs H locs) {Cn n d : String} {v : Value} {index : Nat} (hZ : va_Z Cn n d v (fun q => K.2.2.1.size ≤ q) s K.2.2.1) (hw : Cond.fieldLink own index Cn n d ∈ Ts) (hd : decode cc pc = .ok (.getstatic index, 3)) (kk : W p l e R s m args below meth c H locs cells slots Q (F0 m (pc + 3) ls (v :: rest))) : W p l e R s m args below meth c H locs cells slots Q (F0 m pc ls rest) :=
  va_gets S.1 S.2.1 (old_Z C hZ) hG.2.2 S.2.2.2.1 (S.2.2.2.2 _ hw) (fun _ h => h) hd kk
theorem g_strf (S : CallFix p m c cc nL s args Ts own) (C : gC K A s.heap s) (hG : gW K A s.heap gs H locs) {n d : String} {v : Value} {q index : Nat} (hF : va_OF "java/lang/String" n d v q (fun q => K.2.2.1.size ≤ q) s K.2.2.1) (hw : Cond.fieldLink own index "java/lang/String" n d ∈ Ts) (hd : decode cc pc = .ok (.getfield index, 3)) (kk : W p l e R s m args below meth c H locs cells slots Q (F0 m (pc + 3) ls (v :: rest))) : W p l e R s m args below meth c H locs cells slots Q (F0 m pc ls (.ref q :: rest)) :=
  vk_getf S.1 S.2.1 (old_OF C hF) hG.2.2 S.2.2.2.1 (S.2.2.2.2 _ hw) (fun _ h => h) hd kk
theorem g_strlen (S : CallFix p m c cc nL s args Ts own) (C : gC K A s.heap s) (hG : gW K A s.heap gs H locs) {i : Nat} {w : List Int} (h : txI i w) {z : Int} (hz : (w.length : Int) = z) (hd : decode cc pc = .ok (.arraylength, 1)) (kk : W p l e R s m args below meth c H locs cells slots Q (F0 m (pc + 1) ls (.int (iI z) :: rest))) : W p l e R s m args below meth c H locs cells slots Q (F0 m pc ls (.ref (K.2.2.2.2 i) :: rest)) := by
  subst hz
  exact va_tlen S.1 S.2.1 (old_T C (gTxt_of C h).2.2.2) hG.2.2 (nI_iI _) hd kk
theorem g_strbyte (S : CallFix p m c cc nL s args Ts own) (C : gC K A s.heap s) (hG : gW K A s.heap gs H locs) {i : Nat} {w : List Int} (h : txI i w) {z : Int} (h0 : 0 ≤ z) (h1 : z < (w.length : Int)) (hl : w.length ≤ 100) (hd : decode cc pc = .ok (.baload, 1)) (kk : W p l e R s m args below meth c H locs cells slots Q (F0 m (pc + 1) ls (.int (iI (w.getD z.toNat 0)) :: rest))) : W p l e R s m args below meth c H locs cells slots Q (F0 m pc ls (.int (iI z) :: .ref (K.2.2.2.2 i) :: rest)) := by
  have hz : z = (z.toNat : Int) := (Int.toNat_of_nonneg h0).symm
  have e9 : (iI z).toNatClampNeg = z.toNat := iI_cl hz (by omega)
  refine va_tb S.1 S.2.1 (old_T C (gTxt_of C h).2.2.2) hG.2.2 (iI_in hz (by omega) (by omega)) ?_ hd kk
  rw [e9]
  show Value.int ((w.map iI).getD z.toNat 0) = _
  have : z.toNat < w.length := by omega
  simp [List.getD, this]
theorem g_nret (S : CallFix p m c cc nL s args Ts own) {mc ms : Nat} {T : Type} {post : Value → T → Prop} {Wn : T → List va_W} {ty : FieldType} (hr : meth.sig.returnType = some ty) (hlk : meth.locks = false) (hQ : Q = MQ below (gQ post (fun u => gAt K A (Wn u)) A) args s mc ms A) {x : Int32} (hn : narrow ty (.int x) = .int x) (hd : decode cc pc = .ok (.ireturn, 1)) (h1 : cells ≤ mc) (h2 : slots ≤ ms) (u : T) (hp : post (.int x) u) (hG : gW K A s.heap (Wn u) H locs) : W p l e R s m args below meth c H locs cells slots Q (F0 m pc ls [.int x]) := by
  subst hQ
  refine W.widen h1 h2 ?_
  exact W.zret (v := x) S.1 S.2.1 hr hn (fun t ht hW => ⟨⟨_, u, rfl, hp, gAt_of ht hG.1 hG.2.1⟩, hG.2.2.F ht⟩) hG.2.2.2.2 hd hlk
end GSTR
theorem small_k : ∀ k : Nat, k < 256 → iI (k : Int) &&& iI 255 = iI (k : Int) ∧ ((iI (k : Int)).toUInt32 % 65536).toInt32 = iI (k : Int) := by decide +kernel
theorem iand_small {v : Int} (h : 0 ≤ v ∧ v ≤ 255) : iI v &&& iI 255 = iI v := by
  have := (small_k v.toNat (by omega)).1
  rw [Int.toNat_of_nonneg h.1] at this
  exact this
theorem i2c_small {v : Int} (h : 0 ≤ v ∧ v ≤ 255) : ((iI v).toUInt32 % 65536).toInt32 = iI v := by
  have := (small_k v.toNat (by omega)).2
  rw [Int.toNat_of_nonneg h.1] at this
  exact this
theorem nar_small {v : Int} (h : 0 ≤ v ∧ v ≤ 255) : narrow .char (.int (iI v)) = .int (iI v) := congrArg Value.int (i2c_small h)
theorem wd_bd {w : List Int} (h : ∀ c ∈ w, 0 ≤ c ∧ c ≤ 127) (k : Nat) : 0 ≤ w.getD k 0 ∧ w.getD k 0 ≤ 127 := by
  by_cases q : k < w.length
  · have := h w[k] (List.getElem_mem q)
    simpa [List.getD, q] using this
  · simp [List.getD, q]
section GINVO
variable {p : Program} {l : Launch} {e : Env} {R : Room} {s : State} {m : MethodId} {args : Array Value} {below : List Frame} {meth : Method} {c : Code} {H : Heap} {locs : List Loc} {cells slots : Nat} {Q : State → Prop}
variable {cc bytes : ByteArray} {pc nL maxL index n mc ms f lo : Nat} {ls : Array Slot} {rest st0 : List Value} {Ts wsY : List Cond} {own : String} {K : KC} {A : Nat → Prop} {gs gc : List va_W} {y : MethodName} {ret : Option FieldType} {As : List Value}
/-- a call on a String constant -/
theorem g_invVO (S : CallFix p m c cc nL s args Ts own) (C : gC K A s.heap s) (hG : gW K A s.heap gs H locs) {T : Type} {post : Value → T → Prop} {Wn gs' : T → List va_W} {i : Nat} {w : List Int} (is : List Nat) (hM : mG l y wsY f lo K (.ref (K.2.2.2.1 i) :: As) gc post Wn mc ms) (hC : is.map (fun i => gs[i]?) = gc.map some) (hn : va_nd is = true) (hT : txI i w) (cw : CallW R s args own RJ0 index y bytes maxL ret wsY { frames := f, cells := mc, slots := ms, locals := lo } mc ms n) (hlen : As.length = n) (hsz : ls.size = nL) (hst : st0 = As.reverse ++ .ref (K.2.2.2.1 i) :: rest) (hrm : (rest.map fun v => v.category).sum ≤ 8) (hd : decode cc pc = .ok (.invokevirtual index, 3)) (hf : cells + mc ≤ R.cells ∧ slots + ms ≤ R.slots) (hl : ∀ u, is.length ≤ (Wn u).length) (hg : ∀ u, gback gs is (Wn u) = gs' u)
    (kk : ∀ (v : Value) (u : T) (H1 : Heap) (locs1 : List Loc), post v u → gW K A s.heap (gs' u) H1 locs1 → W p l e R s m args below meth c H1 locs1 (cells + mc) (slots + ms) Q (F0 m (pc + 3) ls (v :: rest))) : W p l e R s m args below meth c H locs cells slots Q (F0 m pc ls st0) :=
  g_backg C hG hC hn (va_runV S (hM H.size) cw ⟨gPre_blind, va_Orecv ((((gTxt_of C hT).1).kept (fun a ha _ => C.2.2.2.2 a ha)).narrow (fun q hq => C.2.2.1 q hq)) hG.2.2, fun U hU hW => ⟨rfl, gPre_of C hG hC hn hU hW⟩⟩ rfl hlen hsz hst (lv_room hrm) hd hf) hl hg kk
end GINVO
