abbrev vwCl : List vw_C := [(RX0, TX0, 2), (RX1, TX1, 3), (RX2, TX2, 10), (RX3, TX3, 4), (RX4, TX4, 18), (RX5, TX5, 5), (RX6, TX6, 11), (RX7, TX7, 2), (RX8, TX8, 11), (RJ0, TJ0, 4), (RJ4, TJ4, 4)]
/-! ===== the rows of my kit: one instruction each, over numbers iI z, worlds gW ===== -/
/-- what never changes while the law runs: the classes' numbers, the arrays' classes, the heap at the law's start, the places of the String constants and of their bytes -/
abbrev KC : Type := va_G × (Nat → ClassId) × Heap × (Nat → Nat) × (Nat → Nat)
def tyK (K : KC) : List (ClassId × FieldType) := [(K.2.1 0, .int), (K.2.1 1, .byte), (K.2.1 2, .int), (K.2.1 3, .int), (K.2.1 4, .int), (K.2.1 5, .object "RayLayers$Scene"), (K.2.1 6, .array .int)]
def nestW : List Cond := [.methodLinkNest RX8 9 yX0_init RX8, .methodLinkNest RX8 21 yX5_init RX8, .methodLinkNest RX5 11 yX7_init RX8, .methodLinkNest RX8 31 yX1_init RX8, .methodLinkNest RX7 19 yX8_put RX8, .methodLinkNest RX1 24 yX8_sceneAt RX8, .methodLinkNest RX1 28 yX5_init RX8, .methodLinkNest RX4 44 yX8_put RX8, .methodLinkNest RX4 114 yX8_at RX8, .methodLinkNest RX3 76 yX8_put RX8, .methodLinkNest RX3 80 yX8_at RX8]
theorem nestW_form : ∀ w ∈ nestW, ∃ a i x h, w = Cond.methodLinkNest a i x h := by
  intro w h
  simp only [nestW, List.mem_cons, List.not_mem_nil, or_false] at h
  rcases h with rfl | rfl | rfl | rfl | rfl | rfl | rfl | rfl | rfl | rfl | rfl <;> exact ⟨_, _, _, _, rfl⟩
/-- the String constants that the code asks for: the class, the entry, the text, its place among the texts -/
def strW : List (String × Nat × String × Nat) := [(RX2, 51, "layer", 0),
  (RX2, 96, "thick", 1),
  (RX2, 101, "loss", 2),
  (RX2, 73, "outside", 3),
  (RX2, 78, "bottom", 4),
  (RX2, 112, "mirror", 5),
  (RX2, 114, "open", 6),
  (RX2, 83, "shot", 7),
  (RX2, 129, "down", 8),
  (RX2, 131, "up", 9),
  (RX8, 91, "the input buffer is full", 10),
  (RX8, 347, "a value is out of range", 11),
  (RX8, 142, "no such property", 12),
  (RX8, 354, "no such layer", 13),
  (RX8, 356, "no such shot", 14),
  (RX8, 189, "no such number of a path", 15),
  (RX8, 198, "no such leg", 16),
  (RX8, 91, "the input buffer is full", 10),
  (RX8, 91, "the input buffer is full", 10),
  (RX8, 280, "no such place for a layer", 19),
  (RX8, 282, "there is no room for a layer", 20),
  (RX8, 284, "it is the only layer", 21),
  (RX8, 362, "no such number of a layer", 22),
  (RX8, 289, "both layers are the same", 23),
  (RX8, 303, "there is no room for a shot", 24),
  (RX8, 91, "the input buffer is full", 10),
  (RX8, 91, "the input buffer is full", 10),
  (RX8, 91, "the input buffer is full", 10),
  (RX8, 91, "the input buffer is full", 10),
  (RX8, 91, "the input buffer is full", 10),
  (RL, 51, "layer ", 30),
  (RL, 59, " thick ", 31),
  (RL, 61, " loss ", 32),
  (RL, 63, ";", 33),
  (RL, 65, "outside ", 34),
  (RL, 67, "bottom mirror ", 35),
  (RL, 69, "bottom open ", 36),
  (RL, 71, "shot ", 37),
  (RL, 73, " down ", 38),
  (RL, 75, " up ", 39)]
/-- the texts whose bytes are read -/
def txtL : List Nat := [5, 5, 4, 7, 6, 6, 4, 4, 4, 2, 0, 0, 0, 0, 0, 0, 0, 0, 0, 0, 0, 0, 0, 0, 0, 0, 0, 0, 0, 0, 6, 7, 6, 1, 8, 14, 12, 5, 6, 4]
def txtB : List (List Int32) := [[108, 97, 121, 101, 114], [116, 104, 105, 99, 107], [108, 111, 115, 115], [111, 117, 116, 115, 105, 100, 101], [98, 111, 116, 116, 111, 109], [109, 105, 114, 114, 111, 114], [111, 112, 101, 110], [115, 104, 111, 116], [100, 111, 119, 110], [117, 112], [], [], [], [], [], [], [], [], [], [], [], [], [], [], [], [], [], [], [], [], [108, 97, 121, 101, 114, 32], [32, 116, 104, 105, 99, 107, 32], [32, 108, 111, 115, 115, 32], [59], [111, 117, 116, 115, 105, 100, 101, 32], [98, 111, 116, 116, 111, 109, 32, 109, 105, 114, 114, 111, 114, 32], [98, 111, 116, 116, 111, 109, 32, 111, 112, 101, 110, 32], [115, 104, 111, 116, 32], [32, 100, 111, 119, 110, 32], [32, 117, 112, 32]]
/-- the cell that a String constant is, and its bytes, in the heap of the start -/
def gTxt (K : KC) (s : State) (i : Nat) (len : Nat) (byt : List Int32) : Prop :=
  va_O "java/lang/String" (K.2.2.2.1 i) (fun q => K.2.2.1.size ≤ q) s K.2.2.1 ∧ va_OF "java/lang/String" "coder" "B" (.int 0) (K.2.2.2.1 i) (fun q => K.2.2.1.size ≤ q) s K.2.2.1 ∧ va_OF "java/lang/String" "value" "[B" (.ref (K.2.2.2.2 i)) (K.2.2.2.1 i) (fun q => K.2.2.1.size ≤ q) s K.2.2.1 ∧ va_T .byte (K.2.2.2.2 i) len (fun j => .int (byt.getD j 0)) (fun q => K.2.2.1.size ≤ q) s K.2.2.1
/-- the statics that String's methods read -/
def gCom (K : KC) (s : State) : Prop := va_Z "java/lang/String" "COMPACT_STRINGS" "Z" (.int 1) (fun q => K.2.2.1.size ≤ q) s K.2.2.1 ∧ va_Zq "jdk/internal/util/Preconditions" "SIOOBE_FORMATTER" "Ljava/util/function/BiFunction;" (fun q => K.2.2.1.size ≤ q) s K.2.2.1
theorem gCom.moved {K : KC} {u U : State} (hvm : u.vm.Alike U.vm) (h : gCom K u) : gCom K U := ⟨va_Z.moved hvm h.1, va_Zq.moved hvm h.2⟩
def gDig (K : KC) (s : State) : Prop := (va_Z "java/lang/Integer" "DigitTens" "[B" (.ref (K.2.2.2.2 40)) (fun q => K.2.2.1.size ≤ q) s K.2.2.1 ∧ va_T .byte (K.2.2.2.2 40) 100 (fun j => .int (iI (48 + (j : Int) / 10))) (fun q => K.2.2.1.size ≤ q) s K.2.2.1) ∧ va_Z "java/lang/Integer" "DigitOnes" "[B" (.ref (K.2.2.2.2 41)) (fun q => K.2.2.1.size ≤ q) s K.2.2.1 ∧ va_T .byte (K.2.2.2.2 41) 100 (fun j => .int (iI (48 + (j : Int) % 10))) (fun q => K.2.2.1.size ≤ q) s K.2.2.1
theorem gDig.moved {K : KC} {u U : State} (hvm : u.vm.Alike U.vm) (h : gDig K u) : gDig K U := ⟨⟨va_Z.moved hvm h.1.1, va_T.moved hvm h.1.2⟩, va_Z.moved hvm h.2.1, va_T.moved hvm h.2.2⟩
def gScr (K : KC) (s : State) : Prop := K.2.2.2.2 43 ≤ 260 ∧ va_T .int (K.2.2.2.2 42) (K.2.2.2.2 43) (fun j => .int (Int32.ofNat (K.2.2.2.1 (100 + j)))) (fun q => K.2.2.1.size ≤ q) s K.2.2.1
theorem gScr.moved {K : KC} {u U : State} (hvm : u.vm.Alike U.vm) (h : gScr K u) : gScr K U := ⟨h.1, va_T.moved hvm h.2⟩
def gTxtL (K : KC) (s : State) : Prop := ∀ i : Nat, i < 40 → 30 ≤ i → gTxt K s i (txtL.getD i 0) (txtB.getD i [])
def gTxts (K : KC) (s : State) : Prop := (∀ i : Nat, i < 10 → gTxt K s i (txtL.getD i 0) (txtB.getD i [])) ∧ ((gTxtL K s ∧ gDig K s ∧ gScr K s) ∧ va_Nw (.castable "[B" "java/lang/Cloneable") s) ∧ gCom K s
/-- the exceptions that the class throws, and which of them a handler takes -/
def exC : List String := ["java/lang/IndexOutOfBoundsException", "java/lang/IllegalArgumentException", "java/lang/IllegalStateException"]
/-- what a handler takes -/
def exT : List String := ["java/lang/IllegalArgumentException", "java/lang/IllegalStateException"]
def dclW : List MethodName := [Bundle.initS "java/lang/RuntimeException", Bundle.initS "java/lang/Exception", Bundle.initS Bundle.tN]
def gCst (s : State) : Prop := (∀ x ∈ exC, va_Nw (.castable x x) s) ∧ (∀ x ∈ exC, ∀ y ∈ exT, x ≠ y → va_Nc x y s) ∧ ∀ y ∈ dclW, va_Nw (.declares y) s
def gThr (K : KC) (s : State) : Prop := vx_Zq Bundle.tN "UNASSIGNED_STACK" Bundle.steD (fun q => K.2.2.1.size ≤ q) s K.2.2.1 ∧ vx_Zq Bundle.tN "SUPPRESSED_SENTINEL" Bundle.listD (fun q => K.2.2.1.size ≤ q) s K.2.2.1 ∧ gCst s
theorem gCst.warm {s U : State} (hW : s.WarmedH U.vm) (h : gCst s) : gCst U := ⟨fun x hx => va_Nw.warmC hW (h.1 x hx), fun x hx y hy e => va_Nc.moved hW.alike (h.2.1 x hx y hy e), fun y hy => va_Nw.warmD hW (h.2.2 y hy)⟩
theorem gCst.same {s U : State} (hv : U.vm = s.vm) (h : gCst s) : gCst U := ⟨fun x hx => va_Nw.same rfl hv.symm (h.1 x hx), fun x hx y hy e => va_Nc.moved (by rw [hv]; exact Vm.Alike.refl _) (h.2.1 x hx y hy e), fun y hy => va_Nw.same rfl hv.symm (h.2.2 y hy)⟩
def gStr (K : KC) (s : State) : Prop := ∀ x ∈ strW, vk_R x.1 x.2.1 x.2.2.1 (K.2.2.2.1 x.2.2.2) s
def gOK (K : KC) (s : State) : Prop := va_K K.1 vwCl (tyK K) s ∧ (∀ w ∈ nestW, va_Nw w s) ∧ gStr K s ∧ gThr K s ∧ gTxts K s ∧ va_AO "RayLayers$Scene" s ∧ va_AOA .int s ∧ s.vm.findClass "[I" = some (K.2.1 0)
theorem idx_alike {u U : State} (hvm : u.vm.Alike U.vm) (comp : ClassId) : (U.vm.classes.findIdx? fun (x : Class) => match x.kind with | .array component _ => component == comp | _ => false) = (u.vm.classes.findIdx? fun (x : Class) => match x.kind with | .array component _ => component == comp | _ => false) := by
  have e := va_idx_bare U.vm comp
  have e' := va_idx_bare u.vm comp
  have hb : U.vm.bare = u.vm.bare := by first | exact hvm.bare_eq | exact hvm.bare_eq.symm
  exact (e.symm.trans (congrArg (fun v : Vm => v.classes.findIdx? fun (x : Class) => match x.kind with | .array component _ => component == comp | _ => false) hb)).trans e'
theorem va_AOA.moved {ty : FieldType} {u U : State} (hvm : u.vm.Alike U.vm) (h : va_AOA ty u) : va_AOA ty U := by
  intro A
  have h0 : (Cond.arrayOver (.array ty)).before #[] u = true := h #[]
  unfold Cond.before Cond.holds at h0 ⊢
  simp only [Cond.value] at h0 ⊢
  cases hc : u.vm.findClass (FieldType.array ty).toString with
  | none => rw [hc] at h0; simp at h0
  | some comp =>
    rw [hc, Option.bind_some] at h0
    rw [hvm.findClass, hc, Option.bind_some]
    cases hi : (u.vm.classes.findIdx? fun (x : Class) => match x.kind with | .array component _ => component == comp | _ => false) with
    | none => exact absurd ((congrArg (fun o : Option Nat => (o.bind (fun c => (u.vm.classes[c]?).map fun (k : Class) => match k.kind with | .array _ ty1 => decide (ty1 = FieldType.array ty) && decide (u.vm.findClass ("[" ++ (FieldType.array ty).toString) = some c) | _ => false) == some true)) hi).symm.trans h0) (by simp)
    | some c =>
      have h1 := (congrArg (fun o : Option Nat => (o.bind (fun c => (u.vm.classes[c]?).map fun (k : Class) => match k.kind with | .array _ ty1 => decide (ty1 = FieldType.array ty) && decide (u.vm.findClass ("[" ++ (FieldType.array ty).toString) = some c) | _ => false) == some true)) hi).symm.trans h0
      have hi2 : (U.vm.classes.findIdx? fun (x : Class) => match x.kind with | .array component _ => component == comp | _ => false) = some c := (idx_alike hvm comp).trans hi
      refine (congrArg (fun o : Option Nat => (o.bind (fun c => (U.vm.classes[c]?).map fun (k : Class) => match k.kind with | .array _ ty1 => decide (ty1 = FieldType.array ty) && decide (U.vm.findClass ("[" ++ (FieldType.array ty).toString) = some c) | _ => false) == some true)) hi2).trans ?_
      cases hk : u.vm.classes[c]? with
      | none => rw [Option.bind_some, hk] at h1; simp at h1
      | some k =>
        obtain ⟨k', hk', he⟩ := hvm.2.2 _ _ hk
        rw [Option.bind_some, hk, Option.map_some] at h1
        rw [Option.bind_some, hk', Option.map_some, he, hvm.findClass]
        exact h1
theorem gTxt.moved {K : KC} {u U : State} {i len : Nat} {byt : List Int32} (hvm : u.vm.Alike U.vm) (h : gTxt K u i len byt) : gTxt K U i len byt := ⟨va_O.moved hvm h.1, va_OF.moved hvm h.2.1, va_OF.moved hvm h.2.2.1, va_T.moved hvm h.2.2.2⟩
theorem gTxtL.moved {K : KC} {u U : State} (hvm : u.vm.Alike U.vm) (h : gTxtL K u ∧ gDig K u ∧ gScr K u) : gTxtL K U ∧ gDig K U ∧ gScr K U := ⟨fun i h1 h2 => gTxt.moved hvm (h.1 i h1 h2), gDig.moved hvm h.2.1, gScr.moved hvm h.2.2⟩
theorem gOK.warm {K : KC} {s U : State} (hW : s.WarmedH U.vm) (h : gOK K s) : gOK K U := by
  obtain ⟨h1, h2, h3, h4, h5, h6, h7, h8⟩ := h
  refine ⟨va_K.moved hW.alike h1, fun w hw => ?_, fun x hx => vk_R.warm hW (h3 x hx), ⟨vx_Zq.moved hW.alike h4.1, vx_Zq.moved hW.alike h4.2.1, gCst.warm hW h4.2.2⟩, ⟨fun i hi => gTxt.moved hW.alike (h5.1 i hi), ⟨gTxtL.moved hW.alike h5.2.1.1, va_Nw.warmC hW h5.2.1.2⟩, gCom.moved hW.alike h5.2.2⟩, va_AO.moved hW.alike h6, va_AOA.moved hW.alike h7, ?_⟩
  · obtain ⟨a, i, x, g, rfl⟩ := nestW_form w hw
    exact va_Nw.warmM hW (h2 _ hw)
  · rw [hW.alike.findClass]
    exact h8
theorem gOK.same {K : KC} {u U : State} (hv : U.vm = u.vm) (h : gOK K u) : gOK K U := by
  have hal : u.vm.Alike U.vm := by rw [hv]; exact Vm.Alike.refl _
  obtain ⟨h1, h2, h3, h4, h5, h6, h7, h8⟩ := h
  refine ⟨va_K.moved hal h1, fun w hw => ?_, fun x hx => vk_R.same hv (h3 x hx), ⟨vx_Zq.moved hal h4.1, vx_Zq.moved hal h4.2.1, gCst.same hv h4.2.2⟩, ⟨fun i hi => gTxt.moved hal (h5.1 i hi), ⟨gTxtL.moved hal h5.2.1.1, va_Nw.same rfl hv.symm h5.2.1.2⟩, gCom.moved hal h5.2.2⟩, va_AO.moved hal h6, va_AOA.moved hal h7, ?_⟩
  · obtain ⟨a, i, x, g, rfl⟩ := nestW_form w hw
    exact va_Nw.same rfl hv.symm (h2 _ hw)
  · rw [hv]
    exact h8
/-- the old heap below the start's size -/
def gOld (K : KC) (H : Heap) : Prop := K.2.2.1.size ≤ H.size ∧ ∀ q : Nat, q < K.2.2.1.size → H[q]? = K.2.2.1[q]?
def gW (K : KC) (A : Nat → Prop) (H0 : Heap) (gs : List va_W) (H : Heap) (locs : List Loc) : Prop := va_P K.1 vwCl gs.flatten H ∧ va_D A gs.flatten ∧ va_S A H0 H locs
def gC (K : KC) (A : Nat → Prop) (H0 : Heap) (s : State) : Prop := gOK K s ∧ (∀ q, H0.size ≤ q → A q) ∧ (∀ q, A q → K.2.2.1.size ≤ q) ∧ gOld K H0
def gPre (K : KC) (gs : List va_W) (sz : Nat) (U : State) : Prop := U.heap.size = sz ∧ gOK K U ∧ va_P K.1 vwCl gs.flatten U.heap ∧ va_D (fun q => K.2.2.1.size ≤ q) gs.flatten ∧ gOld K U.heap
def gAt (K : KC) (A : Nat → Prop) (gs : List va_W) (t : State) : Prop := va_P K.1 vwCl gs.flatten t.heap ∧ va_D A gs.flatten
/-- an answer of any kind -/
def gQ {S : Type} (post : Value → S → Prop) (B : S → State → Prop) (A : Nat → Prop) : Array Value → State → Outcome → State → Prop := fun _ st oc t => (∃ (v : Value) (u : S), oc = .returned (some v) ∧ post v u ∧ B u t) ∧ va_F A st t
/-- the contract of a method that answers -/
def mG (l : Launch) (y : MethodName) (ws : List Cond) (f lo : Nat) (K : KC) (av : List Value) (gs : List va_W) {S : Type} (post : Value → S → Prop) (Wn : S → List va_W) (mc ms : Nat) : Prop :=
  ∀ sz : Nat, Met l y ws { frames := f, cells := mc, slots := ms, locals := lo } (va_Pc av (gPre K gs sz)) (gQ post (fun u => gAt K (va_A gs.flatten sz) (Wn u)) (va_A gs.flatten sz)) mc ms (va_A gs.flatten sz)
/-- the contract of a method that answers nothing -/
def mV (l : Launch) (y : MethodName) (ws : List Cond) (f lo : Nat) (K : KC) (av : List Value) (gs : List va_W) {S : Type} (post : S → Prop) (Wn : S → List va_W) (mc ms : Nat) : Prop :=
  ∀ sz : Nat, Met l y ws { frames := f, cells := mc, slots := ms, locals := lo } (va_Pc av (gPre K gs sz)) (va_Qv post (fun u => gAt K (va_A gs.flatten sz) (Wn u)) (va_A gs.flatten sz)) mc ms (va_A gs.flatten sz)
theorem gPre_blind {K : KC} {gs : List va_W} {sz : Nat} {av : List Value} : FrameBlind (va_Pc av (gPre K gs sz)) := fun a U g mk q => by
  obtain ⟨q0, q1, q2, q3, q4, q5⟩ := q
  exact ⟨q0, q1, gOK.same (u := U) (U := U.calling g mk a) rfl q2, q3, q4, q5⟩
theorem gOld.kept {K : KC} {A : Nat → Prop} {H0 H : Heap} {locs : List Loc} (h : gOld K H0) (hS : va_S A H0 H locs) (hA : ∀ q, A q → K.2.2.1.size ≤ q) : gOld K H :=
  ⟨Nat.le_trans h.1 hS.1, fun q hq => (hS.2.1 q (Nat.lt_of_lt_of_le hq h.1) (fun z => by have := hA q z; omega)).trans (h.2 q hq)⟩
/-- what a callee finds -/
theorem gPre_of {K : KC} {A : Nat → Prop} {H0 H : Heap} {s U : State} {gs gc : List va_W} {locs : List Loc} {is : List Nat} (C : gC K A H0 s) (hG : gW K A H0 gs H locs) (hC : is.map (fun i => gs[i]?) = gc.map some) (hn : va_nd is = true) (hU : U.heap = H) (hW : s.WarmedH U.vm) : gPre K gc H.size U := by
  refine ⟨by rw [hU], gOK.warm hW C.1, ?_, (gpick_D hG.2.1 hC hn).weaken (fun _ q _ z => C.2.2.1 _ z), ?_⟩
  · rw [hU]; exact gpick_P hG.1 hC
  · rw [hU]; exact gOld.kept C.2.2.2 hG.2.2 C.2.2.1
section GCALL
variable {p : Program} {l : Launch} {e : Env} {R : Room} {s : State} {m : MethodId} {args : Array Value} {below : List Frame} {meth : Method} {c : Code} {H : Heap} {locs : List Loc} {cells slots : Nat} {Q : State → Prop}
variable {pc : Nat} {ls : Array Slot} {rest st0 : List Value} {a : Array Value} {A0 A1 : Nat → Prop} {H0 : Heap} {mc ms : Nat} {free : Addr → Prop}
theorem g_callg {S : Type} {post : Value → S → Prop} {B : S → State → Prop} (hr : va_Run p l e R s m args below meth c H locs cells slots mc ms (F0 m pc ls st0) rest (gQ post B A1 a) free) (hS : va_S A0 H0 H locs) (hA : ∀ q, q < H.size → A1 q → A0 q) (hf : ∀ q, free q → A0 q)
    (kk : ∀ (v : Value) (u : S) (t : State) (H1 : Heap) (locs1 : List Loc), t.heap = H1 → post v u → B u t → (∀ q : Nat, q < H.size → ¬ A1 q → H1[q]? = H[q]?) → va_S A0 H0 H1 locs1 → W p l e R s m args below meth c H1 locs1 (cells + mc) (slots + ms) Q (F0 m (pc + 3) ls (v :: rest))) : W p l e R s m args below meth c H locs cells slots Q (F0 m pc ls st0) := by
  intro T hT X
  obtain ⟨v, st₀, t, T', L, h0, X', hL, e1, e2, ⟨⟨r, u, hv, hp, hb⟩, hz, hk⟩, st⟩ := hr T hT X
  cases hv
  rw [h0] at hz hk
  obtain ⟨t2, a1, b1⟩ := kk r u t T'.heap (locs ++ L) e1.symm hp hb (fun q h1 h2 => by rw [e1]; exact hk q h1 h2)
    ⟨Nat.le_trans hS.1 (by rw [e1]; exact hz), fun q h1 h2 => by rw [e1, hk q (Nat.lt_of_lt_of_le h1 hS.1) (fun z => h2 (hA q (Nat.lt_of_lt_of_le h1 hS.1) z))]; exact hS.2.1 q h1 h2, fun q hq => by
      rcases List.mem_append.mp hq with h | h
      · exact hS.2.2 q h
      · exact hf _ (hL q h)⟩ T' rfl X'
  exact ⟨t2, st t2 a1, b1⟩
/-- behind a call that answers: the callee's groups are back in their places -/
theorem g_backg {K : KC} {S : Type} {post : Value → S → Prop} {Wn gs' : S → List va_W} {gs gc : List va_W} {is : List Nat} (C : gC K A0 H0 s) (hG : gW K A0 H0 gs H locs) (hC : is.map (fun i => gs[i]?) = gc.map some) (hn : va_nd is = true)
    (hr : va_Run p l e R s m args below meth c H locs cells slots mc ms (F0 m pc ls st0) rest (gQ post (fun u => gAt K (va_A gc.flatten H.size) (Wn u)) (va_A gc.flatten H.size) a) (va_A gc.flatten H.size))
    (hl : ∀ u, is.length ≤ (Wn u).length) (hg : ∀ u, gback gs is (Wn u) = gs' u)
    (kk : ∀ (v : Value) (u : S) (H1 : Heap) (locs1 : List Loc), post v u → gW K A0 H0 (gs' u) H1 locs1 → W p l e R s m args below meth c H1 locs1 (cells + mc) (slots + ms) Q (F0 m (pc + 3) ls (v :: rest))) : W p l e R s m args below meth c H locs cells slots Q (F0 m pc ls st0) := by
  have hF := gpick_F hG.2.1 hG.2.2 C.2.1 hC hn
  refine g_callg hr hG.2.2 (fun q _ h => hF q h) hF (fun v u t H1 locs1 ht hp hB hk hS => kk v u H1 locs1 hp ?_)
  obtain ⟨b1, b2⟩ := hB
  rw [ht] at b1
  have := gback_PD hG.1 hG.2.1 hC hn (hl u) hk hF b1 b2
  rw [hg u] at this
  exact ⟨this.1, this.2, hS⟩
theorem g_backv {K : KC} {S : Type} {post : S → Prop} {Wn gs' : S → List va_W} {gs gc : List va_W} {is : List Nat} (C : gC K A0 H0 s) (hG : gW K A0 H0 gs H locs) (hC : is.map (fun i => gs[i]?) = gc.map some) (hn : va_nd is = true)
    (hr : va_Run p l e R s m args below meth c H locs cells slots mc ms (F0 m pc ls st0) rest (va_Qv post (fun u => gAt K (va_A gc.flatten H.size) (Wn u)) (va_A gc.flatten H.size) a) (va_A gc.flatten H.size))
    (hl : ∀ u, is.length ≤ (Wn u).length) (hg : ∀ u, gback gs is (Wn u) = gs' u)
    (kk : ∀ (u : S) (H1 : Heap) (locs1 : List Loc), post u → gW K A0 H0 (gs' u) H1 locs1 → W p l e R s m args below meth c H1 locs1 (cells + mc) (slots + ms) Q (F0 m (pc + 3) ls rest)) : W p l e R s m args below meth c H locs cells slots Q (F0 m pc ls st0) := by
  have hF := gpick_F hG.2.1 hG.2.2 C.2.1 hC hn
  refine va_callv hr hG.2.2 (fun q _ h => hF q h) hF (fun u t H1 locs1 ht _ hp hB _ hk hS => kk u H1 locs1 hp ?_)
  obtain ⟨b1, b2⟩ := hB
  rw [ht] at b1
  have := gback_PD hG.1 hG.2.1 hC hn (hl u) hk hF b1 b2
  rw [hg u] at this
  exact ⟨this.1, this.2, hS⟩
end GCALL
