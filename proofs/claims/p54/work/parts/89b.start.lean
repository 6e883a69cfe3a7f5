/-! ===== what never changes, out of the tables and of what is given of the start ===== -/
def strC (own : String) (k len : Nat) (byt : List Int32) : List Cond := [Cond.exactly (Term.string own k) "java/lang/String", Cond.eq (.field (Term.string own k) "java/lang/String" "coder" "B") (.int 0), Cond.arrayOf (.field (Term.string own k) "java/lang/String" "value" "[B") .byte, Cond.eq (.length (.field (Term.string own k) "java/lang/String" "value" "[B")) (.int (Int32.ofNat len))] ++ (List.range len).map (fun j => Cond.eq (.elem (.field (Term.string own k) "java/lang/String" "value" "[B") (.int (Int32.ofNat j))) (.int (byt.getD j 0)))
theorem str_ref {args : Array Value} {s : State} {own : String} {k : Nat} (h : (Cond.exactly (Term.string own k) "java/lang/String").before args s = true) : ∃ a : Nat, (Term.string own k).eval args s none [] s = some (.ref a) := by
  obtain ⟨a, c, cA, kA, q1, -⟩ := Cond.exactly_spec (args := args) (first := s) (o := none) (s := s) (idx := []) (t := Term.string own k) (cls := "java/lang/String") h
  exact ⟨a, q1⟩
theorem str_of {args : Array Value} {s : State} {own : String} {k len : Nat} {byt : List Int32} {A : Nat → Prop} (hlen : len < 2 ^ 31) (h : ∀ w ∈ strC own k len byt, w.before args s = true) (hA : ∀ a : Nat, a < s.heap.size → ¬ A a) : ∃ a t : Nat, (Term.string own k).eval args s none [] s = some (.ref a) ∧ va_O "java/lang/String" a A s s.heap ∧ va_OF "java/lang/String" "coder" "B" (.int 0) a A s s.heap ∧ va_OF "java/lang/String" "value" "[B" (.ref t) a A s s.heap ∧ va_T .byte t len (fun j => .int (byt.getD j 0)) A s s.heap := by
  have h1 := h _ (List.mem_append_left _ (List.mem_of_getElem? (i := 0) rfl))
  have h2 := h _ (List.mem_append_left _ (List.mem_of_getElem? (i := 1) rfl))
  have h3 := h _ (List.mem_append_left _ (List.mem_of_getElem? (i := 2) rfl))
  have h4 := h _ (List.mem_append_left _ (List.mem_of_getElem? (i := 3) rfl))
  obtain ⟨a, c, cA, kA, q1, q2, q3, q4, q5, q6, -⟩ := Cond.exactly_spec (args := args) (first := s) (o := none) (s := s) (idx := []) (t := Term.string own k) (cls := "java/lang/String") h1
  obtain ⟨t, ht, hT⟩ := va_Tof (f := fun j => .int (byt.getD j 0)) (A := A) hlen h3 (va_eqt h4) (fun j hj => va_eqt (h _ (List.mem_append_right _ (List.mem_map.mpr ⟨j, List.mem_range.mpr hj, rfl⟩)))) hA
  exact ⟨a, t, q1, ⟨cA, q3, q5, by rw [q6]; exact q2, hA a (Array.getElem?_eq_some_iff.mp q3).1⟩, vk_OFof q1 (va_eqt h2) hA, vk_OFof q1 ht hA, hT⟩
theorem arr_of {args : Array Value} {s : State} {ty : FieldType} (h : (Cond.arrayClass ty).before args s = true) : ∃ cA : ClassId, ArrOfT s cA ty ∧ s.vm.findClass ("[" ++ ty.toString) = some cA := by
  obtain ⟨c, k, comp, h1, h2, h3⟩ := Cond.arrayClass_spec h
  exact ⟨c, fun n z => ⟨fun k h => (by cases h), k, h2, comp, h3⟩, h1⟩
theorem arr_ofO {args : Array Value} {s : State} {C : String} (h : (Cond.arrayOver (.object C)).before args s = true) : ∃ cA : ClassId, ArrOfT s cA (.object C) ∧ va_RA s cA (.object C) := by
  obtain ⟨comp, c, k, h1, -, h2, h3, h4⟩ := Cond.arrayOver_spec h
  exact ⟨c, fun n z => ⟨fun k h => (by cases h), k, h2, comp, h3⟩, k, comp, h2, h3, h1, h4⟩
theorem arr_ofA {args : Array Value} {s : State} {ty : FieldType} (h : (Cond.arrayOver (.array ty)).before args s = true) : ∃ cA : ClassId, ArrOfT s cA (.array ty) ∧ s.vm.findClass ("[" ++ (FieldType.array ty).toString) = some cA := by
  unfold Cond.before Cond.holds at h
  simp only [Cond.value] at h
  cases hc : s.vm.findClass (FieldType.array ty).toString with
  | none => rw [hc] at h; simp at h
  | some comp =>
    rw [hc, Option.bind_some] at h
    cases hi : (s.vm.classes.findIdx? fun (x : Class) => match x.kind with | .array component _ => component == comp | _ => false) with
    | none => exact absurd ((congrArg (fun o : Option Nat => (o.bind (fun c => (s.vm.classes[c]?).map fun (k : Class) => match k.kind with | .array _ ty1 => decide (ty1 = FieldType.array ty) && decide (s.vm.findClass ("[" ++ (FieldType.array ty).toString) = some c) | _ => false) == some true)) hi).symm.trans h) (by simp)
    | some c =>
      have h1 := (congrArg (fun o : Option Nat => (o.bind (fun c => (s.vm.classes[c]?).map fun (k : Class) => match k.kind with | .array _ ty1 => decide (ty1 = FieldType.array ty) && decide (s.vm.findClass ("[" ++ (FieldType.array ty).toString) = some c) | _ => false) == some true)) hi).symm.trans h
      cases hk : s.vm.classes[c]? with
      | none => rw [Option.bind_some, hk] at h1; simp at h1
      | some k =>
        rw [Option.bind_some, hk, Option.map_some] at h1
        cases hkk : k.kind with
        | array comp2 ty1 =>
          rw [hkk] at h1
          simp only [beq_iff_eq, Option.some.injEq, Bool.and_eq_true, decide_eq_true_eq] at h1
          obtain ⟨rfl, h3⟩ := h1
          exact ⟨c, fun n z => ⟨fun k h => (by cases h), k, hk, comp2, hkk⟩, h3⟩
        | _ => rw [hkk] at h1; simp at h1
theorem ofN_nat (x : Int32) : Int32.ofNat x.toBitVec.toNat = x := by
  apply Int32.toBitVec_inj.mp
  apply BitVec.eq_of_toNat_eq
  show (BitVec.ofNat 32 x.toBitVec.toNat).toNat = x.toBitVec.toNat
  rw [BitVec.toNat_ofNat]
  exact Nat.mod_eq_of_lt x.toBitVec.isLt
def digC (tm : Term) (f : Nat → Int32) : List Cond := [Cond.arrayOf tm .byte, Cond.eq (.length tm) (.int (Int32.ofNat 100))] ++ (List.range 100).map (fun j => Cond.eq (.elem tm (.int (Int32.ofNat j))) (.int (f j)))
theorem dig_of {args : Array Value} {s : State} {tm : Term} {f : Nat → Int32} {A : Nat → Prop} (h : ∀ w ∈ digC tm f, w.before args s = true) (hA : ∀ a : Nat, a < s.heap.size → ¬ A a) : ∃ t : Nat, tm.eval args s none [] s = some (.ref t) ∧ va_T .byte t 100 (fun j => .int (f j)) A s s.heap := by
  have h3 := h _ (List.mem_append_left _ (List.mem_of_getElem? (i := 0) rfl))
  have h4 := h _ (List.mem_append_left _ (List.mem_of_getElem? (i := 1) rfl))
  exact va_Tof (f := fun j => .int (f j)) (A := A) (by decide) h3 (va_eqt h4) (fun j hj => va_eqt (h _ (List.mem_append_right _ (List.mem_map.mpr ⟨j, List.mem_range.mpr hj, rfl⟩)))) hA
theorem nar_s0 : ∀ w ∈ strC RX2 51 5 [108, 97, 121, 101, 114], w ∈ flatC (Cond.and given_1 narrow_1) := fun w h => List.mem_of_mem_drop (List.mem_of_mem_take (i := 9) (l := (flatC (Cond.and given_1 narrow_1)).drop 414) ((by decide +kernel : strC RX2 51 5 [108, 97, 121, 101, 114] = ((flatC (Cond.and given_1 narrow_1)).drop 414).take 9) ▸ h))
theorem nar_s1 : ∀ w ∈ strC RX2 96 5 [116, 104, 105, 99, 107], w ∈ flatC (Cond.and given_1 narrow_1) := fun w h => List.mem_of_mem_drop (List.mem_of_mem_take (i := 9) (l := (flatC (Cond.and given_1 narrow_1)).drop 423) ((by decide +kernel : strC RX2 96 5 [116, 104, 105, 99, 107] = ((flatC (Cond.and given_1 narrow_1)).drop 423).take 9) ▸ h))
theorem nar_s2 : ∀ w ∈ strC RX2 101 4 [108, 111, 115, 115], w ∈ flatC (Cond.and given_1 narrow_1) := fun w h => List.mem_of_mem_drop (List.mem_of_mem_take (i := 8) (l := (flatC (Cond.and given_1 narrow_1)).drop 432) ((by decide +kernel : strC RX2 101 4 [108, 111, 115, 115] = ((flatC (Cond.and given_1 narrow_1)).drop 432).take 8) ▸ h))
theorem nar_s3 : ∀ w ∈ strC RX2 73 7 [111, 117, 116, 115, 105, 100, 101], w ∈ flatC (Cond.and given_1 narrow_1) := fun w h => List.mem_of_mem_drop (List.mem_of_mem_take (i := 11) (l := (flatC (Cond.and given_1 narrow_1)).drop 440) ((by decide +kernel : strC RX2 73 7 [111, 117, 116, 115, 105, 100, 101] = ((flatC (Cond.and given_1 narrow_1)).drop 440).take 11) ▸ h))
theorem nar_s4 : ∀ w ∈ strC RX2 78 6 [98, 111, 116, 116, 111, 109], w ∈ flatC (Cond.and given_1 narrow_1) := fun w h => List.mem_of_mem_drop (List.mem_of_mem_take (i := 10) (l := (flatC (Cond.and given_1 narrow_1)).drop 451) ((by decide +kernel : strC RX2 78 6 [98, 111, 116, 116, 111, 109] = ((flatC (Cond.and given_1 narrow_1)).drop 451).take 10) ▸ h))
theorem nar_s5 : ∀ w ∈ strC RX2 112 6 [109, 105, 114, 114, 111, 114], w ∈ flatC (Cond.and given_1 narrow_1) := fun w h => List.mem_of_mem_drop (List.mem_of_mem_take (i := 10) (l := (flatC (Cond.and given_1 narrow_1)).drop 461) ((by decide +kernel : strC RX2 112 6 [109, 105, 114, 114, 111, 114] = ((flatC (Cond.and given_1 narrow_1)).drop 461).take 10) ▸ h))
theorem nar_s6 : ∀ w ∈ strC RX2 114 4 [111, 112, 101, 110], w ∈ flatC (Cond.and given_1 narrow_1) := fun w h => List.mem_of_mem_drop (List.mem_of_mem_take (i := 8) (l := (flatC (Cond.and given_1 narrow_1)).drop 471) ((by decide +kernel : strC RX2 114 4 [111, 112, 101, 110] = ((flatC (Cond.and given_1 narrow_1)).drop 471).take 8) ▸ h))
theorem nar_s7 : ∀ w ∈ strC RX2 83 4 [115, 104, 111, 116], w ∈ flatC (Cond.and given_1 narrow_1) := fun w h => List.mem_of_mem_drop (List.mem_of_mem_take (i := 8) (l := (flatC (Cond.and given_1 narrow_1)).drop 479) ((by decide +kernel : strC RX2 83 4 [115, 104, 111, 116] = ((flatC (Cond.and given_1 narrow_1)).drop 479).take 8) ▸ h))
theorem nar_s8 : ∀ w ∈ strC RX2 129 4 [100, 111, 119, 110], w ∈ flatC (Cond.and given_1 narrow_1) := fun w h => List.mem_of_mem_drop (List.mem_of_mem_take (i := 8) (l := (flatC (Cond.and given_1 narrow_1)).drop 487) ((by decide +kernel : strC RX2 129 4 [100, 111, 119, 110] = ((flatC (Cond.and given_1 narrow_1)).drop 487).take 8) ▸ h))
theorem nar_s9 : ∀ w ∈ strC RX2 131 2 [117, 112], w ∈ flatC (Cond.and given_1 narrow_1) := fun w h => List.mem_of_mem_drop (List.mem_of_mem_take (i := 6) (l := (flatC (Cond.and given_1 narrow_1)).drop 495) ((by decide +kernel : strC RX2 131 2 [117, 112] = ((flatC (Cond.and given_1 narrow_1)).drop 495).take 6) ▸ h))
theorem nar_s30 : ∀ w ∈ strC RL 51 6 [108, 97, 121, 101, 114, 32], w ∈ flatC (Cond.and given_1 narrow_1) := fun w h => List.mem_of_mem_drop (List.mem_of_mem_take (i := 10) (l := (flatC (Cond.and given_1 narrow_1)).drop 243) ((by decide +kernel : strC RL 51 6 [108, 97, 121, 101, 114, 32] = ((flatC (Cond.and given_1 narrow_1)).drop 243).take 10) ▸ h))
theorem nar_s31 : ∀ w ∈ strC RL 59 7 [32, 116, 104, 105, 99, 107, 32], w ∈ flatC (Cond.and given_1 narrow_1) := fun w h => List.mem_of_mem_drop (List.mem_of_mem_take (i := 11) (l := (flatC (Cond.and given_1 narrow_1)).drop 253) ((by decide +kernel : strC RL 59 7 [32, 116, 104, 105, 99, 107, 32] = ((flatC (Cond.and given_1 narrow_1)).drop 253).take 11) ▸ h))
theorem nar_s32 : ∀ w ∈ strC RL 61 6 [32, 108, 111, 115, 115, 32], w ∈ flatC (Cond.and given_1 narrow_1) := fun w h => List.mem_of_mem_drop (List.mem_of_mem_take (i := 10) (l := (flatC (Cond.and given_1 narrow_1)).drop 264) ((by decide +kernel : strC RL 61 6 [32, 108, 111, 115, 115, 32] = ((flatC (Cond.and given_1 narrow_1)).drop 264).take 10) ▸ h))
theorem nar_s33 : ∀ w ∈ strC RL 63 1 [59], w ∈ flatC (Cond.and given_1 narrow_1) := fun w h => List.mem_of_mem_drop (List.mem_of_mem_take (i := 5) (l := (flatC (Cond.and given_1 narrow_1)).drop 274) ((by decide +kernel : strC RL 63 1 [59] = ((flatC (Cond.and given_1 narrow_1)).drop 274).take 5) ▸ h))
theorem nar_s34 : ∀ w ∈ strC RL 65 8 [111, 117, 116, 115, 105, 100, 101, 32], w ∈ flatC (Cond.and given_1 narrow_1) := fun w h => List.mem_of_mem_drop (List.mem_of_mem_take (i := 12) (l := (flatC (Cond.and given_1 narrow_1)).drop 279) ((by decide +kernel : strC RL 65 8 [111, 117, 116, 115, 105, 100, 101, 32] = ((flatC (Cond.and given_1 narrow_1)).drop 279).take 12) ▸ h))
theorem nar_s35 : ∀ w ∈ strC RL 67 14 [98, 111, 116, 116, 111, 109, 32, 109, 105, 114, 114, 111, 114, 32], w ∈ flatC (Cond.and given_1 narrow_1) := fun w h => List.mem_of_mem_drop (List.mem_of_mem_take (i := 18) (l := (flatC (Cond.and given_1 narrow_1)).drop 291) ((by decide +kernel : strC RL 67 14 [98, 111, 116, 116, 111, 109, 32, 109, 105, 114, 114, 111, 114, 32] = ((flatC (Cond.and given_1 narrow_1)).drop 291).take 18) ▸ h))
theorem nar_s36 : ∀ w ∈ strC RL 69 12 [98, 111, 116, 116, 111, 109, 32, 111, 112, 101, 110, 32], w ∈ flatC (Cond.and given_1 narrow_1) := fun w h => List.mem_of_mem_drop (List.mem_of_mem_take (i := 16) (l := (flatC (Cond.and given_1 narrow_1)).drop 309) ((by decide +kernel : strC RL 69 12 [98, 111, 116, 116, 111, 109, 32, 111, 112, 101, 110, 32] = ((flatC (Cond.and given_1 narrow_1)).drop 309).take 16) ▸ h))
theorem nar_s37 : ∀ w ∈ strC RL 71 5 [115, 104, 111, 116, 32], w ∈ flatC (Cond.and given_1 narrow_1) := fun w h => List.mem_of_mem_drop (List.mem_of_mem_take (i := 9) (l := (flatC (Cond.and given_1 narrow_1)).drop 325) ((by decide +kernel : strC RL 71 5 [115, 104, 111, 116, 32] = ((flatC (Cond.and given_1 narrow_1)).drop 325).take 9) ▸ h))
theorem nar_s38 : ∀ w ∈ strC RL 73 6 [32, 100, 111, 119, 110, 32], w ∈ flatC (Cond.and given_1 narrow_1) := fun w h => List.mem_of_mem_drop (List.mem_of_mem_take (i := 10) (l := (flatC (Cond.and given_1 narrow_1)).drop 334) ((by decide +kernel : strC RL 73 6 [32, 100, 111, 119, 110, 32] = ((flatC (Cond.and given_1 narrow_1)).drop 334).take 10) ▸ h))
theorem nar_s39 : ∀ w ∈ strC RL 75 4 [32, 117, 112, 32], w ∈ flatC (Cond.and given_1 narrow_1) := fun w h => List.mem_of_mem_drop (List.mem_of_mem_take (i := 8) (l := (flatC (Cond.and given_1 narrow_1)).drop 344) ((by decide +kernel : strC RL 75 4 [32, 117, 112, 32] = ((flatC (Cond.and given_1 narrow_1)).drop 344).take 8) ▸ h))
theorem nar_e : ∀ w ∈ [Cond.exactly (Term.string RX8 91) "java/lang/String", Cond.exactly (Term.string RX8 347) "java/lang/String", Cond.exactly (Term.string RX8 142) "java/lang/String", Cond.exactly (Term.string RX8 354) "java/lang/String", Cond.exactly (Term.string RX8 356) "java/lang/String", Cond.exactly (Term.string RX8 189) "java/lang/String", Cond.exactly (Term.string RX8 198) "java/lang/String", Cond.exactly (Term.string RX8 280) "java/lang/String", Cond.exactly (Term.string RX8 282) "java/lang/String", Cond.exactly (Term.string RX8 284) "java/lang/String", Cond.exactly (Term.string RX8 362) "java/lang/String", Cond.exactly (Term.string RX8 289) "java/lang/String", Cond.exactly (Term.string RX8 303) "java/lang/String"], w ∈ flatC (Cond.and given_1 narrow_1) := by decide +kernel
theorem nar_c : ∀ w ∈ [Cond.not (.castable "java/lang/IndexOutOfBoundsException" "java/lang/IllegalArgumentException"), Cond.not (.castable "java/lang/IndexOutOfBoundsException" "java/lang/IllegalStateException"), Cond.not (.castable "java/lang/IllegalArgumentException" "java/lang/IllegalStateException"), Cond.not (.castable "java/lang/IllegalStateException" "java/lang/IllegalArgumentException")], w ∈ flatC (Cond.and given_1 narrow_1) := by decide +kernel
theorem nar_z : ∀ w ∈ [Cond.eq (.static "java/lang/String" "COMPACT_STRINGS" "Z") (.int 1), Cond.isRef (.static "jdk/internal/util/Preconditions" "SIOOBE_FORMATTER" "Ljava/util/function/BiFunction;"), Cond.isRef (.static "java/lang/Throwable" "UNASSIGNED_STACK" "[Ljava/lang/StackTraceElement;"), Cond.isRef (.static "java/lang/Throwable" "SUPPRESSED_SENTINEL" "Ljava/util/List;")], w ∈ flatC (Cond.and given_1 narrow_1) := by decide +kernel
theorem nar_dt : ∀ w ∈ digC (.static "java/lang/Integer" "DigitTens" "[B") (fun j => iI (48 + (j : Int) / 10)), w ∈ flatC (Cond.and given_1 narrow_1) := fun w h => List.mem_of_mem_drop (List.mem_of_mem_take (i := 102) (l := (flatC (Cond.and given_1 narrow_1)).drop 113) ((by decide +kernel : digC (.static "java/lang/Integer" "DigitTens" "[B") (fun j => iI (48 + (j : Int) / 10)) = ((flatC (Cond.and given_1 narrow_1)).drop 113).take 102) ▸ h))
theorem nar_do : ∀ w ∈ digC (.static "java/lang/Integer" "DigitOnes" "[B") (fun j => iI (48 + (j : Int) % 10)), w ∈ flatC (Cond.and given_1 narrow_1) := fun w h => List.mem_of_mem_drop (List.mem_of_mem_take (i := 102) (l := (flatC (Cond.and given_1 narrow_1)).drop 10) ((by decide +kernel : digC (.static "java/lang/Integer" "DigitOnes" "[B") (fun j => iI (48 + (j : Int) % 10)) = ((flatC (Cond.and given_1 narrow_1)).drop 10).take 102) ▸ h))
set_option maxHeartbeats 4000000 in
set_option maxRecDepth 100000 in
theorem lw_K {s : State} {b L : Nat} {xs : Nat → Int32} (hL : L ≤ 260) (hX : va_X b L xs s s.heap) (hbl : b < s.heap.size) (hts : ∀ w ∈ lw_tbl2, w.before #[Value.ref b] s = true) (hgv : (Cond.and given_1 narrow_1).before #[Value.ref b] s = true) : ∃ K : KC, K.2.2.1 = s.heap ∧ K.2.2.2.2 42 = b ∧ gOK K s := by
  have hn := flat_of_before _ hgv
  have hA : ∀ a : Nat, a < s.heap.size → ¬ (fun q : Nat => s.heap.size ≤ q) a := fun a h => Nat.not_le.mpr h
  obtain ⟨c0, iS0, k0⟩ := u_known (C := RX0) (T := TX0) (N := 2) (n := 2) hts inX0 (hts (.instantiable RX0 2) (tbl_1 (List.mem_of_getElem? (i := 37) rfl)))
  obtain ⟨c1, iS1, k1⟩ := u_known (C := RX1) (T := TX1) (N := 3) (n := 3) hts inX1 (hts (.instantiable RX1 3) (tbl_1 (List.mem_of_getElem? (i := 103) rfl)))
  obtain ⟨c2, iS2, k2⟩ := u_known (C := RX2) (T := TX2) (N := 10) (n := 10) hts inX2 (hts (.instantiable RX2 10) (tbl_2 (List.mem_of_getElem? (i := 16) rfl)))
  obtain ⟨c3, iS3, k3⟩ := u_known (C := RX3) (T := TX3) (N := 4) (n := 4) hts inX3 (hts (.instantiable RX3 4) (tbl_1 (List.mem_of_getElem? (i := 197) rfl)))
  obtain ⟨c4, iS4, k4⟩ := u_known (C := RX4) (T := TX4) (N := 18) (n := 18) hts inX4 (hts (.instantiable RX4 18) (tbl_1 (List.mem_of_getElem? (i := 121) rfl)))
  obtain ⟨c5, iS5, k5⟩ := u_known (C := RX5) (T := TX5) (N := 5) (n := 5) hts inX5 (hts (.instantiable RX5 5) (tbl_1 (List.mem_of_getElem? (i := 53) rfl)))
  obtain ⟨c6, iS6, k6⟩ := u_known (C := RX6) (T := TX6) (N := 11) (n := 11) hts inX6 (hts (.instantiable RX6 11) (tbl_1 (List.mem_of_getElem? (i := 221) rfl)))
  obtain ⟨c7, iS7, k7⟩ := u_known (C := RX7) (T := TX7) (N := 2) (n := 2) hts inX7 (hts (.instantiable RX7 2) (tbl_1 (List.mem_of_getElem? (i := 59) rfl)))
  obtain ⟨c8, iS8, k8⟩ := u_known (C := RX8) (T := TX8) (N := 11) (n := 11) hts inX8 (hts (.instantiable RX8 11) (tbl_1 (List.mem_of_getElem? (i := 29) rfl)))
  obtain ⟨c9, iS9, k9⟩ := u_known (C := RJ0) (T := TJ0) (N := 4) (n := 4) hts inJ0 (hts (.instantiable RJ0 4) (tbl_3 (List.mem_of_getElem? (i := 67) rfl)))
  obtain ⟨c10, iS10, k10⟩ := u_known (C := RJ4) (T := TJ4) (N := 4) (n := 4) hts inJ4 (hts (.instantiable RJ4 4) (tbl_2 (List.mem_of_getElem? (i := 114) rfl)))
  obtain ⟨y0, u0, v0⟩ := arr_of (hts (.arrayClass .int) (tbl_1 (List.mem_of_getElem? (i := 75) rfl)))
  obtain ⟨y1, u1, v1⟩ := arr_of (hts (.arrayClass .byte) (tbl_1 (List.mem_of_getElem? (i := 51) rfl)))
  have hO := hts (.arrayOver (.object "RayLayers$Scene")) (tbl_1 (List.mem_of_getElem? (i := 109) rfl))
  have hO2 := hts (.arrayOver (.array .int)) (tbl_1 (List.mem_of_getElem? (i := 203) rfl))
  obtain ⟨y5, u5, v5⟩ := arr_ofO hO
  obtain ⟨y6, u6, v6⟩ := arr_ofA hO2
  obtain ⟨a0, t0, e0, g0⟩ := str_of (own := RX2) (k := 51) (len := 5) (byt := [108, 97, 121, 101, 114]) (by decide) (fun w h => hn w (nar_s0 w h)) hA
  obtain ⟨a1, t1, e1, g1⟩ := str_of (own := RX2) (k := 96) (len := 5) (byt := [116, 104, 105, 99, 107]) (by decide) (fun w h => hn w (nar_s1 w h)) hA
  obtain ⟨a2, t2, e2, g2⟩ := str_of (own := RX2) (k := 101) (len := 4) (byt := [108, 111, 115, 115]) (by decide) (fun w h => hn w (nar_s2 w h)) hA
  obtain ⟨a3, t3, e3, g3⟩ := str_of (own := RX2) (k := 73) (len := 7) (byt := [111, 117, 116, 115, 105, 100, 101]) (by decide) (fun w h => hn w (nar_s3 w h)) hA
  obtain ⟨a4, t4, e4, g4⟩ := str_of (own := RX2) (k := 78) (len := 6) (byt := [98, 111, 116, 116, 111, 109]) (by decide) (fun w h => hn w (nar_s4 w h)) hA
  obtain ⟨a5, t5, e5, g5⟩ := str_of (own := RX2) (k := 112) (len := 6) (byt := [109, 105, 114, 114, 111, 114]) (by decide) (fun w h => hn w (nar_s5 w h)) hA
  obtain ⟨a6, t6, e6, g6⟩ := str_of (own := RX2) (k := 114) (len := 4) (byt := [111, 112, 101, 110]) (by decide) (fun w h => hn w (nar_s6 w h)) hA
  obtain ⟨a7, t7, e7, g7⟩ := str_of (own := RX2) (k := 83) (len := 4) (byt := [115, 104, 111, 116]) (by decide) (fun w h => hn w (nar_s7 w h)) hA
  obtain ⟨a8, t8, e8, g8⟩ := str_of (own := RX2) (k := 129) (len := 4) (byt := [100, 111, 119, 110]) (by decide) (fun w h => hn w (nar_s8 w h)) hA
  obtain ⟨a9, t9, e9, g9⟩ := str_of (own := RX2) (k := 131) (len := 2) (byt := [117, 112]) (by decide) (fun w h => hn w (nar_s9 w h)) hA
  obtain ⟨a30, t30, e30, g30⟩ := str_of (own := RL) (k := 51) (len := 6) (byt := [108, 97, 121, 101, 114, 32]) (by decide) (fun w h => hn w (nar_s30 w h)) hA
  obtain ⟨a31, t31, e31, g31⟩ := str_of (own := RL) (k := 59) (len := 7) (byt := [32, 116, 104, 105, 99, 107, 32]) (by decide) (fun w h => hn w (nar_s31 w h)) hA
  obtain ⟨a32, t32, e32, g32⟩ := str_of (own := RL) (k := 61) (len := 6) (byt := [32, 108, 111, 115, 115, 32]) (by decide) (fun w h => hn w (nar_s32 w h)) hA
  obtain ⟨a33, t33, e33, g33⟩ := str_of (own := RL) (k := 63) (len := 1) (byt := [59]) (by decide) (fun w h => hn w (nar_s33 w h)) hA
  obtain ⟨a34, t34, e34, g34⟩ := str_of (own := RL) (k := 65) (len := 8) (byt := [111, 117, 116, 115, 105, 100, 101, 32]) (by decide) (fun w h => hn w (nar_s34 w h)) hA
  obtain ⟨a35, t35, e35, g35⟩ := str_of (own := RL) (k := 67) (len := 14) (byt := [98, 111, 116, 116, 111, 109, 32, 109, 105, 114, 114, 111, 114, 32]) (by decide) (fun w h => hn w (nar_s35 w h)) hA
  obtain ⟨a36, t36, e36, g36⟩ := str_of (own := RL) (k := 69) (len := 12) (byt := [98, 111, 116, 116, 111, 109, 32, 111, 112, 101, 110, 32]) (by decide) (fun w h => hn w (nar_s36 w h)) hA
  obtain ⟨a37, t37, e37, g37⟩ := str_of (own := RL) (k := 71) (len := 5) (byt := [115, 104, 111, 116, 32]) (by decide) (fun w h => hn w (nar_s37 w h)) hA
  obtain ⟨a38, t38, e38, g38⟩ := str_of (own := RL) (k := 73) (len := 6) (byt := [32, 100, 111, 119, 110, 32]) (by decide) (fun w h => hn w (nar_s38 w h)) hA
  obtain ⟨a39, t39, e39, g39⟩ := str_of (own := RL) (k := 75) (len := 4) (byt := [32, 117, 112, 32]) (by decide) (fun w h => hn w (nar_s39 w h)) hA
  obtain ⟨a10, e10⟩ := str_ref (hn _ (nar_e _ (List.mem_of_getElem? (i := 0) rfl)))
  obtain ⟨a11, e11⟩ := str_ref (hn _ (nar_e _ (List.mem_of_getElem? (i := 1) rfl)))
  obtain ⟨a12, e12⟩ := str_ref (hn _ (nar_e _ (List.mem_of_getElem? (i := 2) rfl)))
  obtain ⟨a13, e13⟩ := str_ref (hn _ (nar_e _ (List.mem_of_getElem? (i := 3) rfl)))
  obtain ⟨a14, e14⟩ := str_ref (hn _ (nar_e _ (List.mem_of_getElem? (i := 4) rfl)))
  obtain ⟨a15, e15⟩ := str_ref (hn _ (nar_e _ (List.mem_of_getElem? (i := 5) rfl)))
  obtain ⟨a16, e16⟩ := str_ref (hn _ (nar_e _ (List.mem_of_getElem? (i := 6) rfl)))
  obtain ⟨a19, e19⟩ := str_ref (hn _ (nar_e _ (List.mem_of_getElem? (i := 7) rfl)))
  obtain ⟨a20, e20⟩ := str_ref (hn _ (nar_e _ (List.mem_of_getElem? (i := 8) rfl)))
  obtain ⟨a21, e21⟩ := str_ref (hn _ (nar_e _ (List.mem_of_getElem? (i := 9) rfl)))
  obtain ⟨a22, e22⟩ := str_ref (hn _ (nar_e _ (List.mem_of_getElem? (i := 10) rfl)))
  obtain ⟨a23, e23⟩ := str_ref (hn _ (nar_e _ (List.mem_of_getElem? (i := 11) rfl)))
  obtain ⟨a24, e24⟩ := str_ref (hn _ (nar_e _ (List.mem_of_getElem? (i := 12) rfl)))
  obtain ⟨t40, e40, g40⟩ := dig_of (fun w h => hn w (nar_dt w h)) hA
  obtain ⟨t41, e41, g41⟩ := dig_of (fun w h => hn w (nar_do w h)) hA
  refine ⟨((fun k : Nat => [c0, c1, c2, c3, c4, c5, c6, c7, c8, c9, c10].getD k 0, fun k : Nat => [iS0, iS1, iS2, iS3, iS4, iS5, iS6, iS7, iS8, iS9, iS10].getD k (fun _ => 0)), fun k : Nat => [y0, y1, y0, y0, y0, y5, y6].getD k 0, s.heap, fun i : Nat => if i < 100 then [a0, a1, a2, a3, a4, a5, a6, a7, a8, a9, a10, a11, a12, a13, a14, a15, a16, 0, 0, a19, a20, a21, a22, a23, a24, 0, 0, 0, 0, 0, a30, a31, a32, a33, a34, a35, a36, a37, a38, a39].getD i 0 else (xs (i - 100)).toBitVec.toNat, fun i : Nat => [t0, t1, t2, t3, t4, t5, t6, t7, t8, t9, 0, 0, 0, 0, 0, 0, 0, 0, 0, 0, 0, 0, 0, 0, 0, 0, 0, 0, 0, 0, t30, t31, t32, t33, t34, t35, t36, t37, t38, t39, t40, t41, b, L].getD i 0), rfl, rfl, ⟨?_, ?_⟩, ?_, ?_, ⟨?_, ?_, ?_, ?_, ?_⟩, ⟨?_, ⟨⟨?_, ⟨⟨?_, ?_⟩, ?_, ?_⟩, ?_⟩, ?_⟩, ?_, ?_⟩, va_AO.of hO, fun _ => hO2, v0⟩
  · intro k q hq
    match k, hq with
    | 0, hq => cases hq; exact k0
    | 1, hq => cases hq; exact k1
    | 2, hq => cases hq; exact k2
    | 3, hq => cases hq; exact k3
    | 4, hq => cases hq; exact k4
    | 5, hq => cases hq; exact k5
    | 6, hq => cases hq; exact k6
    | 7, hq => cases hq; exact k7
    | 8, hq => cases hq; exact k8
    | 9, hq => cases hq; exact k9
    | 10, hq => cases hq; exact k10
    | k + 11, hq => cases hq
  · intro k q hq
    match k, hq with
    | 0, hq => cases hq; exact ⟨u0, v0⟩
    | 1, hq => cases hq; exact ⟨u1, v1⟩
    | 2, hq => cases hq; exact ⟨u0, v0⟩
    | 3, hq => cases hq; exact ⟨u0, v0⟩
    | 4, hq => cases hq; exact ⟨u0, v0⟩
    | 5, hq => cases hq; exact ⟨u5, v5⟩
    | 6, hq => cases hq; exact ⟨u6, v6⟩
    | k + 7, hq => cases hq
  · exact List.forall_mem_cons.mpr ⟨va_Nw.of rfl (hts _ (tbl_1 (List.mem_of_getElem? (i := 38) rfl))), List.forall_mem_cons.mpr ⟨va_Nw.of rfl (hts _ (tbl_1 (List.mem_of_getElem? (i := 54) rfl))), List.forall_mem_cons.mpr ⟨va_Nw.of rfl (hts _ (tbl_1 (List.mem_of_getElem? (i := 60) rfl))), List.forall_mem_cons.mpr ⟨va_Nw.of rfl (hts _ (tbl_1 (List.mem_of_getElem? (i := 104) rfl))), List.forall_mem_cons.mpr ⟨va_Nw.of rfl (hts _ (tbl_2 (List.mem_of_getElem? (i := 69) rfl))), List.forall_mem_cons.mpr ⟨va_Nw.of rfl (hts _ (tbl_4 (List.mem_of_getElem? (i := 131) rfl))), List.forall_mem_cons.mpr ⟨va_Nw.of rfl (hts _ (tbl_4 (List.mem_of_getElem? (i := 134) rfl))), List.forall_mem_cons.mpr ⟨va_Nw.of rfl (hts _ (tbl_5 (List.mem_of_getElem? (i := 26) rfl))), List.forall_mem_cons.mpr ⟨va_Nw.of rfl (hts _ (tbl_5 (List.mem_of_getElem? (i := 52) rfl))), List.forall_mem_cons.mpr ⟨va_Nw.of rfl (hts _ (tbl_5 (List.mem_of_getElem? (i := 154) rfl))), List.forall_mem_cons.mpr ⟨va_Nw.of rfl (hts _ (tbl_5 (List.mem_of_getElem? (i := 165) rfl))), fun _ h => absurd h List.not_mem_nil⟩⟩⟩⟩⟩⟩⟩⟩⟩⟩⟩
  · exact List.forall_mem_cons.mpr ⟨vk_R.of (hts (.stringRef RX2 51 "layer") (tbl_4 (List.mem_of_getElem? (i := 63) rfl))) e0, List.forall_mem_cons.mpr ⟨vk_R.of (hts (.stringRef RX2 96 "thick") (tbl_4 (List.mem_of_getElem? (i := 86) rfl))) e1, List.forall_mem_cons.mpr ⟨vk_R.of (hts (.stringRef RX2 101 "loss") (tbl_4 (List.mem_of_getElem? (i := 91) rfl))) e2, List.forall_mem_cons.mpr ⟨vk_R.of (hts (.stringRef RX2 73 "outside") (tbl_4 (List.mem_of_getElem? (i := 97) rfl))) e3, List.forall_mem_cons.mpr ⟨vk_R.of (hts (.stringRef RX2 78 "bottom") (tbl_4 (List.mem_of_getElem? (i := 102) rfl))) e4, List.forall_mem_cons.mpr ⟨vk_R.of (hts (.stringRef RX2 112 "mirror") (tbl_4 (List.mem_of_getElem? (i := 107) rfl))) e5, List.forall_mem_cons.mpr ⟨vk_R.of (hts (.stringRef RX2 114 "open") (tbl_4 (List.mem_of_getElem? (i := 108) rfl))) e6, List.forall_mem_cons.mpr ⟨vk_R.of (hts (.stringRef RX2 83 "shot") (tbl_4 (List.mem_of_getElem? (i := 110) rfl))) e7, List.forall_mem_cons.mpr ⟨vk_R.of (hts (.stringRef RX2 129 "down") (tbl_4 (List.mem_of_getElem? (i := 119) rfl))) e8, List.forall_mem_cons.mpr ⟨vk_R.of (hts (.stringRef RX2 131 "up") (tbl_4 (List.mem_of_getElem? (i := 120) rfl))) e9, List.forall_mem_cons.mpr ⟨vk_R.of (hts (.stringRef RX8 91 "the input buffer is full") (tbl_3 (List.mem_of_getElem? (i := 238) rfl))) e10, List.forall_mem_cons.mpr ⟨vk_R.of (hts (.stringRef RX8 347 "a value is out of range") (tbl_4 (List.mem_of_getElem? (i := 22) rfl))) e11, List.forall_mem_cons.mpr ⟨vk_R.of (hts (.stringRef RX8 142 "no such property") (tbl_4 (List.mem_of_getElem? (i := 159) rfl))) e12, List.forall_mem_cons.mpr ⟨vk_R.of (hts (.stringRef RX8 354 "no such layer") (tbl_4 (List.mem_of_getElem? (i := 178) rfl))) e13, List.forall_mem_cons.mpr ⟨vk_R.of (hts (.stringRef RX8 356 "no such shot") (tbl_5 (List.mem_of_getElem? (i := 16) rfl))) e14, List.forall_mem_cons.mpr ⟨vk_R.of (hts (.stringRef RX8 189 "no such number of a path") (tbl_5 (List.mem_of_getElem? (i := 124) rfl))) e15, List.forall_mem_cons.mpr ⟨vk_R.of (hts (.stringRef RX8 198 "no such leg") (tbl_5 (List.mem_of_getElem? (i := 160) rfl))) e16, List.forall_mem_cons.mpr ⟨vk_R.of (hts (.stringRef RX8 91 "the input buffer is full") (tbl_3 (List.mem_of_getElem? (i := 238) rfl))) e10, List.forall_mem_cons.mpr ⟨vk_R.of (hts (.stringRef RX8 91 "the input buffer is full") (tbl_3 (List.mem_of_getElem? (i := 238) rfl))) e10, List.forall_mem_cons.mpr ⟨vk_R.of (hts (.stringRef RX8 280 "no such place for a layer") (tbl_4 (List.mem_of_getElem? (i := 198) rfl))) e19, List.forall_mem_cons.mpr ⟨vk_R.of (hts (.stringRef RX8 282 "there is no room for a layer") (tbl_4 (List.mem_of_getElem? (i := 199) rfl))) e20, List.forall_mem_cons.mpr ⟨vk_R.of (hts (.stringRef RX8 284 "it is the only layer") (tbl_4 (List.mem_of_getElem? (i := 207) rfl))) e21, List.forall_mem_cons.mpr ⟨vk_R.of (hts (.stringRef RX8 362 "no such number of a layer") (tbl_4 (List.mem_of_getElem? (i := 219) rfl))) e22, List.forall_mem_cons.mpr ⟨vk_R.of (hts (.stringRef RX8 289 "both layers are the same") (tbl_5 (List.mem_of_getElem? (i := 109) rfl))) e23, List.forall_mem_cons.mpr ⟨vk_R.of (hts (.stringRef RX8 303 "there is no room for a shot") (tbl_5 (List.mem_of_getElem? (i := 7) rfl))) e24, List.forall_mem_cons.mpr ⟨vk_R.of (hts (.stringRef RX8 91 "the input buffer is full") (tbl_3 (List.mem_of_getElem? (i := 238) rfl))) e10, List.forall_mem_cons.mpr ⟨vk_R.of (hts (.stringRef RX8 91 "the input buffer is full") (tbl_3 (List.mem_of_getElem? (i := 238) rfl))) e10, List.forall_mem_cons.mpr ⟨vk_R.of (hts (.stringRef RX8 91 "the input buffer is full") (tbl_3 (List.mem_of_getElem? (i := 238) rfl))) e10, List.forall_mem_cons.mpr ⟨vk_R.of (hts (.stringRef RX8 91 "the input buffer is full") (tbl_3 (List.mem_of_getElem? (i := 238) rfl))) e10, List.forall_mem_cons.mpr ⟨vk_R.of (hts (.stringRef RX8 91 "the input buffer is full") (tbl_3 (List.mem_of_getElem? (i := 238) rfl))) e10, List.forall_mem_cons.mpr ⟨vk_R.of (hts (.stringRef RL 51 "layer ") (tbl_2 (List.mem_of_getElem? (i := 147) rfl))) e30, List.forall_mem_cons.mpr ⟨vk_R.of (hts (.stringRef RL 59 " thick ") (tbl_3 (List.mem_of_getElem? (i := 53) rfl))) e31, List.forall_mem_cons.mpr ⟨vk_R.of (hts (.stringRef RL 61 " loss ") (tbl_3 (List.mem_of_getElem? (i := 54) rfl))) e32, List.forall_mem_cons.mpr ⟨vk_R.of (hts (.stringRef RL 63 ";") (tbl_3 (List.mem_of_getElem? (i := 55) rfl))) e33, List.forall_mem_cons.mpr ⟨vk_R.of (hts (.stringRef RL 65 "outside ") (tbl_3 (List.mem_of_getElem? (i := 56) rfl))) e34, List.forall_mem_cons.mpr ⟨vk_R.of (hts (.stringRef RL 67 "bottom mirror ") (tbl_3 (List.mem_of_getElem? (i := 57) rfl))) e35, List.forall_mem_cons.mpr ⟨vk_R.of (hts (.stringRef RL 69 "bottom open ") (tbl_3 (List.mem_of_getElem? (i := 58) rfl))) e36, List.forall_mem_cons.mpr ⟨vk_R.of (hts (.stringRef RL 71 "shot ") (tbl_3 (List.mem_of_getElem? (i := 59) rfl))) e37, List.forall_mem_cons.mpr ⟨vk_R.of (hts (.stringRef RL 73 " down ") (tbl_3 (List.mem_of_getElem? (i := 60) rfl))) e38, List.forall_mem_cons.mpr ⟨vk_R.of (hts (.stringRef RL 75 " up ") (tbl_3 (List.mem_of_getElem? (i := 61) rfl))) e39, fun _ h => absurd h List.not_mem_nil⟩⟩⟩⟩⟩⟩⟩⟩⟩⟩⟩⟩⟩⟩⟩⟩⟩⟩⟩⟩⟩⟩⟩⟩⟩⟩⟩⟩⟩⟩⟩⟩⟩⟩⟩⟩⟩⟩⟩⟩
  · exact vx_Zqof (hts (.laysStatic "java/lang/Throwable" "UNASSIGNED_STACK" "[Ljava/lang/StackTraceElement;") (tbl_3 (List.mem_of_getElem? (i := 125) rfl))) (hts (.initialized "java/lang/Throwable") (tbl_1 (List.mem_of_getElem? (i := 22) rfl))) (hn _ (nar_z _ (List.mem_of_getElem? (i := 2) rfl))) hA
  · exact vx_Zqof (hts (.laysStatic "java/lang/Throwable" "SUPPRESSED_SENTINEL" "Ljava/util/List;") (tbl_3 (List.mem_of_getElem? (i := 127) rfl))) (hts (.initialized "java/lang/Throwable") (tbl_1 (List.mem_of_getElem? (i := 22) rfl))) (hn _ (nar_z _ (List.mem_of_getElem? (i := 3) rfl))) hA
  · exact List.forall_mem_cons.mpr ⟨va_Nw.of rfl (hts (.castable "java/lang/IndexOutOfBoundsException" "java/lang/IndexOutOfBoundsException") (tbl_4 (List.mem_of_getElem? (i := 171) rfl))), List.forall_mem_cons.mpr ⟨va_Nw.of rfl (hts (.castable "java/lang/IllegalArgumentException" "java/lang/IllegalArgumentException") (tbl_3 (List.mem_of_getElem? (i := 100) rfl))), List.forall_mem_cons.mpr ⟨va_Nw.of rfl (hts (.castable "java/lang/IllegalStateException" "java/lang/IllegalStateException") (tbl_3 (List.mem_of_getElem? (i := 231) rfl))), fun _ h => absurd h List.not_mem_nil⟩⟩⟩
  · exact List.forall_mem_cons.mpr ⟨List.forall_mem_cons.mpr ⟨fun _ => va_Nc.of (hn _ (nar_c _ (List.mem_of_getElem? (i := 0) rfl))), List.forall_mem_cons.mpr ⟨fun _ => va_Nc.of (hn _ (nar_c _ (List.mem_of_getElem? (i := 1) rfl))), fun _ h => absurd h List.not_mem_nil⟩⟩, List.forall_mem_cons.mpr ⟨List.forall_mem_cons.mpr ⟨fun h => absurd rfl h, List.forall_mem_cons.mpr ⟨fun _ => va_Nc.of (hn _ (nar_c _ (List.mem_of_getElem? (i := 2) rfl))), fun _ h => absurd h List.not_mem_nil⟩⟩, List.forall_mem_cons.mpr ⟨List.forall_mem_cons.mpr ⟨fun _ => va_Nc.of (hn _ (nar_c _ (List.mem_of_getElem? (i := 3) rfl))), List.forall_mem_cons.mpr ⟨fun h => absurd rfl h, fun _ h => absurd h List.not_mem_nil⟩⟩, fun _ h => absurd h List.not_mem_nil⟩⟩⟩
  · exact List.forall_mem_cons.mpr ⟨va_Nw.of rfl (hts _ (tbl_3 (List.mem_of_getElem? (i := 102) rfl))), List.forall_mem_cons.mpr ⟨va_Nw.of rfl (hts _ (tbl_3 (List.mem_of_getElem? (i := 104) rfl))), List.forall_mem_cons.mpr ⟨va_Nw.of rfl (hts _ (tbl_3 (List.mem_of_getElem? (i := 106) rfl))), fun _ h => absurd h List.not_mem_nil⟩⟩⟩
  · intro i hi
    match i, hi with
    | 0, _ => exact g0
    | 1, _ => exact g1
    | 2, _ => exact g2
    | 3, _ => exact g3
    | 4, _ => exact g4
    | 5, _ => exact g5
    | 6, _ => exact g6
    | 7, _ => exact g7
    | 8, _ => exact g8
    | 9, _ => exact g9
    | i + 10, h => exact absurd h (by omega)
  · intro i hi h3
    match i, hi, h3 with
    | 0, _, h3 => exact absurd h3 (by decide)
    | 1, _, h3 => exact absurd h3 (by decide)
    | 2, _, h3 => exact absurd h3 (by decide)
    | 3, _, h3 => exact absurd h3 (by decide)
    | 4, _, h3 => exact absurd h3 (by decide)
    | 5, _, h3 => exact absurd h3 (by decide)
    | 6, _, h3 => exact absurd h3 (by decide)
    | 7, _, h3 => exact absurd h3 (by decide)
    | 8, _, h3 => exact absurd h3 (by decide)
    | 9, _, h3 => exact absurd h3 (by decide)
    | 10, _, h3 => exact absurd h3 (by decide)
    | 11, _, h3 => exact absurd h3 (by decide)
    | 12, _, h3 => exact absurd h3 (by decide)
    | 13, _, h3 => exact absurd h3 (by decide)
    | 14, _, h3 => exact absurd h3 (by decide)
    | 15, _, h3 => exact absurd h3 (by decide)
    | 16, _, h3 => exact absurd h3 (by decide)
    | 17, _, h3 => exact absurd h3 (by decide)
    | 18, _, h3 => exact absurd h3 (by decide)
    | 19, _, h3 => exact absurd h3 (by decide)
    | 20, _, h3 => exact absurd h3 (by decide)
    | 21, _, h3 => exact absurd h3 (by decide)
    | 22, _, h3 => exact absurd h3 (by decide)
    | 23, _, h3 => exact absurd h3 (by decide)
    | 24, _, h3 => exact absurd h3 (by decide)
    | 25, _, h3 => exact absurd h3 (by decide)
    | 26, _, h3 => exact absurd h3 (by decide)
    | 27, _, h3 => exact absurd h3 (by decide)
    | 28, _, h3 => exact absurd h3 (by decide)
    | 29, _, h3 => exact absurd h3 (by decide)
    | 30, _, _ => exact g30
    | 31, _, _ => exact g31
    | 32, _, _ => exact g32
    | 33, _, _ => exact g33
    | 34, _, _ => exact g34
    | 35, _, _ => exact g35
    | 36, _, _ => exact g36
    | 37, _, _ => exact g37
    | 38, _, _ => exact g38
    | 39, _, _ => exact g39
    | i + 40, h, _ => exact absurd h (by omega)
  · exact va_Zof (hts (.laysStatic "java/lang/Integer" "DigitTens" "[B") (tbl_3 (List.mem_of_getElem? (i := 44) rfl))) (hts (.initialized "java/lang/Integer") (tbl_1 (List.mem_of_getElem? (i := 21) rfl))) e40 hA
  · exact g40
  · exact va_Zof (hts (.laysStatic "java/lang/Integer" "DigitOnes" "[B") (tbl_3 (List.mem_of_getElem? (i := 42) rfl))) (hts (.initialized "java/lang/Integer") (tbl_1 (List.mem_of_getElem? (i := 21) rfl))) e41 hA
  · exact g41
  · refine ⟨hL, ?_⟩
    obtain ⟨scr, x1, x2, x3, x4, x5⟩ := hX
    refine ⟨scr, x1, x2, x3, Nat.le_of_eq x4.symm, (congrArg Nat.toInt32 x4 : _), fun j hj => ?_, hA b hbl⟩
    refine (x5 j hj).trans ?_
    show some (Value.int (xs j)) = some (Value.int (Int32.ofNat (if 100 + j < 100 then _ else (xs (100 + j - 100)).toBitVec.toNat)))
    rw [if_neg (by omega), Nat.add_sub_cancel_left, ofN_nat]
  · exact va_Nw.of rfl (hts (.castable "[B" "java/lang/Cloneable") (tbl_2 (List.mem_of_getElem? (i := 186) rfl)))
  · exact va_Zof (hts (.laysStatic "java/lang/String" "COMPACT_STRINGS" "Z") (tbl_2 (List.mem_of_getElem? (i := 123) rfl))) (hts (.initialized "java/lang/String") (tbl_1 (List.mem_of_getElem? (i := 12) rfl))) (va_eqi (hn _ (nar_z _ (List.mem_of_getElem? (i := 0) rfl)))) hA
  · exact va_Zqof (hts (.laysStatic "jdk/internal/util/Preconditions" "SIOOBE_FORMATTER" "Ljava/util/function/BiFunction;") (tbl_2 (List.mem_of_getElem? (i := 212) rfl))) (hts (.initialized "jdk/internal/util/Preconditions") (tbl_1 (List.mem_of_getElem? (i := 18) rfl))) (hn _ (nar_z _ (List.mem_of_getElem? (i := 1) rfl))) hA
