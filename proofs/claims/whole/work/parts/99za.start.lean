/-! ===== what never changes, out of the tables and of what is given of the start ===== -/
def strC (own : String) (k len : Nat) (byt : List Int32) : List Cond := [Cond.exactly (Term.string own k) "java/lang/String", Cond.eq (.field (Term.string own k) "java/lang/String" "coder" "B") (.int 0), Cond.arrayOf (.field (Term.string own k) "java/lang/String" "value" "[B") .byte, Cond.eq (.length (.field (Term.string own k) "java/lang/String" "value" "[B")) (.int (Int32.ofNat len))] ++ (List.range len).map (fun j => Cond.eq (.elem (.field (Term.string own k) "java/lang/String" "value" "[B") (.int (Int32.ofNat j))) (.int (byt.getD j 0)))
theorem str_ref {args : Array Value} {s : State} {own : String} {k : Nat} (h : (Cond.exactly (Term.string own k) "java/lang/String").before args s = true) : ∃ a : Nat, (Term.string own k).eval args s none [] s = some (.ref a) := by
  obtain ⟨a, c, cA, kA, q1, -⟩ := Cond.exactly_spec (args := args) (first := s) (o := none) (s := s) (idx := []) (t := Term.string own k) (cls := "java/lang/String") h
  exact ⟨a, q1⟩
theorem str_of {args : Array Value} {s : State} {own : String} {k len : Nat} {byt : List Int32} {A : Nat → Prop} (hlen : len < 2 ^ 31) (h : ∀ w ∈ strC own k len byt, w.before args s = true) (hA : ∀ a : Nat, a < s.heap.size → ¬ A a) : ∃ a t : Nat, (Term.string own k).eval args s none [] s = some (.ref a) ∧ va_O "java/lang/String" a A s s.heap ∧ va_OF "java/lang/String" "coder" "B" (.int 0) a A s s.heap ∧ va_OF "java/lang/String" "value" "[B" (.ref t) a A s s.heap ∧ va_T .byte t len (fun j => .int (byt.getD j 0)) A s s.heap := by
  have h1 := h _ (List.mem_append_left _ (List.mem_of_getElem? (i := 0) rfl))
  have h2 := h _ (List.mem_append_left _ (List.mem_of_getElem? (i := 1) rfl))
  have h3 := h _ (List.mem_append_left _ (List.mem_of_getElem? (i := 2) rfl))
  have h4 := h _ (List.mem_append_left _ (List.mem_of_getElem? (i := 3) rfl))
  obtain ⟨a, c, cA, kA, q1, q2, q3, q4, q5, q6, -⟩ := Cond.exactly_spec (args := args) (first := s) (o := none) (s := s) (idx := []) (t := Term.string own k) (cls := "java/lang/String") h1
  obtain ⟨t, ht, hT⟩ := va_Tof (f := fun j => .int (byt.getD j 0)) (A := A) hlen h3 (va_eqt h4) (fun j hj => va_eqt (h _ (List.mem_append_right _ (List.mem_map.mpr ⟨j, List.mem_range.mpr hj, rfl⟩)))) hA
  exact ⟨a, t, q1, ⟨cA, q3, q5, by rw [q6]; exact q2, hA a (Array.getElem?_eq_some_iff.mp q3).1⟩, vk_OFof q1 (va_eqt h2) hA, vk_OFof q1 ht hA, hT⟩
theorem arr_of {args : Array Value} {s : State} {ty : FieldType} (h : (Cond.arrayClass ty).before args s = true) : ∃ cA : ClassId, ArrOfT s cA ty ∧ s.vm.findClass ("[" ++ ty.toString) = some cA := by
  obtain ⟨c, k, comp, h1, h2, h3⟩ := Cond.arrayClass_spec h
  exact ⟨c, fun n z => ⟨fun k h => (by cases h), k, h2, comp, h3⟩, h1⟩
theorem arr_ofO {args : Array Value} {s : State} {C : String} (h : (Cond.arrayOver (.object C)).before args s = true) : ∃ cA : ClassId, ArrOfT s cA (.object C) ∧ va_RA s cA (.object C) := by
  obtain ⟨comp, c, k, h1, -, h2, h3, h4⟩ := Cond.arrayOver_spec h
  exact ⟨c, fun n z => ⟨fun k h => (by cases h), k, h2, comp, h3⟩, k, comp, h2, h3, h1, h4⟩
theorem arr_ofA {args : Array Value} {s : State} {ty : FieldType} (h : (Cond.arrayOver (.array ty)).before args s = true) : ∃ cA : ClassId, ArrOfT s cA (.array ty) ∧ s.vm.findClass ("[" ++ (FieldType.array ty).toString) = some cA := by
  unfold Cond.before Cond.holds at h
  simp only [Cond.value] at h
  cases hc : s.vm.findClass (FieldType.array ty).toString with
  | none => rw [hc] at h; simp at h
  | some comp =>
    rw [hc, Option.bind_some] at h
    cases hi : (s.vm.classes.findIdx? fun (x : Class) => match x.kind with | .array component _ => component == comp | _ => false) with
    | none => exact absurd ((congrArg (fun o : Option Nat => (o.bind (fun c => (s.vm.classes[c]?).map fun (k : Class) => match k.kind with | .array _ ty1 => decide (ty1 = FieldType.array ty) && decide (s.vm.findClass ("[" ++ (FieldType.array ty).toString) = some c) | _ => false) == some true)) hi).symm.trans h) (by simp)
    | some c =>
      have h1 := (congrArg (fun o : Option Nat => (o.bind (fun c => (s.vm.classes[c]?).map fun (k : Class) => match k.kind with | .array _ ty1 => decide (ty1 = FieldType.array ty) && decide (s.vm.findClass ("[" ++ (FieldType.array ty).toString) = some c) | _ => false) == some true)) hi).symm.trans h
      cases hk : s.vm.classes[c]? with
      | none => rw [Option.bind_some, hk] at h1; simp at h1
      | some k =>
        rw [Option.bind_some, hk, Option.map_some] at h1
        cases hkk : k.kind with
        | array comp2 ty1 =>
          rw [hkk] at h1
          simp only [beq_iff_eq, Option.some.injEq, Bool.and_eq_true, decide_eq_true_eq] at h1
          obtain ⟨rfl, h3⟩ := h1
          exact ⟨c, fun n z => ⟨fun k h => (by cases h), k, hk, comp2, hkk⟩, h3⟩
        | _ => rw [hkk] at h1; simp at h1
theorem nar_s0 : ∀ w ∈ (strC RX2 51 5 [108, 97, 121, 101, 114]) ++ (strC RX2 96 5 [116, 104, 105, 99, 107]) ++ (strC RX2 101 4 [108, 111, 115, 115]) ++ (strC RX2 73 7 [111, 117, 116, 115, 105, 100, 101]), w ∈ flatC (Cond.and given_1 narrow_1) := by decide +kernel
theorem nar_s1 : ∀ w ∈ (strC RX2 78 6 [98, 111, 116, 116, 111, 109]) ++ (strC RX2 112 6 [109, 105, 114, 114, 111, 114]) ++ (strC RX2 114 4 [111, 112, 101, 110]) ++ (strC RX2 83 4 [115, 104, 111, 116]), w ∈ flatC (Cond.and given_1 narrow_1) := by decide +kernel
theorem nar_s2 : ∀ w ∈ (strC RX2 129 4 [100, 111, 119, 110]) ++ (strC RX2 131 2 [117, 112]) ++ (strC RX8 329 5 [116, 98, 97, 114, 110]), w ∈ flatC (Cond.and given_1 narrow_1) := by decide +kernel
theorem nar_e : ∀ w ∈ [Cond.exactly (Term.string RX8 91) "java/lang/String", Cond.exactly (Term.string RX8 347) "java/lang/String", Cond.exactly (Term.string RX8 142) "java/lang/String", Cond.exactly (Term.string RX8 354) "java/lang/String", Cond.exactly (Term.string RX8 356) "java/lang/String", Cond.exactly (Term.string RX8 189) "java/lang/String", Cond.exactly (Term.string RX8 198) "java/lang/String", Cond.exactly (Term.string RX8 349) "java/lang/String", Cond.exactly (Term.string RX8 360) "java/lang/String", Cond.exactly (Term.string RX8 280) "java/lang/String", Cond.exactly (Term.string RX8 282) "java/lang/String", Cond.exactly (Term.string RX8 284) "java/lang/String", Cond.exactly (Term.string RX8 362) "java/lang/String", Cond.exactly (Term.string RX8 289) "java/lang/String", Cond.exactly (Term.string RX8 303) "java/lang/String", Cond.exactly (Term.string RX8 358) "java/lang/String", Cond.exactly (Term.string RX8 312) "java/lang/String", Cond.exactly (Term.string RX8 317) "java/lang/String", Cond.exactly (Term.string RX8 344) "java/lang/String"], w ∈ flatC (Cond.and given_1 narrow_1) := by decide +kernel
theorem nar_q : ∀ w ∈ [Cond.eq (Term.string RX2 51) (Term.string RX9 299), Cond.eq (Term.string RX2 96) (Term.string RX9 272), Cond.eq (Term.string RX2 101) (Term.string RX9 278), Cond.eq (Term.string RX2 73) (Term.string RX9 304), Cond.eq (Term.string RX2 78) (Term.string RX9 309), Cond.eq (Term.string RX2 114) (Term.string RX9 289), Cond.eq (Term.string RX2 112) (Term.string RX9 291), Cond.eq (Term.string RX2 83) (Term.string RX9 314), Cond.eq (Term.string RX2 129) (Term.string RX9 292), Cond.eq (Term.string RX2 131) (Term.string RX9 294), Cond.eq (Term.string RX8 329) (Term.string RX9 456)], w ∈ flatC (Cond.and given_1 narrow_1) := by decide +kernel
theorem nar_c : ∀ w ∈ [Cond.not (.castable "java/lang/IndexOutOfBoundsException" "java/lang/IllegalArgumentException"), Cond.not (.castable "java/lang/IndexOutOfBoundsException" "java/lang/IllegalStateException"), Cond.not (.castable "java/lang/IndexOutOfBoundsException" "java/util/NoSuchElementException"), Cond.not (.castable "java/lang/IllegalArgumentException" "java/lang/IndexOutOfBoundsException"), Cond.not (.castable "java/lang/IllegalArgumentException" "java/lang/IllegalStateException"), Cond.not (.castable "java/lang/IllegalArgumentException" "java/util/NoSuchElementException"), Cond.not (.castable "java/lang/IllegalStateException" "java/lang/IndexOutOfBoundsException"), Cond.not (.castable "java/lang/IllegalStateException" "java/lang/IllegalArgumentException"), Cond.not (.castable "java/lang/IllegalStateException" "java/util/NoSuchElementException"), Cond.not (.castable "java/util/NoSuchElementException" "java/lang/IndexOutOfBoundsException"), Cond.not (.castable "java/util/NoSuchElementException" "java/lang/IllegalArgumentException"), Cond.not (.castable "java/util/NoSuchElementException" "java/lang/IllegalStateException")], w ∈ flatC (Cond.and given_1 narrow_1) := by decide +kernel
theorem nar_z : ∀ w ∈ [Cond.eq (.static "java/lang/String" "COMPACT_STRINGS" "Z") (.int 1), Cond.isRef (.static "jdk/internal/util/Preconditions" "SIOOBE_FORMATTER" "Ljava/util/function/BiFunction;"), Cond.isRef (.static "java/lang/Throwable" "UNASSIGNED_STACK" "[Ljava/lang/StackTraceElement;"), Cond.isRef (.static "java/lang/Throwable" "SUPPRESSED_SENTINEL" "Ljava/util/List;")], w ∈ flatC (Cond.and given_1 narrow_1) := by decide +kernel
set_option maxHeartbeats 4000000 in
set_option maxRecDepth 100000 in
theorem lw_K {s : State} {b : Nat} (hts : ∀ w ∈ lw_tbl, w.before #[Value.ref b] s = true) (hgv : (Cond.and given_1 narrow_1).before #[Value.ref b] s = true) : ∃ K : KC, K.2.2.1 = s.heap ∧ gOK K s := by
  have hn := flat_of_before _ hgv
  have hA : ∀ a : Nat, a < s.heap.size → ¬ (fun q : Nat => s.heap.size ≤ q) a := fun a h => Nat.not_le.mpr h
  obtain ⟨c0, iS0, k0⟩ := u_known (C := RX0) (T := TX0) (N := 2) (n := 2) hts inX0 (hts (.instantiable RX0 2) (tbl_1 (List.mem_of_getElem? (i := 34) rfl)))
  obtain ⟨c1, iS1, k1⟩ := u_known (C := RX1) (T := TX1) (N := 3) (n := 3) hts inX1 (hts (.instantiable RX1 3) (tbl_1 (List.mem_of_getElem? (i := 102) rfl)))
  obtain ⟨c2, iS2, k2⟩ := u_known (C := RX2) (T := TX2) (N := 10) (n := 10) hts inX2 (hts (.instantiable RX2 10) (tbl_2 (List.mem_of_getElem? (i := 31) rfl)))
  obtain ⟨c3, iS3, k3⟩ := u_known (C := RX3) (T := TX3) (N := 4) (n := 4) hts inX3 (hts (.instantiable RX3 4) (tbl_1 (List.mem_of_getElem? (i := 202) rfl)))
  obtain ⟨c4, iS4, k4⟩ := u_known (C := RX4) (T := TX4) (N := 18) (n := 18) hts inX4 (hts (.instantiable RX4 18) (tbl_1 (List.mem_of_getElem? (i := 121) rfl)))
  obtain ⟨c5, iS5, k5⟩ := u_known (C := RX5) (T := TX5) (N := 5) (n := 5) hts inX5 (hts (.instantiable RX5 5) (tbl_1 (List.mem_of_getElem? (i := 50) rfl)))
  obtain ⟨c6, iS6, k6⟩ := u_known (C := RX6) (T := TX6) (N := 11) (n := 11) hts inX6 (hts (.instantiable RX6 11) (tbl_1 (List.mem_of_getElem? (i := 227) rfl)))
  obtain ⟨c7, iS7, k7⟩ := u_known (C := RX7) (T := TX7) (N := 2) (n := 2) hts inX7 (hts (.instantiable RX7 2) (tbl_1 (List.mem_of_getElem? (i := 56) rfl)))
  obtain ⟨c8, iS8, k8⟩ := u_known (C := RX8) (T := TX8) (N := 11) (n := 11) hts inX8 (hts (.instantiable RX8 11) (tbl_1 (List.mem_of_getElem? (i := 26) rfl)))
  obtain ⟨c9, iS9, k9⟩ := u_known (C := RX9) (T := TX9) (N := 41) (n := 41) hts inX9 (hts (.instantiable RX9 41) (tbl_6 (List.mem_of_getElem? (i := 74) rfl)))
  obtain ⟨y0, u0, v0⟩ := arr_of (hts (.arrayClass .int) (tbl_1 (List.mem_of_getElem? (i := 73) rfl)))
  obtain ⟨y1, u1, v1⟩ := arr_of (hts (.arrayClass .byte) (tbl_1 (List.mem_of_getElem? (i := 48) rfl)))
  obtain ⟨y2, u2, v2⟩ := arr_of (hts (.arrayClass .boolean) (tbl_6 (List.mem_of_getElem? (i := 219) rfl)))
  obtain ⟨y3, u3, v3⟩ := arr_of (hts (.arrayClass .long) (tbl_9 (List.mem_of_getElem? (i := 0) rfl)))
  obtain ⟨y4, u4, v4⟩ := arr_of (hts (.arrayClass .double) (tbl_9 (List.mem_of_getElem? (i := 1) rfl)))
  have hO := hts (.arrayOver (.object "RayLayers$Scene")) (tbl_1 (List.mem_of_getElem? (i := 108) rfl))
  have hO2 := hts (.arrayOver (.array .int)) (tbl_1 (List.mem_of_getElem? (i := 208) rfl))
  obtain ⟨y5, u5, v5⟩ := arr_ofO hO
  obtain ⟨y6, u6, v6⟩ := arr_ofA hO2
  obtain ⟨a0, t0, e0, g0⟩ := str_of (own := RX2) (k := 51) (len := 5) (byt := [108, 97, 121, 101, 114]) (by decide) (fun w h => hn w (nar_s0 w (List.mem_append_left _ (List.mem_append_left _ (List.mem_append_left _ (h)))))) hA
  obtain ⟨a1, t1, e1, g1⟩ := str_of (own := RX2) (k := 96) (len := 5) (byt := [116, 104, 105, 99, 107]) (by decide) (fun w h => hn w (nar_s0 w (List.mem_append_left _ (List.mem_append_left _ (List.mem_append_right _ (h)))))) hA
  obtain ⟨a2, t2, e2, g2⟩ := str_of (own := RX2) (k := 101) (len := 4) (byt := [108, 111, 115, 115]) (by decide) (fun w h => hn w (nar_s0 w (List.mem_append_left _ (List.mem_append_right _ (h))))) hA
  obtain ⟨a3, t3, e3, g3⟩ := str_of (own := RX2) (k := 73) (len := 7) (byt := [111, 117, 116, 115, 105, 100, 101]) (by decide) (fun w h => hn w (nar_s0 w (List.mem_append_right _ (h)))) hA
  obtain ⟨a4, t4, e4, g4⟩ := str_of (own := RX2) (k := 78) (len := 6) (byt := [98, 111, 116, 116, 111, 109]) (by decide) (fun w h => hn w (nar_s1 w (List.mem_append_left _ (List.mem_append_left _ (List.mem_append_left _ (h)))))) hA
  obtain ⟨a5, t5, e5, g5⟩ := str_of (own := RX2) (k := 112) (len := 6) (byt := [109, 105, 114, 114, 111, 114]) (by decide) (fun w h => hn w (nar_s1 w (List.mem_append_left _ (List.mem_append_left _ (List.mem_append_right _ (h)))))) hA
  obtain ⟨a6, t6, e6, g6⟩ := str_of (own := RX2) (k := 114) (len := 4) (byt := [111, 112, 101, 110]) (by decide) (fun w h => hn w (nar_s1 w (List.mem_append_left _ (List.mem_append_right _ (h))))) hA
  obtain ⟨a7, t7, e7, g7⟩ := str_of (own := RX2) (k := 83) (len := 4) (byt := [115, 104, 111, 116]) (by decide) (fun w h => hn w (nar_s1 w (List.mem_append_right _ (h)))) hA
  obtain ⟨a8, t8, e8, g8⟩ := str_of (own := RX2) (k := 129) (len := 4) (byt := [100, 111, 119, 110]) (by decide) (fun w h => hn w (nar_s2 w (List.mem_append_left _ (List.mem_append_left _ (h))))) hA
  obtain ⟨a9, t9, e9, g9⟩ := str_of (own := RX2) (k := 131) (len := 2) (byt := [117, 112]) (by decide) (fun w h => hn w (nar_s2 w (List.mem_append_left _ (List.mem_append_right _ (h))))) hA
  obtain ⟨a28, t28, e28, g28⟩ := str_of (own := RX8) (k := 329) (len := 5) (byt := [116, 98, 97, 114, 110]) (by decide) (fun w h => hn w (nar_s2 w (List.mem_append_right _ (h)))) hA
  obtain ⟨a10, e10⟩ := str_ref (hn _ (nar_e _ (List.mem_of_getElem? (i := 0) rfl)))
  obtain ⟨a11, e11⟩ := str_ref (hn _ (nar_e _ (List.mem_of_getElem? (i := 1) rfl)))
  obtain ⟨a12, e12⟩ := str_ref (hn _ (nar_e _ (List.mem_of_getElem? (i := 2) rfl)))
  obtain ⟨a13, e13⟩ := str_ref (hn _ (nar_e _ (List.mem_of_getElem? (i := 3) rfl)))
  obtain ⟨a14, e14⟩ := str_ref (hn _ (nar_e _ (List.mem_of_getElem? (i := 4) rfl)))
  obtain ⟨a15, e15⟩ := str_ref (hn _ (nar_e _ (List.mem_of_getElem? (i := 5) rfl)))
  obtain ⟨a16, e16⟩ := str_ref (hn _ (nar_e _ (List.mem_of_getElem? (i := 6) rfl)))
  obtain ⟨a17, e17⟩ := str_ref (hn _ (nar_e _ (List.mem_of_getElem? (i := 7) rfl)))
  obtain ⟨a18, e18⟩ := str_ref (hn _ (nar_e _ (List.mem_of_getElem? (i := 8) rfl)))
  obtain ⟨a19, e19⟩ := str_ref (hn _ (nar_e _ (List.mem_of_getElem? (i := 9) rfl)))
  obtain ⟨a20, e20⟩ := str_ref (hn _ (nar_e _ (List.mem_of_getElem? (i := 10) rfl)))
  obtain ⟨a21, e21⟩ := str_ref (hn _ (nar_e _ (List.mem_of_getElem? (i := 11) rfl)))
  obtain ⟨a22, e22⟩ := str_ref (hn _ (nar_e _ (List.mem_of_getElem? (i := 12) rfl)))
  obtain ⟨a23, e23⟩ := str_ref (hn _ (nar_e _ (List.mem_of_getElem? (i := 13) rfl)))
  obtain ⟨a24, e24⟩ := str_ref (hn _ (nar_e _ (List.mem_of_getElem? (i := 14) rfl)))
  obtain ⟨a25, e25⟩ := str_ref (hn _ (nar_e _ (List.mem_of_getElem? (i := 15) rfl)))
  obtain ⟨a26, e26⟩ := str_ref (hn _ (nar_e _ (List.mem_of_getElem? (i := 16) rfl)))
  obtain ⟨a27, e27⟩ := str_ref (hn _ (nar_e _ (List.mem_of_getElem? (i := 17) rfl)))
  obtain ⟨a29, e29⟩ := str_ref (hn _ (nar_e _ (List.mem_of_getElem? (i := 18) rfl)))
  have f0 := va_eqR (hn _ (nar_q _ (List.mem_of_getElem? (i := 0) rfl))) e0
  have f1 := va_eqR (hn _ (nar_q _ (List.mem_of_getElem? (i := 1) rfl))) e1
  have f2 := va_eqR (hn _ (nar_q _ (List.mem_of_getElem? (i := 2) rfl))) e2
  have f3 := va_eqR (hn _ (nar_q _ (List.mem_of_getElem? (i := 3) rfl))) e3
  have f4 := va_eqR (hn _ (nar_q _ (List.mem_of_getElem? (i := 4) rfl))) e4
  have f6 := va_eqR (hn _ (nar_q _ (List.mem_of_getElem? (i := 5) rfl))) e6
  have f5 := va_eqR (hn _ (nar_q _ (List.mem_of_getElem? (i := 6) rfl))) e5
  have f7 := va_eqR (hn _ (nar_q _ (List.mem_of_getElem? (i := 7) rfl))) e7
  have f8 := va_eqR (hn _ (nar_q _ (List.mem_of_getElem? (i := 8) rfl))) e8
  have f9 := va_eqR (hn _ (nar_q _ (List.mem_of_getElem? (i := 9) rfl))) e9
  have f28 := va_eqR (hn _ (nar_q _ (List.mem_of_getElem? (i := 10) rfl))) e28
  refine ⟨((fun k : Nat => [c0, c1, c2, c3, c4, c5, c6, c7, c8, c9].getD k 0, fun k : Nat => [iS0, iS1, iS2, iS3, iS4, iS5, iS6, iS7, iS8, iS9].getD k (fun _ => 0)), fun k : Nat => [y0, y1, y2, y3, y4, y5, y6].getD k 0, s.heap, fun i : Nat => [a0, a1, a2, a3, a4, a5, a6, a7, a8, a9, a10, a11, a12, a13, a14, a15, a16, a17, a18, a19, a20, a21, a22, a23, a24, a25, a26, a27, a28, a29].getD i 0, fun i : Nat => [t0, t1, t2, t3, t4, t5, t6, t7, t8, t9, 0, 0, 0, 0, 0, 0, 0, 0, 0, 0, 0, 0, 0, 0, 0, 0, 0, 0, t28].getD i 0), rfl, ⟨?_, ?_⟩, ?_, ?_, ⟨?_, ?_, ?_, ?_, ?_⟩, ⟨?_, ?_, ?_, ?_⟩, va_AO.of hO, fun _ => hO2, v0⟩
  · intro k q hq
    match k, hq with
    | 0, hq => cases hq; exact k0
    | 1, hq => cases hq; exact k1
    | 2, hq => cases hq; exact k2
    | 3, hq => cases hq; exact k3
    | 4, hq => cases hq; exact k4
    | 5, hq => cases hq; exact k5
    | 6, hq => cases hq; exact k6
    | 7, hq => cases hq; exact k7
    | 8, hq => cases hq; exact k8
    | 9, hq => cases hq; exact k9
    | k + 10, hq => cases hq
  · intro k q hq
    match k, hq with
    | 0, hq => cases hq; exact ⟨u0, v0⟩
    | 1, hq => cases hq; exact ⟨u1, v1⟩
    | 2, hq => cases hq; exact ⟨u2, v2⟩
    | 3, hq => cases hq; exact ⟨u3, v3⟩
    | 4, hq => cases hq; exact ⟨u4, v4⟩
    | 5, hq => cases hq; exact ⟨u5, v5⟩
    | 6, hq => cases hq; exact ⟨u6, v6⟩
    | k + 7, hq => cases hq
  · exact List.forall_mem_cons.mpr ⟨va_Nw.of rfl (hts _ (tbl_1 (List.mem_of_getElem? (i := 35) rfl))), List.forall_mem_cons.mpr ⟨va_Nw.of rfl (hts _ (tbl_1 (List.mem_of_getElem? (i := 51) rfl))), List.forall_mem_cons.mpr ⟨va_Nw.of rfl (hts _ (tbl_1 (List.mem_of_getElem? (i := 57) rfl))), List.forall_mem_cons.mpr ⟨va_Nw.of rfl (hts _ (tbl_1 (List.mem_of_getElem? (i := 103) rfl))), List.forall_mem_cons.mpr ⟨va_Nw.of rfl (hts _ (tbl_2 (List.mem_of_getElem? (i := 85) rfl))), List.forall_mem_cons.mpr ⟨va_Nw.of rfl (hts _ (tbl_3 (List.mem_of_getElem? (i := 37) rfl))), List.forall_mem_cons.mpr ⟨va_Nw.of rfl (hts _ (tbl_3 (List.mem_of_getElem? (i := 40) rfl))), List.forall_mem_cons.mpr ⟨va_Nw.of rfl (hts _ (tbl_3 (List.mem_of_getElem? (i := 83) rfl))), List.forall_mem_cons.mpr ⟨va_Nw.of rfl (hts _ (tbl_3 (List.mem_of_getElem? (i := 114) rfl))), List.forall_mem_cons.mpr ⟨va_Nw.of rfl (hts _ (tbl_3 (List.mem_of_getElem? (i := 211) rfl))), List.forall_mem_cons.mpr ⟨va_Nw.of rfl (hts _ (tbl_3 (List.mem_of_getElem? (i := 225) rfl))), fun _ h => absurd h List.not_mem_nil⟩⟩⟩⟩⟩⟩⟩⟩⟩⟩⟩
  · exact List.forall_mem_cons.mpr ⟨vk_R.of (hts (.stringRef RX2 51 "layer") (tbl_2 (List.mem_of_getElem? (i := 163) rfl))) e0, List.forall_mem_cons.mpr ⟨vk_R.of (hts (.stringRef RX2 96 "thick") (tbl_2 (List.mem_of_getElem? (i := 232) rfl))) e1, List.forall_mem_cons.mpr ⟨vk_R.of (hts (.stringRef RX2 101 "loss") (tbl_2 (List.mem_of_getElem? (i := 237) rfl))) e2, List.forall_mem_cons.mpr ⟨vk_R.of (hts (.stringRef RX2 73 "outside") (tbl_3 (List.mem_of_getElem? (i := 3) rfl))) e3, List.forall_mem_cons.mpr ⟨vk_R.of (hts (.stringRef RX2 78 "bottom") (tbl_3 (List.mem_of_getElem? (i := 8) rfl))) e4, List.forall_mem_cons.mpr ⟨vk_R.of (hts (.stringRef RX2 112 "mirror") (tbl_3 (List.mem_of_getElem? (i := 13) rfl))) e5, List.forall_mem_cons.mpr ⟨vk_R.of (hts (.stringRef RX2 114 "open") (tbl_3 (List.mem_of_getElem? (i := 14) rfl))) e6, List.forall_mem_cons.mpr ⟨vk_R.of (hts (.stringRef RX2 83 "shot") (tbl_3 (List.mem_of_getElem? (i := 16) rfl))) e7, List.forall_mem_cons.mpr ⟨vk_R.of (hts (.stringRef RX2 129 "down") (tbl_3 (List.mem_of_getElem? (i := 25) rfl))) e8, List.forall_mem_cons.mpr ⟨vk_R.of (hts (.stringRef RX2 131 "up") (tbl_3 (List.mem_of_getElem? (i := 26) rfl))) e9, List.forall_mem_cons.mpr ⟨vk_R.of (hts (.stringRef RX8 91 "the input buffer is full") (tbl_4 (List.mem_of_getElem? (i := 61) rfl))) e10, List.forall_mem_cons.mpr ⟨vk_R.of (hts (.stringRef RX8 347 "a value is out of range") (tbl_4 (List.mem_of_getElem? (i := 111) rfl))) e11, List.forall_mem_cons.mpr ⟨vk_R.of (hts (.stringRef RX8 142 "no such property") (tbl_4 (List.mem_of_getElem? (i := 125) rfl))) e12, List.forall_mem_cons.mpr ⟨vk_R.of (hts (.stringRef RX8 354 "no such layer") (tbl_4 (List.mem_of_getElem? (i := 148) rfl))) e13, List.forall_mem_cons.mpr ⟨vk_R.of (hts (.stringRef RX8 356 "no such shot") (tbl_4 (List.mem_of_getElem? (i := 166) rfl))) e14, List.forall_mem_cons.mpr ⟨vk_R.of (hts (.stringRef RX8 189 "no such number of a path") (tbl_4 (List.mem_of_getElem? (i := 174) rfl))) e15, List.forall_mem_cons.mpr ⟨vk_R.of (hts (.stringRef RX8 198 "no such leg") (tbl_4 (List.mem_of_getElem? (i := 182) rfl))) e16, List.forall_mem_cons.mpr ⟨vk_R.of (hts (.stringRef RX8 349 "a value is below 0") (tbl_4 (List.mem_of_getElem? (i := 198) rfl))) e17, List.forall_mem_cons.mpr ⟨vk_R.of (hts (.stringRef RX8 360 "both shots are the same") (tbl_5 (List.mem_of_getElem? (i := 105) rfl))) e18, List.forall_mem_cons.mpr ⟨vk_R.of (hts (.stringRef RX8 280 "no such place for a layer") (tbl_5 (List.mem_of_getElem? (i := 163) rfl))) e19, List.forall_mem_cons.mpr ⟨vk_R.of (hts (.stringRef RX8 282 "there is no room for a layer") (tbl_5 (List.mem_of_getElem? (i := 164) rfl))) e20, List.forall_mem_cons.mpr ⟨vk_R.of (hts (.stringRef RX8 284 "it is the only layer") (tbl_5 (List.mem_of_getElem? (i := 172) rfl))) e21, List.forall_mem_cons.mpr ⟨vk_R.of (hts (.stringRef RX8 362 "no such number of a layer") (tbl_5 (List.mem_of_getElem? (i := 183) rfl))) e22, List.forall_mem_cons.mpr ⟨vk_R.of (hts (.stringRef RX8 289 "both layers are the same") (tbl_5 (List.mem_of_getElem? (i := 191) rfl))) e23, List.forall_mem_cons.mpr ⟨vk_R.of (hts (.stringRef RX8 303 "there is no room for a shot") (tbl_5 (List.mem_of_getElem? (i := 226) rfl))) e24, List.forall_mem_cons.mpr ⟨vk_R.of (hts (.stringRef RX8 358 "no such slot") (tbl_6 (List.mem_of_getElem? (i := 12) rfl))) e25, List.forall_mem_cons.mpr ⟨vk_R.of (hts (.stringRef RX8 312 "nothing is kept there") (tbl_6 (List.mem_of_getElem? (i := 21) rfl))) e26, List.forall_mem_cons.mpr ⟨vk_R.of (hts (.stringRef RX8 317 "there is nothing to undo") (tbl_6 (List.mem_of_getElem? (i := 29) rfl))) e27, List.forall_mem_cons.mpr ⟨vk_R.of (hts (.stringRef RX8 329 "tbarn") (tbl_6 (List.mem_of_getElem? (i := 41) rfl))) e28, List.forall_mem_cons.mpr ⟨vk_R.of (hts (.stringRef RX8 344 "no such byte") (tbl_6 (List.mem_of_getElem? (i := 62) rfl))) e29, List.forall_mem_cons.mpr ⟨vk_R.of (hts (.stringRef RX9 299 "layer") (tbl_7 (List.mem_of_getElem? (i := 20) rfl))) f0, List.forall_mem_cons.mpr ⟨vk_R.of (hts (.stringRef RX9 272 "thick") (tbl_7 (List.mem_of_getElem? (i := 59) rfl))) f1, List.forall_mem_cons.mpr ⟨vk_R.of (hts (.stringRef RX9 278 "loss") (tbl_7 (List.mem_of_getElem? (i := 68) rfl))) f2, List.forall_mem_cons.mpr ⟨vk_R.of (hts (.stringRef RX9 304 "outside") (tbl_7 (List.mem_of_getElem? (i := 73) rfl))) f3, List.forall_mem_cons.mpr ⟨vk_R.of (hts (.stringRef RX9 309 "bottom") (tbl_7 (List.mem_of_getElem? (i := 78) rfl))) f4, List.forall_mem_cons.mpr ⟨vk_R.of (hts (.stringRef RX9 289 "open") (tbl_7 (List.mem_of_getElem? (i := 83) rfl))) f6, List.forall_mem_cons.mpr ⟨vk_R.of (hts (.stringRef RX9 291 "mirror") (tbl_7 (List.mem_of_getElem? (i := 84) rfl))) f5, List.forall_mem_cons.mpr ⟨vk_R.of (hts (.stringRef RX9 314 "shot") (tbl_7 (List.mem_of_getElem? (i := 85) rfl))) f7, List.forall_mem_cons.mpr ⟨vk_R.of (hts (.stringRef RX9 292 "down") (tbl_7 (List.mem_of_getElem? (i := 98) rfl))) f8, List.forall_mem_cons.mpr ⟨vk_R.of (hts (.stringRef RX9 294 "up") (tbl_7 (List.mem_of_getElem? (i := 99) rfl))) f9, List.forall_mem_cons.mpr ⟨vk_R.of (hts (.stringRef RX9 456 "tbarn") (tbl_8 (List.mem_of_getElem? (i := 235) rfl))) f28, fun _ h => absurd h List.not_mem_nil⟩⟩⟩⟩⟩⟩⟩⟩⟩⟩⟩⟩⟩⟩⟩⟩⟩⟩⟩⟩⟩⟩⟩⟩⟩⟩⟩⟩⟩⟩⟩⟩⟩⟩⟩⟩⟩⟩⟩⟩⟩
  · exact vx_Zqof (hts (.laysStatic "java/lang/Throwable" "UNASSIGNED_STACK" "[Ljava/lang/StackTraceElement;") (tbl_4 (List.mem_of_getElem? (i := 46) rfl))) (hts (.initialized "java/lang/Throwable") (tbl_1 (List.mem_of_getElem? (i := 11) rfl))) (hn _ (nar_z _ (List.mem_of_getElem? (i := 2) rfl))) hA
  · exact vx_Zqof (hts (.laysStatic "java/lang/Throwable" "SUPPRESSED_SENTINEL" "Ljava/util/List;") (tbl_4 (List.mem_of_getElem? (i := 48) rfl))) (hts (.initialized "java/lang/Throwable") (tbl_1 (List.mem_of_getElem? (i := 11) rfl))) (hn _ (nar_z _ (List.mem_of_getElem? (i := 3) rfl))) hA
  · exact List.forall_mem_cons.mpr ⟨va_Nw.of rfl (hts (.castable "java/lang/IndexOutOfBoundsException" "java/lang/IndexOutOfBoundsException") (tbl_4 (List.mem_of_getElem? (i := 141) rfl))), List.forall_mem_cons.mpr ⟨va_Nw.of rfl (hts (.castable "java/lang/IllegalArgumentException" "java/lang/IllegalArgumentException") (tbl_4 (List.mem_of_getElem? (i := 104) rfl))), List.forall_mem_cons.mpr ⟨va_Nw.of rfl (hts (.castable "java/lang/IllegalStateException" "java/lang/IllegalStateException") (tbl_4 (List.mem_of_getElem? (i := 21) rfl))), List.forall_mem_cons.mpr ⟨va_Nw.of rfl (hts (.castable "java/util/NoSuchElementException" "java/util/NoSuchElementException") (tbl_6 (List.mem_of_getElem? (i := 55) rfl))), fun _ h => absurd h List.not_mem_nil⟩⟩⟩⟩
  · exact List.forall_mem_cons.mpr ⟨List.forall_mem_cons.mpr ⟨fun h => absurd rfl h, List.forall_mem_cons.mpr ⟨fun _ => va_Nc.of (hn _ (nar_c _ (List.mem_of_getElem? (i := 0) rfl))), List.forall_mem_cons.mpr ⟨fun _ => va_Nc.of (hn _ (nar_c _ (List.mem_of_getElem? (i := 1) rfl))), List.forall_mem_cons.mpr ⟨fun _ => va_Nc.of (hn _ (nar_c _ (List.mem_of_getElem? (i := 2) rfl))), fun _ h => absurd h List.not_mem_nil⟩⟩⟩⟩, List.forall_mem_cons.mpr ⟨List.forall_mem_cons.mpr ⟨fun _ => va_Nc.of (hn _ (nar_c _ (List.mem_of_getElem? (i := 3) rfl))), List.forall_mem_cons.mpr ⟨fun h => absurd rfl h, List.forall_mem_cons.mpr ⟨fun _ => va_Nc.of (hn _ (nar_c _ (List.mem_of_getElem? (i := 4) rfl))), List.forall_mem_cons.mpr ⟨fun _ => va_Nc.of (hn _ (nar_c _ (List.mem_of_getElem? (i := 5) rfl))), fun _ h => absurd h List.not_mem_nil⟩⟩⟩⟩, List.forall_mem_cons.mpr ⟨List.forall_mem_cons.mpr ⟨fun _ => va_Nc.of (hn _ (nar_c _ (List.mem_of_getElem? (i := 6) rfl))), List.forall_mem_cons.mpr ⟨fun _ => va_Nc.of (hn _ (nar_c _ (List.mem_of_getElem? (i := 7) rfl))), List.forall_mem_cons.mpr ⟨fun h => absurd rfl h, List.forall_mem_cons.mpr ⟨fun _ => va_Nc.of (hn _ (nar_c _ (List.mem_of_getElem? (i := 8) rfl))), fun _ h => absurd h List.not_mem_nil⟩⟩⟩⟩, List.forall_mem_cons.mpr ⟨List.forall_mem_cons.mpr ⟨fun _ => va_Nc.of (hn _ (nar_c _ (List.mem_of_getElem? (i := 9) rfl))), List.forall_mem_cons.mpr ⟨fun _ => va_Nc.of (hn _ (nar_c _ (List.mem_of_getElem? (i := 10) rfl))), List.forall_mem_cons.mpr ⟨fun _ => va_Nc.of (hn _ (nar_c _ (List.mem_of_getElem? (i := 11) rfl))), List.forall_mem_cons.mpr ⟨fun h => absurd rfl h, fun _ h => absurd h List.not_mem_nil⟩⟩⟩⟩, fun _ h => absurd h List.not_mem_nil⟩⟩⟩⟩
  · exact List.forall_mem_cons.mpr ⟨va_Nw.of rfl (hts _ (tbl_4 (List.mem_of_getElem? (i := 23) rfl))), List.forall_mem_cons.mpr ⟨va_Nw.of rfl (hts _ (tbl_4 (List.mem_of_getElem? (i := 25) rfl))), List.forall_mem_cons.mpr ⟨va_Nw.of rfl (hts _ (tbl_4 (List.mem_of_getElem? (i := 27) rfl))), fun _ h => absurd h List.not_mem_nil⟩⟩⟩
  · intro i hi
    match i, hi with
    | 0, _ => exact g0
    | 1, _ => exact g1
    | 2, _ => exact g2
    | 3, _ => exact g3
    | 4, _ => exact g4
    | 5, _ => exact g5
    | 6, _ => exact g6
    | 7, _ => exact g7
    | 8, _ => exact g8
    | 9, _ => exact g9
    | i + 10, h => exact absurd h (by omega)
  · exact g28
  · exact va_Zof (hts (.laysStatic "java/lang/String" "COMPACT_STRINGS" "Z") (tbl_2 (List.mem_of_getElem? (i := 177) rfl))) (hts (.initialized "java/lang/String") (tbl_1 (List.mem_of_getElem? (i := 17) rfl))) (va_eqi (hn _ (nar_z _ (List.mem_of_getElem? (i := 0) rfl)))) hA
  · exact va_Zqof (hts (.laysStatic "jdk/internal/util/Preconditions" "SIOOBE_FORMATTER" "Ljava/util/function/BiFunction;") (tbl_2 (List.mem_of_getElem? (i := 193) rfl))) (hts (.initialized "jdk/internal/util/Preconditions") (tbl_1 (List.mem_of_getElem? (i := 19) rfl))) (hn _ (nar_z _ (List.mem_of_getElem? (i := 1) rfl))) hA
