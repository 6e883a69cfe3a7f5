set_option maxHeartbeats 1000000 in
set_option maxRecDepth 100000 in
theorem c_X8_append (l : Launch) (K : KC) (ad : Nat → Nat) (n : Int) (F : Int → Int) (y : Int) (a1 : Int) (a2 : Int) (a3 : Int) (a4 : Int) (hv0 : -2147483648 ≤ y ∧ y < 2147483648) (hv1 : -2147483648 ≤ a1 ∧ a1 < 2147483648) (hv2 : -2147483648 ≤ a2 ∧ a2 < 2147483648) (hv3 : -2147483648 ≤ a3 ∧ a3 < 2147483648) (hv4 : -2147483648 ≤ a4 ∧ a4 < 2147483648) (h0 : 0 ≤ n ∧ n + 20 ≤ 400) : mG l yX8_append wsX8_append 2 43 K [.ref (ad 0), .int (iI y), .int (iI a1), .int (iI a2), .int (iI a3), .int (iI a4)] [gRLC K ad, gBuf K (ad 1) (ad 12) n F] (fun (v : Value) (u : (Int → Int)) => (v = .int (iI (n + 20))) ∧ (u = apd5 F n y a1 a2 a3 a4)) (fun (u : (Int → Int)) => [gRLC K ad, gBuf K (ad 1) (ad 12) (n + 4 + 4 + 4 + 4 + 4) u]) 0 0 := by
  refine mG_of cX8_append 6 (by decide) rfl (Nat.le_of_ble_eq_true rfl) ?_
  intro p e s m below meth c A ls Q S C hG hl hr hlk hin hQ
  have S : CallFix p m c cX8_append 6 s ([.ref (ad 0), .int (iI y), .int (iI a1), .int (iI a2), .int (iI a3), .int (iI a4)] : List Value).toArray wsX8_append RX8 := S
  have iX80 : ∀ w ∈ wsX80, w ∈ wsX8_append := fun _ h => List.mem_cons_of_mem _ (List.mem_append_left _ (List.mem_append_left _ (List.mem_append_right _ (h))))
  have iX00 : ∀ w ∈ wsX00, w ∈ wsX8_append := fun _ h => List.mem_cons_of_mem _ (List.mem_append_left _ (List.mem_append_right _ (h)))
  have hl : lv_has ls 6 [(0, .ref (ad 0)), (1, .int (iI y)), (2, .int (iI a1)), (3, .int (iI a2)), (4, .int (iI a3)), (5, .int (iI a4))] := hl
  have hG : gW K A s.heap [gRLC K ad, gBuf K (ad 1) (ad 12) n F] s.heap [] := hG
  refine lv_aload_n S.1 S.2.1 dX8_append_0 rfl (lv_at hl 0 rfl) ?_
  refine g_get S C hG iX80 0 rfl rfl 0 (by decide) (List.mem_of_getElem? (i := 3) rfl) rfl dX8_append_1 ?_
  refine g_get S C hG iX00 1 rfl rfl 1 (by decide) (List.mem_of_getElem? (i := 4) rfl) rfl dX8_append_4 ?_
  refine g_bipush S dX8_append_7 (by decide) ?_
  refine g_iadd S dX8_append_9 rfl ?_
  refine g_sipush S dX8_append_10 (by decide) ?_
  refine g_icmp_le (tgt := 26) S dX8_append_13 (by decide) (by omega) (by omega) (fun q13 => ?_) (fun q13 => ?_)
  · skip
    refine lv_aload_n S.1 S.2.1 dX8_append_26 rfl (lv_at hl 0 rfl) ?_
    refine g_get S C hG iX80 0 rfl rfl 0 (by decide) (List.mem_of_getElem? (i := 3) rfl) rfl dX8_append_27 ?_
    refine lv_iload_n S.1 S.2.1 dX8_append_30 rfl (lv_at hl 1 rfl) ?_
    refine g_invVv (As := [.int (iI y)]) (rest := []) (gs' := (fun u : Unit => [gRLC K ad, gBuf K (ad 1) (ad 12) (n + 4) (upI (upI (upI (upI F n (y / 16777216)) (n + 1) (y / 65536)) (n + 1 + 1) (y / 256)) (n + 1 + 1 + 1) (y / 1))])) S C hG [1] (c_X0_addFour l K (ad 1) (ad 12) n F y (by omega) hv0) rfl rfl 0 rfl rfl (cwV 1 S.2.2.2.2 gX8_append_X0_addFour rfl rfl rfl (by decide +kernel) ⟨Nat.le_of_ble_eq_true rfl, Nat.le_of_ble_eq_true rfl⟩) rfl hl.1 rfl (Nat.le_of_ble_eq_true rfl) dX8_append_31 ⟨Nat.le_of_ble_eq_true rfl, Nat.le_of_ble_eq_true rfl⟩ (fun _ => Nat.le_of_ble_eq_true rfl) (fun _ => rfl) (fun u H locs hp hG => ?_)
    refine lv_aload_n S.1 S.2.1 dX8_append_34 rfl (lv_at hl 0 rfl) ?_
    refine g_get S C hG iX80 0 rfl rfl 0 (by decide) (List.mem_of_getElem? (i := 3) rfl) rfl dX8_append_35 ?_
    refine lv_iload_n S.1 S.2.1 dX8_append_38 rfl (lv_at hl 2 rfl) ?_
    refine g_invVv (As := [.int (iI a1)]) (rest := []) (gs' := (fun u : Unit => [gRLC K ad, gBuf K (ad 1) (ad 12) ((n + 4) + 4) (upI (upI (upI (upI (upI (upI (upI (upI F n (y / 16777216)) (n + 1) (y / 65536)) (n + 1 + 1) (y / 256)) (n + 1 + 1 + 1) (y / 1)) (n + 4) (a1 / 16777216)) ((n + 4) + 1) (a1 / 65536)) ((n + 4) + 1 + 1) (a1 / 256)) ((n + 4) + 1 + 1 + 1) (a1 / 1))])) S C hG [1] (c_X0_addFour l K (ad 1) (ad 12) (n + 4) (upI (upI (upI (upI F n (y / 16777216)) (n + 1) (y / 65536)) (n + 1 + 1) (y / 256)) (n + 1 + 1 + 1) (y / 1)) a1 (by omega) hv1) rfl rfl 0 rfl rfl (cwV 1 S.2.2.2.2 gX8_append_X0_addFour rfl rfl rfl (by decide +kernel) ⟨Nat.le_of_ble_eq_true rfl, Nat.le_of_ble_eq_true rfl⟩) rfl hl.1 rfl (Nat.le_of_ble_eq_true rfl) dX8_append_39 ⟨Nat.le_of_ble_eq_true rfl, Nat.le_of_ble_eq_true rfl⟩ (fun _ => Nat.le_of_ble_eq_true rfl) (fun _ => rfl) (fun u H locs hp hG => ?_)
    refine lv_aload_n S.1 S.2.1 dX8_append_42 rfl (lv_at hl 0 rfl) ?_
    refine g_get S C hG iX80 0 rfl rfl 0 (by decide) (List.mem_of_getElem? (i := 3) rfl) rfl dX8_append_43 ?_
    refine lv_iload_n S.1 S.2.1 dX8_append_46 rfl (lv_at hl 3 rfl) ?_
    refine g_invVv (As := [.int (iI a2)]) (rest := []) (gs' := (fun u : Unit => [gRLC K ad, gBuf K (ad 1) (ad 12) (((n + 4) + 4) + 4) (upI (upI (upI (upI (upI (upI (upI (upI (upI (upI (upI (upI F n (y / 16777216)) (n + 1) (y / 65536)) (n + 1 + 1) (y / 256)) (n + 1 + 1 + 1) (y / 1)) (n + 4) (a1 / 16777216)) ((n + 4) + 1) (a1 / 65536)) ((n + 4) + 1 + 1) (a1 / 256)) ((n + 4) + 1 + 1 + 1) (a1 / 1)) ((n + 4) + 4) (a2 / 16777216)) (((n + 4) + 4) + 1) (a2 / 65536)) (((n + 4) + 4) + 1 + 1) (a2 / 256)) (((n + 4) + 4) + 1 + 1 + 1) (a2 / 1))])) S C hG [1] (c_X0_addFour l K (ad 1) (ad 12) ((n + 4) + 4) (upI (upI (upI (upI (upI (upI (upI (upI F n (y / 16777216)) (n + 1) (y / 65536)) (n + 1 + 1) (y / 256)) (n + 1 + 1 + 1) (y / 1)) (n + 4) (a1 / 16777216)) ((n + 4) + 1) (a1 / 65536)) ((n + 4) + 1 + 1) (a1 / 256)) ((n + 4) + 1 + 1 + 1) (a1 / 1)) a2 (by omega) hv2) rfl rfl 0 rfl rfl (cwV 1 S.2.2.2.2 gX8_append_X0_addFour rfl rfl rfl (by decide +kernel) ⟨Nat.le_of_ble_eq_true rfl, Nat.le_of_ble_eq_true rfl⟩) rfl hl.1 rfl (Nat.le_of_ble_eq_true rfl) dX8_append_47 ⟨Nat.le_of_ble_eq_true rfl, Nat.le_of_ble_eq_true rfl⟩ (fun _ => Nat.le_of_ble_eq_true rfl) (fun _ => rfl) (fun u H locs hp hG => ?_)
    refine lv_aload_n S.1 S.2.1 dX8_append_50 rfl (lv_at hl 0 rfl) ?_
    refine g_get S C hG iX80 0 rfl rfl 0 (by decide) (List.mem_of_getElem? (i := 3) rfl) rfl dX8_append_51 ?_
    refine lv_iload S.1 S.2.1 dX8_append_54 (lv_at hl 4 rfl) ?_
    refine g_invVv (As := [.int (iI a3)]) (rest := []) (gs' := (fun u : Unit => [gRLC K ad, gBuf K (ad 1) (ad 12) ((((n + 4) + 4) + 4) + 4) (upI (upI (upI (upI (upI (upI (upI (upI (upI (upI (upI (upI (upI (upI (upI (upI F n (y / 16777216)) (n + 1) (y / 65536)) (n + 1 + 1) (y / 256)) (n + 1 + 1 + 1) (y / 1)) (n + 4) (a1 / 16777216)) ((n + 4) + 1) (a1 / 65536)) ((n + 4) + 1 + 1) (a1 / 256)) ((n + 4) + 1 + 1 + 1) (a1 / 1)) ((n + 4) + 4) (a2 / 16777216)) (((n + 4) + 4) + 1) (a2 / 65536)) (((n + 4) + 4) + 1 + 1) (a2 / 256)) (((n + 4) + 4) + 1 + 1 + 1) (a2 / 1)) (((n + 4) + 4) + 4) (a3 / 16777216)) ((((n + 4) + 4) + 4) + 1) (a3 / 65536)) ((((n + 4) + 4) + 4) + 1 + 1) (a3 / 256)) ((((n + 4) + 4) + 4) + 1 + 1 + 1) (a3 / 1))])) S C hG [1] (c_X0_addFour l K (ad 1) (ad 12) (((n + 4) + 4) + 4) (upI (upI (upI (upI (upI (upI (upI (upI (upI (upI (upI (upI F n (y / 16777216)) (n + 1) (y / 65536)) (n + 1 + 1) (y / 256)) (n + 1 + 1 + 1) (y / 1)) (n + 4) (a1 / 16777216)) ((n + 4) + 1) (a1 / 65536)) ((n + 4) + 1 + 1) (a1 / 256)) ((n + 4) + 1 + 1 + 1) (a1 / 1)) ((n + 4) + 4) (a2 / 16777216)) (((n + 4) + 4) + 1) (a2 / 65536)) (((n + 4) + 4) + 1 + 1) (a2 / 256)) (((n + 4) + 4) + 1 + 1 + 1) (a2 / 1)) a3 (by omega) hv3) rfl rfl 0 rfl rfl (cwV 1 S.2.2.2.2 gX8_append_X0_addFour rfl rfl rfl (by decide +kernel) ⟨Nat.le_of_ble_eq_true rfl, Nat.le_of_ble_eq_true rfl⟩) rfl hl.1 rfl (Nat.le_of_ble_eq_true rfl) dX8_append_56 ⟨Nat.le_of_ble_eq_true rfl, Nat.le_of_ble_eq_true rfl⟩ (fun _ => Nat.le_of_ble_eq_true rfl) (fun _ => rfl) (fun u H locs hp hG => ?_)
    refine lv_aload_n S.1 S.2.1 dX8_append_59 rfl (lv_at hl 0 rfl) ?_
    refine g_get S C hG iX80 0 rfl rfl 0 (by decide) (List.mem_of_getElem? (i := 3) rfl) rfl dX8_append_60 ?_
    refine lv_iload S.1 S.2.1 dX8_append_63 (lv_at hl 5 rfl) ?_
    refine g_invVv (As := [.int (iI a4)]) (rest := []) (gs' := (fun u : Unit => [gRLC K ad, gBuf K (ad 1) (ad 12) (((((n + 4) + 4) + 4) + 4) + 4) (upI (upI (upI (upI (upI (upI (upI (upI (upI (upI (upI (upI (upI (upI (upI (upI (upI (upI (upI (upI F n (y / 16777216)) (n + 1) (y / 65536)) (n + 1 + 1) (y / 256)) (n + 1 + 1 + 1) (y / 1)) (n + 4) (a1 / 16777216)) ((n + 4) + 1) (a1 / 65536)) ((n + 4) + 1 + 1) (a1 / 256)) ((n + 4) + 1 + 1 + 1) (a1 / 1)) ((n + 4) + 4) (a2 / 16777216)) (((n + 4) + 4) + 1) (a2 / 65536)) (((n + 4) + 4) + 1 + 1) (a2 / 256)) (((n + 4) + 4) + 1 + 1 + 1) (a2 / 1)) (((n + 4) + 4) + 4) (a3 / 16777216)) ((((n + 4) + 4) + 4) + 1) (a3 / 65536)) ((((n + 4) + 4) + 4) + 1 + 1) (a3 / 256)) ((((n + 4) + 4) + 4) + 1 + 1 + 1) (a3 / 1)) ((((n + 4) + 4) + 4) + 4) (a4 / 16777216)) (((((n + 4) + 4) + 4) + 4) + 1) (a4 / 65536)) (((((n + 4) + 4) + 4) + 4) + 1 + 1) (a4 / 256)) (((((n + 4) + 4) + 4) + 4) + 1 + 1 + 1) (a4 / 1))])) S C hG [1] (c_X0_addFour l K (ad 1) (ad 12) ((((n + 4) + 4) + 4) + 4) (upI (upI (upI (upI (upI (upI (upI (upI (upI (upI (upI (upI (upI (upI (upI (upI F n (y / 16777216)) (n + 1) (y / 65536)) (n + 1 + 1) (y / 256)) (n + 1 + 1 + 1) (y / 1)) (n + 4) (a1 / 16777216)) ((n + 4) + 1) (a1 / 65536)) ((n + 4) + 1 + 1) (a1 / 256)) ((n + 4) + 1 + 1 + 1) (a1 / 1)) ((n + 4) + 4) (a2 / 16777216)) (((n + 4) + 4) + 1) (a2 / 65536)) (((n + 4) + 4) + 1 + 1) (a2 / 256)) (((n + 4) + 4) + 1 + 1 + 1) (a2 / 1)) (((n + 4) + 4) + 4) (a3 / 16777216)) ((((n + 4) + 4) + 4) + 1) (a3 / 65536)) ((((n + 4) + 4) + 4) + 1 + 1) (a3 / 256)) ((((n + 4) + 4) + 4) + 1 + 1 + 1) (a3 / 1)) a4 (by omega) hv4) rfl rfl 0 rfl rfl (cwV 1 S.2.2.2.2 gX8_append_X0_addFour rfl rfl rfl (by decide +kernel) ⟨Nat.le_of_ble_eq_true rfl, Nat.le_of_ble_eq_true rfl⟩) rfl hl.1 rfl (Nat.le_of_ble_eq_true rfl) dX8_append_65 ⟨Nat.le_of_ble_eq_true rfl, Nat.le_of_ble_eq_true rfl⟩ (fun _ => Nat.le_of_ble_eq_true rfl) (fun _ => rfl) (fun u H locs hp hG => ?_)
    refine lv_aload_n S.1 S.2.1 dX8_append_68 rfl (lv_at hl 0 rfl) ?_
    refine g_get S C hG iX80 0 rfl rfl 0 (by decide) (List.mem_of_getElem? (i := 3) rfl) rfl dX8_append_69 ?_
    refine g_get S C hG iX00 1 rfl rfl 1 (by decide) (List.mem_of_getElem? (i := 4) rfl) rfl dX8_append_72 ?_
    have hG : gW K A s.heap [gRLC K ad, gBuf K (ad 1) (ad 12) (n + 4 + 4 + 4 + 4 + 4) (upI (upI (upI (upI (upI (upI (upI (upI (upI (upI (upI (upI (upI (upI (upI (upI (upI (upI (upI (upI F n (y / 16777216)) (n + 1) (y / 65536)) (n + 1 + 1) (y / 256)) (n + 1 + 1 + 1) (y / 1)) (n + 4) (a1 / 16777216)) ((n + 4) + 1) (a1 / 65536)) ((n + 4) + 1 + 1) (a1 / 256)) ((n + 4) + 1 + 1 + 1) (a1 / 1)) ((n + 4) + 4) (a2 / 16777216)) (((n + 4) + 4) + 1) (a2 / 65536)) (((n + 4) + 4) + 1 + 1) (a2 / 256)) (((n + 4) + 4) + 1 + 1 + 1) (a2 / 1)) (((n + 4) + 4) + 4) (a3 / 16777216)) ((((n + 4) + 4) + 4) + 1) (a3 / 65536)) ((((n + 4) + 4) + 4) + 1 + 1) (a3 / 256)) ((((n + 4) + 4) + 4) + 1 + 1 + 1) (a3 / 1)) ((((n + 4) + 4) + 4) + 4) (a4 / 16777216)) (((((n + 4) + 4) + 4) + 4) + 1) (a4 / 65536)) (((((n + 4) + 4) + 4) + 4) + 1 + 1) (a4 / 256)) (((((n + 4) + 4) + 4) + 4) + 1 + 1 + 1) (a4 / 1))] _ _ := hG
    exact g_iret S hr hlk hQ dX8_append_75 (Nat.le_of_ble_eq_true rfl) (Nat.le_of_ble_eq_true rfl) ((upI (upI (upI (upI (upI (upI (upI (upI (upI (upI (upI (upI (upI (upI (upI (upI (upI (upI (upI (upI F n (y / 16777216)) (n + 1) (y / 65536)) (n + 1 + 1) (y / 256)) (n + 1 + 1 + 1) (y / 1)) (n + 4) (a1 / 16777216)) ((n + 4) + 1) (a1 / 65536)) ((n + 4) + 1 + 1) (a1 / 256)) ((n + 4) + 1 + 1 + 1) (a1 / 1)) ((n + 4) + 4) (a2 / 16777216)) (((n + 4) + 4) + 1) (a2 / 65536)) (((n + 4) + 4) + 1 + 1) (a2 / 256)) (((n + 4) + 4) + 1 + 1 + 1) (a2 / 1)) (((n + 4) + 4) + 4) (a3 / 16777216)) ((((n + 4) + 4) + 4) + 1) (a3 / 65536)) ((((n + 4) + 4) + 4) + 1 + 1) (a3 / 256)) ((((n + 4) + 4) + 4) + 1 + 1 + 1) (a3 / 1)) ((((n + 4) + 4) + 4) + 4) (a4 / 16777216)) (((((n + 4) + 4) + 4) + 4) + 1) (a4 / 65536)) (((((n + 4) + 4) + 4) + 4) + 1 + 1) (a4 / 256)) (((((n + 4) + 4) + 4) + 4) + 1 + 1 + 1) (a4 / 1)) : (Int → Int)) ⟨(congrArg (fun z : Int => Value.int (iI z)) (by omega)), rfl⟩ hG
  · skip
    omega

set_option maxHeartbeats 1000000 in
set_option maxRecDepth 100000 in
theorem x1_append (l : Launch) (K : KC) (ad : Nat → Nat) (n : Int) (F : Int → Int) (y : Int) (a1 : Int) (a2 : Int) (a3 : Int) (a4 : Int) (hv0 : -2147483648 ≤ y ∧ y < 2147483648) (hv1 : -2147483648 ≤ a1 ∧ a1 < 2147483648) (hv2 : -2147483648 ≤ a2 ∧ a2 < 2147483648) (hv3 : -2147483648 ≤ a3 ∧ a3 < 2147483648) (hv4 : -2147483648 ≤ a4 ∧ a4 < 2147483648) (h0 : 0 ≤ n ∧ n ≤ 400) (h1 : ¬ n + 20 ≤ 400) (hst : l.stackTraces = false) : mX l yX8_append wsX8_append 6 82 K [.ref (ad 0), .int (iI y), .int (iI a1), .int (iI a2), .int (iI a3), .int (iI a4)] [gRLC K ad, gBuf K (ad 1) (ad 12) n F] "java/lang/IllegalStateException" (fun (u : Unit) => True) (fun (u : Unit) => [gRLC K ad, gBuf K (ad 1) (ad 12) n F]) 1 6 := by
  refine mX_of cX8_append 6 (by decide) rfl (Nat.le_of_ble_eq_true rfl) ?_
  intro p e s m below meth c A ls Q S C hG hl hex hlk hin hQ
  have S : CallFix p m c cX8_append 6 s ([.ref (ad 0), .int (iI y), .int (iI a1), .int (iI a2), .int (iI a3), .int (iI a4)] : List Value).toArray wsX8_append RX8 := S
  have iX80 : ∀ w ∈ wsX80, w ∈ wsX8_append := fun _ h => List.mem_cons_of_mem _ (List.mem_append_left _ (List.mem_append_left _ (List.mem_append_right _ (h))))
  have iX00 : ∀ w ∈ wsX00, w ∈ wsX8_append := fun _ h => List.mem_cons_of_mem _ (List.mem_append_left _ (List.mem_append_right _ (h)))
  have hl : lv_has ls 6 [(0, .ref (ad 0)), (1, .int (iI y)), (2, .int (iI a1)), (3, .int (iI a2)), (4, .int (iI a3)), (5, .int (iI a4))] := hl
  have hG : gW K A s.heap [gRLC K ad, gBuf K (ad 1) (ad 12) n F] s.heap [] := hG
  refine lv_aload_n S.1 S.2.1 dX8_append_0 rfl (lv_at hl 0 rfl) ?_
  refine g_get S C hG iX80 0 rfl rfl 0 (by decide) (List.mem_of_getElem? (i := 3) rfl) rfl dX8_append_1 ?_
  refine g_get S C hG iX00 1 rfl rfl 1 (by decide) (List.mem_of_getElem? (i := 4) rfl) rfl dX8_append_4 ?_
  refine g_bipush S dX8_append_7 (by decide) ?_
  refine g_iadd S dX8_append_9 rfl ?_
  refine g_sipush S dX8_append_10 (by decide) ?_
  refine g_icmp_le (tgt := 26) S dX8_append_13 (by decide) (by omega) (by omega) (fun q13 => ?_) (fun q13 => ?_)
  · skip
    omega
  · skip
    have hG : gW K A s.heap [gRLC K ad, gBuf K (ad 1) (ad 12) n F] _ _ := hG
    exact g_thrS S C hl.1 hst hQ hex hlk th_ex_93 th_ft_93 (List.mem_of_getElem? (i := 1) rfl) (List.mem_of_getElem? (i := 2) rfl) (List.mem_of_getElem? (l := strW) (i := 10) rfl) (fun w hw => List.mem_cons_of_mem _ (List.mem_append_right _ (hw))) th_ng_93 th_gd_93 dX8_append_16 dX8_append_19 dX8_append_20 dX8_append_22 dX8_append_25 ⟨Nat.le_of_ble_eq_true rfl, Nat.le_of_ble_eq_true rfl, Nat.le_of_ble_eq_true rfl, Nat.le_of_ble_eq_true rfl⟩ (Nat.le_of_ble_eq_true rfl) (Nat.le_of_ble_eq_true rfl) (() : Unit) trivial hG

set_option maxHeartbeats 1000000 in
set_option maxRecDepth 100000 in
theorem c_X8_truncate (l : Launch) (K : KC) (ad : Nat → Nat) (n : Int) (F : Int → Int) (x : Int) (hx : -2147483648 ≤ x ∧ x < 2147483648) (h0 : 0 ≤ n ∧ n ≤ 400) (h1 : 0 ≤ x ∧ x ≤ n) : mV l yX8_truncate wsX8_truncate 1 22 K [.ref (ad 0), .int (iI x)] [gRLC K ad, gBuf K (ad 1) (ad 12) n F] (fun (u : Unit) => True) (fun (u : Unit) => [gRLC K ad, gBuf K (ad 1) (ad 12) x F]) 0 0 := by
  refine mV_of cX8_truncate 2 (by decide) rfl (Nat.le_of_ble_eq_true rfl) ?_
  intro p e s m below meth c A ls Q S C hG hl hr hlk hin hQ
  have S : CallFix p m c cX8_truncate 2 s ([.ref (ad 0), .int (iI x)] : List Value).toArray wsX8_truncate RX8 := S
  have iX80 : ∀ w ∈ wsX80, w ∈ wsX8_truncate := fun _ h => List.mem_cons_of_mem _ (List.mem_append_left _ (List.mem_append_left _ (List.mem_append_right _ (h))))
  have iX00 : ∀ w ∈ wsX00, w ∈ wsX8_truncate := fun _ h => List.mem_cons_of_mem _ (List.mem_append_left _ (List.mem_append_right _ (h)))
  have hl : lv_has ls 2 [(0, .ref (ad 0)), (1, .int (iI x))] := hl
  have hG : gW K A s.heap [gRLC K ad, gBuf K (ad 1) (ad 12) n F] s.heap [] := hG
  refine lv_iload_n S.1 S.2.1 dX8_truncate_0 rfl (lv_at hl 1 rfl) ?_
  refine g_iconst S dX8_truncate_1 ?_
  refine lv_aload_n S.1 S.2.1 dX8_truncate_2 rfl (lv_at hl 0 rfl) ?_
  refine g_get S C hG iX80 0 rfl rfl 0 (by decide) (List.mem_of_getElem? (i := 1) rfl) rfl dX8_truncate_3 ?_
  refine g_get S C hG iX00 1 rfl rfl 1 (by decide) (List.mem_of_getElem? (i := 2) rfl) rfl dX8_truncate_6 ?_
  refine g_invSv (As := [.int (iI x), .int (iI 0), .int (iI n)]) (rest := []) (gs' := (fun u : Unit => [gRLC K ad, gBuf K (ad 1) (ad 12) n F])) S C hG [] (c_X8_checkRange l K x 0 n hx (by omega) (by omega) h1) rfl rfl (va_cwS 3 S.2.2.2.2 gX8_truncate_X8_checkRange rfl rfl rfl (by decide +kernel) ⟨Nat.le_of_ble_eq_true rfl, Nat.le_of_ble_eq_true rfl⟩) rfl hl.1 rfl (Nat.le_of_ble_eq_true rfl) dX8_truncate_9 ⟨Nat.le_of_ble_eq_true rfl, Nat.le_of_ble_eq_true rfl⟩ (fun _ => Nat.le_of_ble_eq_true rfl) (fun _ => rfl) (fun u H locs hp hG => ?_)
  refine lv_aload_n S.1 S.2.1 dX8_truncate_12 rfl (lv_at hl 0 rfl) ?_
  refine g_get S C hG iX80 0 rfl rfl 0 (by decide) (List.mem_of_getElem? (i := 1) rfl) rfl dX8_truncate_13 ?_
  refine lv_iload_n S.1 S.2.1 dX8_truncate_16 rfl (lv_at hl 1 rfl) ?_
  refine g_put (gs' := [gRLC K ad, gBuf K (ad 1) (ad 12) x F]) S C hG iX00 tyX0 tyX0_ok nmX0 1 rfl rfl 1 (by decide) (List.mem_of_getElem? (i := 2) rfl) rfl rfl rfl (Nat.le_of_ble_eq_true rfl) rfl dX8_truncate_17 (fun H locs hG => ?_)
  have hG : gW K A s.heap [gRLC K ad, gBuf K (ad 1) (ad 12) x F] _ _ := hG
  exact g_vret S hr hlk hQ dX8_truncate_20 (Nat.le_of_ble_eq_true rfl) (Nat.le_of_ble_eq_true rfl) (() : Unit) trivial hG

set_option maxHeartbeats 1000000 in
set_option maxRecDepth 100000 in
theorem x1_truncate (l : Launch) (K : KC) (ad : Nat → Nat) (n : Int) (F : Int → Int) (x : Int) (hx : -2147483648 ≤ x ∧ x < 2147483648) (h0 : 0 ≤ n ∧ n ≤ 400) (h1 : ¬ (0 ≤ x ∧ x ≤ n)) (hst : l.stackTraces = false) : mX l yX8_truncate wsX8_truncate 7 104 K [.ref (ad 0), .int (iI x)] [gRLC K ad, gBuf K (ad 1) (ad 12) n F] "java/lang/IllegalArgumentException" (fun (u : Unit) => True) (fun (u : Unit) => [gRLC K ad, gBuf K (ad 1) (ad 12) n F]) 1 6 := by
  refine mX_of cX8_truncate 2 (by decide) rfl (Nat.le_of_ble_eq_true rfl) ?_
  intro p e s m below meth c A ls Q S C hG hl hex hlk hin hQ
  have S : CallFix p m c cX8_truncate 2 s ([.ref (ad 0), .int (iI x)] : List Value).toArray wsX8_truncate RX8 := S
  have iX80 : ∀ w ∈ wsX80, w ∈ wsX8_truncate := fun _ h => List.mem_cons_of_mem _ (List.mem_append_left _ (List.mem_append_left _ (List.mem_append_right _ (h))))
  have iX00 : ∀ w ∈ wsX00, w ∈ wsX8_truncate := fun _ h => List.mem_cons_of_mem _ (List.mem_append_left _ (List.mem_append_right _ (h)))
  have hl : lv_has ls 2 [(0, .ref (ad 0)), (1, .int (iI x))] := hl
  have hG : gW K A s.heap [gRLC K ad, gBuf K (ad 1) (ad 12) n F] s.heap [] := hG
  refine lv_iload_n S.1 S.2.1 dX8_truncate_0 rfl (lv_at hl 1 rfl) ?_
  refine g_iconst S dX8_truncate_1 ?_
  refine lv_aload_n S.1 S.2.1 dX8_truncate_2 rfl (lv_at hl 0 rfl) ?_
  refine g_get S C hG iX80 0 rfl rfl 0 (by decide) (List.mem_of_getElem? (i := 1) rfl) rfl dX8_truncate_3 ?_
  refine g_get S C hG iX00 1 rfl rfl 1 (by decide) (List.mem_of_getElem? (i := 2) rfl) rfl dX8_truncate_6 ?_
  refine g_xS (E := "java/lang/IllegalArgumentException") (As := [.int (iI x), .int (iI 0), .int (iI n)]) (rest := []) (gs' := (fun u : Unit => [gRLC K ad, gBuf K (ad 1) (ad 12) n F])) S C hG [] (x_checkRange l K x 0 n hx (by omega) (by omega) h1 hst) rfl rfl (va_cwS 3 S.2.2.2.2 gX8_truncate_X8_checkRange rfl rfl rfl (by decide +kernel) ⟨Nat.le_of_ble_eq_true rfl, Nat.le_of_ble_eq_true rfl⟩) rfl hl.1 rfl (Nat.le_of_ble_eq_true rfl) dX8_truncate_9 ⟨Nat.le_of_ble_eq_true rfl, Nat.le_of_ble_eq_true rfl⟩ (fun _ => Nat.le_of_ble_eq_true rfl) (fun _ => rfl) (fun u q9 ce9 H locs hp hG hq9 hv9 hcl9 => ?_)
  have hG : gW K A s.heap [gRLC K ad, gBuf K (ad 1) (ad 12) n F] _ _ := hG
  exact g_xout hQ hex hlk hq9 hv9 hcl9 (Nat.le_of_ble_eq_true rfl) (Nat.le_of_ble_eq_true rfl) (() : Unit) trivial hG

set_option maxHeartbeats 1000000 in
set_option maxRecDepth 100000 in
theorem c_X8_outputByte (l : Launch) (K : KC) (ad : Nat → Nat) (n : Int) (F : Int → Int) (x : Int) (hx : -2147483648 ≤ x ∧ x < 2147483648) (h0 : 0 ≤ n ∧ n ≤ 400) (h1 : 0 ≤ x ∧ x < n) : mG l yX8_outputByte wsX8_outputByte 1 21 K [.ref (ad 0), .int (iI x)] [gRLC K ad, gBuf K (ad 2) (ad 13) n F] (fun (v : Value) (u : Unit) => (v = .int (iI (F x % 256)))) (fun (u : Unit) => [gRLC K ad, gBuf K (ad 2) (ad 13) n F]) 0 0 := by
  refine mG_of cX8_outputByte 3 (by decide) rfl (Nat.le_of_ble_eq_true rfl) ?_
  intro p e s m below meth c A ls Q S C hG hl hr hlk hin hQ
  have S : CallFix p m c cX8_outputByte 3 s ([.ref (ad 0), .int (iI x)] : List Value).toArray wsX8_outputByte RX8 := S
  have iX80 : ∀ w ∈ wsX80, w ∈ wsX8_outputByte := fun _ h => List.mem_cons_of_mem _ (List.mem_append_left _ (List.mem_append_left _ (List.mem_append_right _ (h))))
  have iX00 : ∀ w ∈ wsX00, w ∈ wsX8_outputByte := fun _ h => List.mem_cons_of_mem _ (List.mem_append_left _ (List.mem_append_right _ (h)))
  have hl : lv_has ls 3 [(0, .ref (ad 0)), (1, .int (iI x))] := hl
  have hG : gW K A s.heap [gRLC K ad, gBuf K (ad 2) (ad 13) n F] s.heap [] := hG
  refine lv_aload_n S.1 S.2.1 dX8_outputByte_0 rfl (lv_at hl 0 rfl) ?_
  refine g_get S C hG iX80 0 rfl rfl 1 (by decide) (List.mem_of_getElem? (i := 3) rfl) rfl dX8_outputByte_1 ?_
  refine lv_iload_n S.1 S.2.1 dX8_outputByte_4 rfl (lv_at hl 1 rfl) ?_
  refine g_invV (As := [.int (iI x)]) (rest := []) (gs' := (fun u : Unit => [gRLC K ad, gBuf K (ad 2) (ad 13) n F])) S C hG [1] (c_X0_get l K (ad 2) (ad 13) n F x h0 hx) rfl rfl 0 rfl rfl (cwV 1 S.2.2.2.2 gX8_outputByte_X0_get rfl rfl rfl (by decide +kernel) ⟨Nat.le_of_ble_eq_true rfl, Nat.le_of_ble_eq_true rfl⟩) rfl hl.1 rfl (Nat.le_of_ble_eq_true rfl) dX8_outputByte_5 ⟨Nat.le_of_ble_eq_true rfl, Nat.le_of_ble_eq_true rfl⟩ (fun _ => Nat.le_of_ble_eq_true rfl) (fun _ => rfl) (fun v u H locs hp hG => ?_)
  subst hp
  refine g_top (w := .int (iI (F x % 256))) (congrArg (fun z : Int => Value.int (iI z)) ((bget_in (by omega)))) ?_
  refine lv_istore_n (lv' := [(2, .int (iI (F x % 256))), (0, .ref (ad 0)), (1, .int (iI x))]) S.1 S.2.1 dX8_outputByte_8 rfl hl (by decide) rfl (fun ls hl => ?_)
  refine lv_iload_n S.1 S.2.1 dX8_outputByte_9 rfl (lv_at hl 0 rfl) ?_
  refine g_iconst S dX8_outputByte_10 ?_
  refine g_icmp_ne (tgt := 25) S dX8_outputByte_11 (by decide) (by omega) (by omega) (fun q11 => ?_) (fun q11 => ?_)
  · skip
    refine lv_iload_n S.1 S.2.1 dX8_outputByte_25 rfl (lv_at hl 0 rfl) ?_
    have hG : gW K A s.heap [gRLC K ad, gBuf K (ad 2) (ad 13) n F] _ _ := hG
    exact g_iret S hr hlk hQ dX8_outputByte_26 (Nat.le_of_ble_eq_true rfl) (Nat.le_of_ble_eq_true rfl) (() : Unit) rfl hG
  · skip
    omega

set_option maxHeartbeats 1000000 in
set_option maxRecDepth 100000 in
theorem x1_outputByte (l : Launch) (K : KC) (ad : Nat → Nat) (n : Int) (F : Int → Int) (x : Int) (hx : -2147483648 ≤ x ∧ x < 2147483648) (h0 : 0 ≤ n ∧ n ≤ 400) (h1 : ¬ (0 ≤ x ∧ x < n)) (hst : l.stackTraces = false) : mX l yX8_outputByte wsX8_outputByte 6 82 K [.ref (ad 0), .int (iI x)] [gRLC K ad, gBuf K (ad 2) (ad 13) n F] "java/util/NoSuchElementException" (fun (u : Unit) => True) (fun (u : Unit) => [gRLC K ad, gBuf K (ad 2) (ad 13) n F]) 1 6 := by
  refine mX_of cX8_outputByte 3 (by decide) rfl (Nat.le_of_ble_eq_true rfl) ?_
  intro p e s m below meth c A ls Q S C hG hl hex hlk hin hQ
  have S : CallFix p m c cX8_outputByte 3 s ([.ref (ad 0), .int (iI x)] : List Value).toArray wsX8_outputByte RX8 := S
  have iX80 : ∀ w ∈ wsX80, w ∈ wsX8_outputByte := fun _ h => List.mem_cons_of_mem _ (List.mem_append_left _ (List.mem_append_left _ (List.mem_append_right _ (h))))
  have iX00 : ∀ w ∈ wsX00, w ∈ wsX8_outputByte := fun _ h => List.mem_cons_of_mem _ (List.mem_append_left _ (List.mem_append_right _ (h)))
  have hl : lv_has ls 3 [(0, .ref (ad 0)), (1, .int (iI x))] := hl
  have hG : gW K A s.heap [gRLC K ad, gBuf K (ad 2) (ad 13) n F] s.heap [] := hG
  refine lv_aload_n S.1 S.2.1 dX8_outputByte_0 rfl (lv_at hl 0 rfl) ?_
  refine g_get S C hG iX80 0 rfl rfl 1 (by decide) (List.mem_of_getElem? (i := 3) rfl) rfl dX8_outputByte_1 ?_
  refine lv_iload_n S.1 S.2.1 dX8_outputByte_4 rfl (lv_at hl 1 rfl) ?_
  refine g_invV (As := [.int (iI x)]) (rest := []) (gs' := (fun u : Unit => [gRLC K ad, gBuf K (ad 2) (ad 13) n F])) S C hG [1] (c_X0_get l K (ad 2) (ad 13) n F x h0 hx) rfl rfl 0 rfl rfl (cwV 1 S.2.2.2.2 gX8_outputByte_X0_get rfl rfl rfl (by decide +kernel) ⟨Nat.le_of_ble_eq_true rfl, Nat.le_of_ble_eq_true rfl⟩) rfl hl.1 rfl (Nat.le_of_ble_eq_true rfl) dX8_outputByte_5 ⟨Nat.le_of_ble_eq_true rfl, Nat.le_of_ble_eq_true rfl⟩ (fun _ => Nat.le_of_ble_eq_true rfl) (fun _ => rfl) (fun v u H locs hp hG => ?_)
  subst hp
  refine g_top (w := .int (iI ((-1)))) (congrArg (fun z : Int => Value.int (iI z)) ((bget_out (by omega)))) ?_
  refine lv_istore_n (lv' := [(2, .int (iI (-1))), (0, .ref (ad 0)), (1, .int (iI x))]) S.1 S.2.1 dX8_outputByte_8 rfl hl (by decide) rfl (fun ls hl => ?_)
  refine lv_iload_n S.1 S.2.1 dX8_outputByte_9 rfl (lv_at hl 0 rfl) ?_
  refine g_iconst S dX8_outputByte_10 ?_
  refine g_icmp_ne (tgt := 25) S dX8_outputByte_11 (by decide) (by omega) (by omega) (fun q11 => ?_) (fun q11 => ?_)
  · skip
    exact absurd q11 (by decide)
  · skip
    have hG : gW K A s.heap [gRLC K ad, gBuf K (ad 2) (ad 13) n F] _ _ := hG
    exact g_thrNW S C hl.1 hst hQ hex hlk th_ex_346 th_ft_346 (List.mem_of_getElem? (i := 1) rfl) (List.mem_of_getElem? (i := 2) rfl) (List.mem_of_getElem? (l := strW) (i := 29) rfl) (fun w hw => List.mem_cons_of_mem _ (List.mem_append_right _ (hw))) th_ng_346 th_gd_346 dX8_outputByte_14 dX8_outputByte_17 dX8_outputByte_18 dX8_outputByte_21 dX8_outputByte_24 ⟨Nat.le_of_ble_eq_true rfl, Nat.le_of_ble_eq_true rfl, Nat.le_of_ble_eq_true rfl, Nat.le_of_ble_eq_true rfl⟩ (Nat.le_of_ble_eq_true rfl) (Nat.le_of_ble_eq_true rfl) (() : Unit) trivial hG

set_option maxHeartbeats 1000000 in
set_option maxRecDepth 100000 in
theorem c_X8_alike (l : Launch) (K : KC) (ad : Nat → Nat) (ou : Int) (mi : Int) (bo : Int) (ln : Int) (LF : Int → Int) (sn : Int) (SF : Int → Int) (N : Int → Int) (pv : PV) (ps : Nat) (pr : RU) (pX : Int → Int) (pw : PV) (ps_2 : Nat) (pr_2 : RU) (pX_2 : Int → Int) (y : Int) (x : Int) (hS : ScOk N ou mi bo ln LF sn SF) (hN : NOk0 N) (hv : -2147483648 ≤ y ∧ y < 2147483648) (hx : -2147483648 ≤ x ∧ x < 2147483648) (hs : 0 ≤ y ∧ y < N 4) (ht : 0 ≤ x ∧ x < N 4) (hne : y ≠ x) : mG l yX8_alike wsX8_alike 5 119 K [.ref (ad 0), .int (iI y), .int (iI x)] [gRLC K ad, gPthV K (ad 8) (ad 27) (ad 35) (ad 28) (ad 29) (ad 30) (ad 31) (ad 32) (ad 33) (ad 34) pv, gRayU K (ad 35) (ad 36) (ad 37) (ad 38) (ad 39) ps pr pX, gPthV K (ad 9) (ad 40) (ad 48) (ad 41) (ad 42) (ad 43) (ad 44) (ad 45) (ad 46) (ad 47) pw, gRayU K (ad 48) (ad 49) (ad 50) (ad 51) (ad 52) ps_2 pr_2 pX_2, gScn K (ad 3) (ad 14) (ad 15) (ad 16) (ad 17) ou mi bo ln LF sn SF] (fun (v : Value) (u : PV × RU × (Int → Int) × PV × RU × (Int → Int)) => (v = .int (iI (alkS N y x : Int))) ∧ (PthR N (sP N y) (sY N y) (sD N y) u.1) ∧ (PthR N (sP N x) (sY N x) (sD N x) u.2.2.2.1)) (fun (u : PV × RU × (Int → Int) × PV × RU × (Int → Int)) => [gRLC K ad, gPthV K (ad 8) (ad 27) (ad 35) (ad 28) (ad 29) (ad 30) (ad 31) (ad 32) (ad 33) (ad 34) u.1, gRayU K (ad 35) (ad 36) (ad 37) (ad 38) (ad 39) (ad 3) u.2.1 u.2.2.1, gPthV K (ad 9) (ad 40) (ad 48) (ad 41) (ad 42) (ad 43) (ad 44) (ad 45) (ad 46) (ad 47) u.2.2.2.1, gRayU K (ad 48) (ad 49) (ad 50) (ad 51) (ad 52) (ad 3) u.2.2.2.2.1 u.2.2.2.2.2, gScn K (ad 3) (ad 14) (ad 15) (ad 16) (ad 17) ou mi bo ln LF sn SF]) 0 0 := by
  refine mG_of cX8_alike 3 (by decide) rfl (Nat.le_of_ble_eq_true rfl) ?_
  intro p e s m below meth c A ls Q S C hG hl hr hlk hin hQ
  have S : CallFix p m c cX8_alike 3 s ([.ref (ad 0), .int (iI y), .int (iI x)] : List Value).toArray wsX8_alike RX8 := S
  have iX80 : ∀ w ∈ wsX80, w ∈ wsX8_alike := fun _ h => List.mem_cons_of_mem _ (List.mem_append_left _ (List.mem_append_left _ (List.mem_append_left _ (List.mem_append_left _ (List.mem_append_left _ (List.mem_append_left _ (List.mem_append_right _ (h))))))))
  have iX50 : ∀ w ∈ wsX50, w ∈ wsX8_alike := fun _ h => List.mem_cons_of_mem _ (List.mem_append_left _ (List.mem_append_left _ (List.mem_append_left _ (List.mem_append_left _ (List.mem_append_left _ (List.mem_append_right _ (h)))))))
  have iX70 : ∀ w ∈ wsX70, w ∈ wsX8_alike := fun _ h => List.mem_cons_of_mem _ (List.mem_append_left _ (List.mem_append_left _ (List.mem_append_left _ (List.mem_append_left _ (List.mem_append_right _ (h))))))
  have iX30 : ∀ w ∈ wsX30, w ∈ wsX8_alike := fun _ h => List.mem_cons_of_mem _ (List.mem_append_left _ (List.mem_append_left _ (List.mem_append_left _ (List.mem_append_right _ (h)))))
  have iX40 : ∀ w ∈ wsX40, w ∈ wsX8_alike := fun _ h => List.mem_cons_of_mem _ (List.mem_append_left _ (List.mem_append_left _ (List.mem_append_right _ (h))))
  have hl : lv_has ls 3 [(0, .ref (ad 0)), (1, .int (iI y)), (2, .int (iI x))] := hl
  have hG : gW K A s.heap [gRLC K ad, gPthV K (ad 8) (ad 27) (ad 35) (ad 28) (ad 29) (ad 30) (ad 31) (ad 32) (ad 33) (ad 34) pv, gRayU K (ad 35) (ad 36) (ad 37) (ad 38) (ad 39) ps pr pX, gPthV K (ad 9) (ad 40) (ad 48) (ad 41) (ad 42) (ad 43) (ad 44) (ad 45) (ad 46) (ad 47) pw, gRayU K (ad 48) (ad 49) (ad 50) (ad 51) (ad 52) ps_2 pr_2 pX_2, gScn K (ad 3) (ad 14) (ad 15) (ad 16) (ad 17) ou mi bo ln LF sn SF] s.heap [] := hG
  obtain ⟨e0, e1, e2, e3, e4, e5, e6⟩ := id hS
  have n0 := hN.1
  have n3 := hN.2.2.2.1
  refine lv_aload_n S.1 S.2.1 dX8_alike_0 rfl (lv_at hl 0 rfl) ?_
  refine lv_iload_n S.1 S.2.1 dX8_alike_1 rfl (lv_at hl 1 rfl) ?_
  refine lv_iload_n S.1 S.2.1 dX8_alike_2 rfl (lv_at hl 2 rfl) ?_
  refine g_invVv (As := [.int (iI y), .int (iI x)]) (rest := []) (gs' := (fun u : Unit => [gRLC K ad, gPthV K (ad 8) (ad 27) (ad 35) (ad 28) (ad 29) (ad 30) (ad 31) (ad 32) (ad 33) (ad 34) pv, gRayU K (ad 35) (ad 36) (ad 37) (ad 38) (ad 39) ps pr pX, gPthV K (ad 9) (ad 40) (ad 48) (ad 41) (ad 42) (ad 43) (ad 44) (ad 45) (ad 46) (ad 47) pw, gRayU K (ad 48) (ad 49) (ad 50) (ad 51) (ad 52) ps_2 pr_2 pX_2, gScn K (ad 3) (ad 14) (ad 15) (ad 16) (ad 17) ou mi bo ln LF sn SF])) S C hG [0, 5] (c_X8_checkTwoShots l K ad ou mi bo ln LF sn SF N y x hS hN hv hx hs ht hne) rfl rfl 0 rfl rfl (cwV 2 S.2.2.2.2 gX8_alike_X8_checkTwoShots rfl rfl rfl (by decide +kernel) ⟨Nat.le_of_ble_eq_true rfl, Nat.le_of_ble_eq_true rfl⟩) rfl hl.1 rfl (Nat.le_of_ble_eq_true rfl) dX8_alike_3 ⟨Nat.le_of_ble_eq_true rfl, Nat.le_of_ble_eq_true rfl⟩ (fun _ => Nat.le_of_ble_eq_true rfl) (fun _ => rfl) (fun u H locs hp hG => ?_)
  refine lv_aload_n S.1 S.2.1 dX8_alike_6 rfl (lv_at hl 0 rfl) ?_
  refine lv_aload_n S.1 S.2.1 dX8_alike_7 rfl (lv_at hl 0 rfl) ?_
  refine g_get S C hG iX80 0 rfl rfl 7 (by decide) (List.mem_of_getElem? (i := 1) rfl) rfl dX8_alike_8 ?_
  refine lv_iload_n S.1 S.2.1 dX8_alike_11 rfl (lv_at hl 1 rfl) ?_
  refine g_invV (As := [.ref (ad 8), .int (iI y)]) (rest := []) (gs' := (fun u : PV × RU × (Int → Int) => [gRLC K ad, gPthV K (ad 8) (ad 27) (ad 35) (ad 28) (ad 29) (ad 30) (ad 31) (ad 32) (ad 33) (ad 34) u.1, gRayU K (ad 35) (ad 36) (ad 37) (ad 38) (ad 39) (ad 3) u.2.1 u.2.2, gPthV K (ad 9) (ad 40) (ad 48) (ad 41) (ad 42) (ad 43) (ad 44) (ad 45) (ad 46) (ad 47) pw, gRayU K (ad 48) (ad 49) (ad 50) (ad 51) (ad 52) ps_2 pr_2 pX_2, gScn K (ad 3) (ad 14) (ad 15) (ad 16) (ad 17) ou mi bo ln LF sn SF])) S C hG [0, 1, 2, 5] (c_X8_pathOf l K ad ou mi bo ln LF sn SF N (ad 8) (ad 27) (ad 35) (ad 28) (ad 29) (ad 30) (ad 31) (ad 32) (ad 33) (ad 34) (ad 36) (ad 37) (ad 38) (ad 39) pv ps pr pX y hS hN hs) rfl rfl 0 rfl rfl (cwV 2 S.2.2.2.2 gX8_alike_X8_pathOf rfl rfl rfl (by decide +kernel) ⟨Nat.le_of_ble_eq_true rfl, Nat.le_of_ble_eq_true rfl⟩) rfl hl.1 rfl (Nat.le_of_ble_eq_true rfl) dX8_alike_12 ⟨Nat.le_of_ble_eq_true rfl, Nat.le_of_ble_eq_true rfl⟩ (fun _ => Nat.le_of_ble_eq_true rfl) (fun _ => rfl) (fun v u H locs hp hG => ?_)
  obtain ⟨pv2_12, pr2_12, pX2_12⟩ := u
  obtain ⟨rfl, hp_12⟩ := hp
  have hp_12 : PthR N (sP N y) (sY N y) (sD N y) pv2_12 := hp_12
  have hG : gW K A s.heap [gRLC K ad, gPthV K (ad 8) (ad 27) (ad 35) (ad 28) (ad 29) (ad 30) (ad 31) (ad 32) (ad 33) (ad 34) pv2_12, gRayU K (ad 35) (ad 36) (ad 37) (ad 38) (ad 39) (ad 3) pr2_12 pX2_12, gPthV K (ad 9) (ad 40) (ad 48) (ad 41) (ad 42) (ad 43) (ad 44) (ad 45) (ad 46) (ad 47) pw, gRayU K (ad 48) (ad 49) (ad 50) (ad 51) (ad 52) ps_2 pr_2 pX_2, gScn K (ad 3) (ad 14) (ad 15) (ad 16) (ad 17) ou mi bo ln LF sn SF] _ _ := hG
  have g4 := sho_bd hN hs.1 hs.2
  obtain ⟨b1, b2, b3, b4⟩ := hp_12.bd hN g4.2.2.1 g4.2.1
  have b5 : pv2_12.1 = (gS N y : Int) := b2
  refine lv_aload_n S.1 S.2.1 dX8_alike_15 rfl (lv_at hl 0 rfl) ?_
  refine lv_aload_n S.1 S.2.1 dX8_alike_16 rfl (lv_at hl 0 rfl) ?_
  refine g_get S C hG iX80 0 rfl rfl 8 (by decide) (List.mem_of_getElem? (i := 2) rfl) rfl dX8_alike_17 ?_
  refine lv_iload_n S.1 S.2.1 dX8_alike_20 rfl (lv_at hl 2 rfl) ?_
  refine g_invV (As := [.ref (ad 9), .int (iI x)]) (rest := [.ref (ad 8)]) (gs' := (fun u : PV × RU × (Int → Int) => [gRLC K ad, gPthV K (ad 8) (ad 27) (ad 35) (ad 28) (ad 29) (ad 30) (ad 31) (ad 32) (ad 33) (ad 34) pv2_12, gRayU K (ad 35) (ad 36) (ad 37) (ad 38) (ad 39) (ad 3) pr2_12 pX2_12, gPthV K (ad 9) (ad 40) (ad 48) (ad 41) (ad 42) (ad 43) (ad 44) (ad 45) (ad 46) (ad 47) u.1, gRayU K (ad 48) (ad 49) (ad 50) (ad 51) (ad 52) (ad 3) u.2.1 u.2.2, gScn K (ad 3) (ad 14) (ad 15) (ad 16) (ad 17) ou mi bo ln LF sn SF])) S C hG [0, 3, 4, 5] (c_X8_pathOf l K ad ou mi bo ln LF sn SF N (ad 9) (ad 40) (ad 48) (ad 41) (ad 42) (ad 43) (ad 44) (ad 45) (ad 46) (ad 47) (ad 49) (ad 50) (ad 51) (ad 52) pw ps_2 pr_2 pX_2 x hS hN ht) rfl rfl 0 rfl rfl (cwV 2 S.2.2.2.2 gX8_alike_X8_pathOf rfl rfl rfl (by decide +kernel) ⟨Nat.le_of_ble_eq_true rfl, Nat.le_of_ble_eq_true rfl⟩) rfl hl.1 rfl (Nat.le_of_ble_eq_true rfl) dX8_alike_21 ⟨Nat.le_of_ble_eq_true rfl, Nat.le_of_ble_eq_true rfl⟩ (fun _ => Nat.le_of_ble_eq_true rfl) (fun _ => rfl) (fun v u H locs hp hG => ?_)
  obtain ⟨pv2_21, pr2_21, pX2_21⟩ := u
  obtain ⟨rfl, hp_21⟩ := hp
  have hp_21 : PthR N (sP N x) (sY N x) (sD N x) pv2_21 := hp_21
  have hG : gW K A s.heap [gRLC K ad, gPthV K (ad 8) (ad 27) (ad 35) (ad 28) (ad 29) (ad 30) (ad 31) (ad 32) (ad 33) (ad 34) pv2_12, gRayU K (ad 35) (ad 36) (ad 37) (ad 38) (ad 39) (ad 3) pr2_12 pX2_12, gPthV K (ad 9) (ad 40) (ad 48) (ad 41) (ad 42) (ad 43) (ad 44) (ad 45) (ad 46) (ad 47) pv2_21, gRayU K (ad 48) (ad 49) (ad 50) (ad 51) (ad 52) (ad 3) pr2_21 pX2_21, gScn K (ad 3) (ad 14) (ad 15) (ad 16) (ad 17) ou mi bo ln LF sn SF] _ _ := hG
  have g5 := sho_bd hN ht.1 ht.2
  obtain ⟨d1, d2, d3, d4⟩ := hp_21.bd hN g5.2.2.1 g5.2.1
  have d5 : pv2_21.1 = (gS N x : Int) := d2
  have hG : gW K A s.heap [gRLC K ad, gPth K (ad 8) (ad 27) (ad 35) pv2_12.1 pv2_12.2.1 (ad 28) (ad 29) (ad 30) (ad 31) (ad 32) (ad 33) (ad 34) pv2_12.2.2.1 pv2_12.2.2.2.1 pv2_12.2.2.2.2.1 pv2_12.2.2.2.2.2.1 pv2_12.2.2.2.2.2.2.1 pv2_12.2.2.2.2.2.2.2.1 pv2_12.2.2.2.2.2.2.2.2, gRayU K (ad 35) (ad 36) (ad 37) (ad 38) (ad 39) (ad 3) pr2_12 pX2_12, gPth K (ad 9) (ad 40) (ad 48) pv2_21.1 pv2_21.2.1 (ad 41) (ad 42) (ad 43) (ad 44) (ad 45) (ad 46) (ad 47) pv2_21.2.2.1 pv2_21.2.2.2.1 pv2_21.2.2.2.2.1 pv2_21.2.2.2.2.2.1 pv2_21.2.2.2.2.2.2.1 pv2_21.2.2.2.2.2.2.2.1 pv2_21.2.2.2.2.2.2.2.2, gRayU K (ad 48) (ad 49) (ad 50) (ad 51) (ad 52) (ad 3) pr2_21 pX2_21, gScn K (ad 3) (ad 14) (ad 15) (ad 16) (ad 17) ou mi bo ln LF sn SF] _ _ := hG
  refine g_invV (As := [.ref (ad 9)]) (rest := []) (gs' := (fun u : Int => [gRLC K ad, gPth K (ad 8) (ad 27) (ad 35) pv2_12.1 pv2_12.2.1 (ad 28) (ad 29) (ad 30) (ad 31) (ad 32) (ad 33) (ad 34) pv2_12.2.2.1 pv2_12.2.2.2.1 pv2_12.2.2.2.2.1 pv2_12.2.2.2.2.2.1 pv2_12.2.2.2.2.2.2.1 pv2_12.2.2.2.2.2.2.2.1 pv2_12.2.2.2.2.2.2.2.2, gRayU K (ad 35) (ad 36) (ad 37) (ad 38) (ad 39) (ad 3) pr2_12 pX2_12, gPth K (ad 9) (ad 40) (ad 48) pv2_21.1 pv2_21.2.1 (ad 41) (ad 42) (ad 43) (ad 44) (ad 45) (ad 46) (ad 47) pv2_21.2.2.1 pv2_21.2.2.2.1 pv2_21.2.2.2.2.1 pv2_21.2.2.2.2.2.1 pv2_21.2.2.2.2.2.2.1 pv2_21.2.2.2.2.2.2.2.1 pv2_21.2.2.2.2.2.2.2.2, gRayU K (ad 48) (ad 49) (ad 50) (ad 51) (ad 52) (ad 3) pr2_21 pX2_21, gScn K (ad 3) (ad 14) (ad 15) (ad 16) (ad 17) ou mi bo ln LF sn SF])) S C hG [1, 3] (c_X3_legsAlike l K (ad 8) (ad 27) (ad 35) pv2_12.1 pv2_12.2.1 (ad 28) (ad 29) (ad 30) (ad 31) (ad 32) (ad 33) (ad 34) pv2_12.2.2.1 pv2_12.2.2.2.1 pv2_12.2.2.2.2.1 pv2_12.2.2.2.2.2.1 pv2_12.2.2.2.2.2.2.1 pv2_12.2.2.2.2.2.2.2.1 pv2_12.2.2.2.2.2.2.2.2 (ad 9) (ad 40) (ad 48) pv2_21.1 pv2_21.2.1 (ad 41) (ad 42) (ad 43) (ad 44) (ad 45) (ad 46) (ad 47) pv2_21.2.2.1 pv2_21.2.2.2.1 pv2_21.2.2.2.2.1 pv2_21.2.2.2.2.2.1 pv2_21.2.2.2.2.2.2.1 pv2_21.2.2.2.2.2.2.2.1 pv2_21.2.2.2.2.2.2.2.2 b1 d1 (fun i a b => ⟨⟨(b4 i a b).1.1, (b4 i a b).1.2.1⟩, (b4 i a b).2.1⟩) (fun i a b => ⟨⟨(d4 i a b).1.1, (d4 i a b).1.2.1⟩, (d4 i a b).2.1⟩)) rfl rfl 0 rfl rfl (cwV 1 S.2.2.2.2 gX8_alike_X3_legsAlike rfl rfl rfl (by decide +kernel) ⟨Nat.le_of_ble_eq_true rfl, Nat.le_of_ble_eq_true rfl⟩) rfl hl.1 rfl (Nat.le_of_ble_eq_true rfl) dX8_alike_24 ⟨Nat.le_of_ble_eq_true rfl, Nat.le_of_ble_eq_true rfl⟩ (fun _ => Nat.le_of_ble_eq_true rfl) (fun _ => rfl) (fun v u H locs hp hG => ?_)
  obtain ⟨x_24, rfl⟩ : ∃ z, z = u := ⟨_, rfl⟩
  obtain ⟨rfl, hx_24⟩ := hp
  have hx_24 : AlkN pv2_12.2.2.1 pv2_12.2.2.2.1 pv2_21.2.2.1 pv2_21.2.2.2.1 pv2_12.1 pv2_21.1 x_24 := hx_24
  have hG : gW K A s.heap [gRLC K ad, gPth K (ad 8) (ad 27) (ad 35) pv2_12.1 pv2_12.2.1 (ad 28) (ad 29) (ad 30) (ad 31) (ad 32) (ad 33) (ad 34) pv2_12.2.2.1 pv2_12.2.2.2.1 pv2_12.2.2.2.2.1 pv2_12.2.2.2.2.2.1 pv2_12.2.2.2.2.2.2.1 pv2_12.2.2.2.2.2.2.2.1 pv2_12.2.2.2.2.2.2.2.2, gRayU K (ad 35) (ad 36) (ad 37) (ad 38) (ad 39) (ad 3) pr2_12 pX2_12, gPth K (ad 9) (ad 40) (ad 48) pv2_21.1 pv2_21.2.1 (ad 41) (ad 42) (ad 43) (ad 44) (ad 45) (ad 46) (ad 47) pv2_21.2.2.1 pv2_21.2.2.2.1 pv2_21.2.2.2.2.1 pv2_21.2.2.2.2.2.1 pv2_21.2.2.2.2.2.2.1 pv2_21.2.2.2.2.2.2.2.1 pv2_21.2.2.2.2.2.2.2.2, gRayU K (ad 48) (ad 49) (ad 50) (ad 51) (ad 52) (ad 3) pr2_21 pX2_21, gScn K (ad 3) (ad 14) (ad 15) (ad 16) (ad 17) ou mi bo ln LF sn SF] _ _ := hG
  have hG : gW K A s.heap [gRLC K ad, gPthV K (ad 8) (ad 27) (ad 35) (ad 28) (ad 29) (ad 30) (ad 31) (ad 32) (ad 33) (ad 34) pv2_12, gRayU K (ad 35) (ad 36) (ad 37) (ad 38) (ad 39) (ad 3) pr2_12 pX2_12, gPthV K (ad 9) (ad 40) (ad 48) (ad 41) (ad 42) (ad 43) (ad 44) (ad 45) (ad 46) (ad 47) pv2_21, gRayU K (ad 48) (ad 49) (ad 50) (ad 51) (ad 52) (ad 3) pr2_21 pX2_21, gScn K (ad 3) (ad 14) (ad 15) (ad 16) (ad 17) ou mi bo ln LF sn SF] _ _ := hG
  exact g_iret S hr hlk hQ dX8_alike_27 (Nat.le_of_ble_eq_true rfl) (Nat.le_of_ble_eq_true rfl) ((pv2_12, pr2_12, pX2_12, pv2_21, pr2_21, pX2_21) : PV × RU × (Int → Int) × PV × RU × (Int → Int)) ⟨(congrArg (fun z : Int => Value.int (iI z)) (hx_24.alk hp_12 hp_21)), hp_12, hp_21⟩ hG

set_option maxHeartbeats 1000000 in
set_option maxRecDepth 100000 in
theorem c_X8_together (l : Launch) (K : KC) (ad : Nat → Nat) (ou : Int) (mi : Int) (bo : Int) (ln : Int) (LF : Int → Int) (sn : Int) (SF : Int → Int) (N : Int → Int) (pv : PV) (ps : Nat) (pr : RU) (pX : Int → Int) (pw : PV) (ps_2 : Nat) (pr_2 : RU) (pX_2 : Int → Int) (y : Int) (x : Int) (hS : ScOk N ou mi bo ln LF sn SF) (hN : NOk0 N) (hv : -2147483648 ≤ y ∧ y < 2147483648) (hx : -2147483648 ≤ x ∧ x < 2147483648) (hs : 0 ≤ y ∧ y < N 4) (ht : 0 ≤ x ∧ x < N 4) (hne : y ≠ x) : mG l yX8_together wsX8_together 5 119 K [.ref (ad 0), .int (iI y), .int (iI x)] [gRLC K ad, gPthV K (ad 8) (ad 27) (ad 35) (ad 28) (ad 29) (ad 30) (ad 31) (ad 32) (ad 33) (ad 34) pv, gRayU K (ad 35) (ad 36) (ad 37) (ad 38) (ad 39) ps pr pX, gPthV K (ad 9) (ad 40) (ad 48) (ad 41) (ad 42) (ad 43) (ad 44) (ad 45) (ad 46) (ad 47) pw, gRayU K (ad 48) (ad 49) (ad 50) (ad 51) (ad 52) ps_2 pr_2 pX_2, gScn K (ad 3) (ad 14) (ad 15) (ad 16) (ad 17) ou mi bo ln LF sn SF] (fun (v : Value) (u : Int × PV × RU × (Int → Int) × PV × RU × (Int → Int)) => (v = .int (iI u.1)) ∧ (PthR N (sP N y) (sY N y) (sD N y) u.2.1) ∧ (PthR N (sP N x) (sY N x) (sD N x) u.2.2.2.2.1) ∧ (tgR N y x u.1)) (fun (u : Int × PV × RU × (Int → Int) × PV × RU × (Int → Int)) => [gRLC K ad, gPthV K (ad 8) (ad 27) (ad 35) (ad 28) (ad 29) (ad 30) (ad 31) (ad 32) (ad 33) (ad 34) u.2.1, gRayU K (ad 35) (ad 36) (ad 37) (ad 38) (ad 39) (ad 3) u.2.2.1 u.2.2.2.1, gPthV K (ad 9) (ad 40) (ad 48) (ad 41) (ad 42) (ad 43) (ad 44) (ad 45) (ad 46) (ad 47) u.2.2.2.2.1, gRayU K (ad 48) (ad 49) (ad 50) (ad 51) (ad 52) (ad 3) u.2.2.2.2.2.1 u.2.2.2.2.2.2, gScn K (ad 3) (ad 14) (ad 15) (ad 16) (ad 17) ou mi bo ln LF sn SF]) 0 0 := by
  refine mG_of cX8_together 3 (by decide) rfl (Nat.le_of_ble_eq_true rfl) ?_
  intro p e s m below meth c A ls Q S C hG hl hr hlk hin hQ
  have S : CallFix p m c cX8_together 3 s ([.ref (ad 0), .int (iI y), .int (iI x)] : List Value).toArray wsX8_together RX8 := S
  have iX80 : ∀ w ∈ wsX80, w ∈ wsX8_together := fun _ h => List.mem_cons_of_mem _ (List.mem_append_left _ (List.mem_append_left _ (List.mem_append_left _ (List.mem_append_left _ (List.mem_append_left _ (List.mem_append_left _ (List.mem_append_right _ (h))))))))
  have iX50 : ∀ w ∈ wsX50, w ∈ wsX8_together := fun _ h => List.mem_cons_of_mem _ (List.mem_append_left _ (List.mem_append_left _ (List.mem_append_left _ (List.mem_append_left _ (List.mem_append_left _ (List.mem_append_right _ (h)))))))
  have iX70 : ∀ w ∈ wsX70, w ∈ wsX8_together := fun _ h => List.mem_cons_of_mem _ (List.mem_append_left _ (List.mem_append_left _ (List.mem_append_left _ (List.mem_append_left _ (List.mem_append_right _ (h))))))
  have iX30 : ∀ w ∈ wsX30, w ∈ wsX8_together := fun _ h => List.mem_cons_of_mem _ (List.mem_append_left _ (List.mem_append_left _ (List.mem_append_left _ (List.mem_append_right _ (h)))))
  have iX40 : ∀ w ∈ wsX40, w ∈ wsX8_together := fun _ h => List.mem_cons_of_mem _ (List.mem_append_left _ (List.mem_append_left _ (List.mem_append_right _ (h))))
  have hl : lv_has ls 3 [(0, .ref (ad 0)), (1, .int (iI y)), (2, .int (iI x))] := hl
  have hG : gW K A s.heap [gRLC K ad, gPthV K (ad 8) (ad 27) (ad 35) (ad 28) (ad 29) (ad 30) (ad 31) (ad 32) (ad 33) (ad 34) pv, gRayU K (ad 35) (ad 36) (ad 37) (ad 38) (ad 39) ps pr pX, gPthV K (ad 9) (ad 40) (ad 48) (ad 41) (ad 42) (ad 43) (ad 44) (ad 45) (ad 46) (ad 47) pw, gRayU K (ad 48) (ad 49) (ad 50) (ad 51) (ad 52) ps_2 pr_2 pX_2, gScn K (ad 3) (ad 14) (ad 15) (ad 16) (ad 17) ou mi bo ln LF sn SF] s.heap [] := hG
  obtain ⟨e0, e1, e2, e3, e4, e5, e6⟩ := id hS
  have n0 := hN.1
  have n3 := hN.2.2.2.1
  refine lv_aload_n S.1 S.2.1 dX8_together_0 rfl (lv_at hl 0 rfl) ?_
  refine lv_iload_n S.1 S.2.1 dX8_together_1 rfl (lv_at hl 1 rfl) ?_
  refine lv_iload_n S.1 S.2.1 dX8_together_2 rfl (lv_at hl 2 rfl) ?_
  refine g_invVv (As := [.int (iI y), .int (iI x)]) (rest := []) (gs' := (fun u : Unit => [gRLC K ad, gPthV K (ad 8) (ad 27) (ad 35) (ad 28) (ad 29) (ad 30) (ad 31) (ad 32) (ad 33) (ad 34) pv, gRayU K (ad 35) (ad 36) (ad 37) (ad 38) (ad 39) ps pr pX, gPthV K (ad 9) (ad 40) (ad 48) (ad 41) (ad 42) (ad 43) (ad 44) (ad 45) (ad 46) (ad 47) pw, gRayU K (ad 48) (ad 49) (ad 50) (ad 51) (ad 52) ps_2 pr_2 pX_2, gScn K (ad 3) (ad 14) (ad 15) (ad 16) (ad 17) ou mi bo ln LF sn SF])) S C hG [0, 5] (c_X8_checkTwoShots l K ad ou mi bo ln LF sn SF N y x hS hN hv hx hs ht hne) rfl rfl 0 rfl rfl (cwV 2 S.2.2.2.2 gX8_together_X8_checkTwoShots rfl rfl rfl (by decide +kernel) ⟨Nat.le_of_ble_eq_true rfl, Nat.le_of_ble_eq_true rfl⟩) rfl hl.1 rfl (Nat.le_of_ble_eq_true rfl) dX8_together_3 ⟨Nat.le_of_ble_eq_true rfl, Nat.le_of_ble_eq_true rfl⟩ (fun _ => Nat.le_of_ble_eq_true rfl) (fun _ => rfl) (fun u H locs hp hG => ?_)
  refine lv_aload_n S.1 S.2.1 dX8_together_6 rfl (lv_at hl 0 rfl) ?_
  refine lv_aload_n S.1 S.2.1 dX8_together_7 rfl (lv_at hl 0 rfl) ?_
  refine g_get S C hG iX80 0 rfl rfl 7 (by decide) (List.mem_of_getElem? (i := 1) rfl) rfl dX8_together_8 ?_
  refine lv_iload_n S.1 S.2.1 dX8_together_11 rfl (lv_at hl 1 rfl) ?_
  refine g_invV (As := [.ref (ad 8), .int (iI y)]) (rest := []) (gs' := (fun u : PV × RU × (Int → Int) => [gRLC K ad, gPthV K (ad 8) (ad 27) (ad 35) (ad 28) (ad 29) (ad 30) (ad 31) (ad 32) (ad 33) (ad 34) u.1, gRayU K (ad 35) (ad 36) (ad 37) (ad 38) (ad 39) (ad 3) u.2.1 u.2.2, gPthV K (ad 9) (ad 40) (ad 48) (ad 41) (ad 42) (ad 43) (ad 44) (ad 45) (ad 46) (ad 47) pw, gRayU K (ad 48) (ad 49) (ad 50) (ad 51) (ad 52) ps_2 pr_2 pX_2, gScn K (ad 3) (ad 14) (ad 15) (ad 16) (ad 17) ou mi bo ln LF sn SF])) S C hG [0, 1, 2, 5] (c_X8_pathOf l K ad ou mi bo ln LF sn SF N (ad 8) (ad 27) (ad 35) (ad 28) (ad 29) (ad 30) (ad 31) (ad 32) (ad 33) (ad 34) (ad 36) (ad 37) (ad 38) (ad 39) pv ps pr pX y hS hN hs) rfl rfl 0 rfl rfl (cwV 2 S.2.2.2.2 gX8_together_X8_pathOf rfl rfl rfl (by decide +kernel) ⟨Nat.le_of_ble_eq_true rfl, Nat.le_of_ble_eq_true rfl⟩) rfl hl.1 rfl (Nat.le_of_ble_eq_true rfl) dX8_together_12 ⟨Nat.le_of_ble_eq_true rfl, Nat.le_of_ble_eq_true rfl⟩ (fun _ => Nat.le_of_ble_eq_true rfl) (fun _ => rfl) (fun v u H locs hp hG => ?_)
  obtain ⟨pv2_12, pr2_12, pX2_12⟩ := u
  obtain ⟨rfl, hp_12⟩ := hp
  have hp_12 : PthR N (sP N y) (sY N y) (sD N y) pv2_12 := hp_12
  have hG : gW K A s.heap [gRLC K ad, gPthV K (ad 8) (ad 27) (ad 35) (ad 28) (ad 29) (ad 30) (ad 31) (ad 32) (ad 33) (ad 34) pv2_12, gRayU K (ad 35) (ad 36) (ad 37) (ad 38) (ad 39) (ad 3) pr2_12 pX2_12, gPthV K (ad 9) (ad 40) (ad 48) (ad 41) (ad 42) (ad 43) (ad 44) (ad 45) (ad 46) (ad 47) pw, gRayU K (ad 48) (ad 49) (ad 50) (ad 51) (ad 52) ps_2 pr_2 pX_2, gScn K (ad 3) (ad 14) (ad 15) (ad 16) (ad 17) ou mi bo ln LF sn SF] _ _ := hG
  have g4 := sho_bd hN hs.1 hs.2
  obtain ⟨b1, b2, b3, b4⟩ := hp_12.bd hN g4.2.2.1 g4.2.1
  have b5 : pv2_12.1 = (gS N y : Int) := b2
  refine lv_aload_n S.1 S.2.1 dX8_together_15 rfl (lv_at hl 0 rfl) ?_
  refine lv_aload_n S.1 S.2.1 dX8_together_16 rfl (lv_at hl 0 rfl) ?_
  refine g_get S C hG iX80 0 rfl rfl 8 (by decide) (List.mem_of_getElem? (i := 2) rfl) rfl dX8_together_17 ?_
  refine lv_iload_n S.1 S.2.1 dX8_together_20 rfl (lv_at hl 2 rfl) ?_
  refine g_invV (As := [.ref (ad 9), .int (iI x)]) (rest := [.ref (ad 8)]) (gs' := (fun u : PV × RU × (Int → Int) => [gRLC K ad, gPthV K (ad 8) (ad 27) (ad 35) (ad 28) (ad 29) (ad 30) (ad 31) (ad 32) (ad 33) (ad 34) pv2_12, gRayU K (ad 35) (ad 36) (ad 37) (ad 38) (ad 39) (ad 3) pr2_12 pX2_12, gPthV K (ad 9) (ad 40) (ad 48) (ad 41) (ad 42) (ad 43) (ad 44) (ad 45) (ad 46) (ad 47) u.1, gRayU K (ad 48) (ad 49) (ad 50) (ad 51) (ad 52) (ad 3) u.2.1 u.2.2, gScn K (ad 3) (ad 14) (ad 15) (ad 16) (ad 17) ou mi bo ln LF sn SF])) S C hG [0, 3, 4, 5] (c_X8_pathOf l K ad ou mi bo ln LF sn SF N (ad 9) (ad 40) (ad 48) (ad 41) (ad 42) (ad 43) (ad 44) (ad 45) (ad 46) (ad 47) (ad 49) (ad 50) (ad 51) (ad 52) pw ps_2 pr_2 pX_2 x hS hN ht) rfl rfl 0 rfl rfl (cwV 2 S.2.2.2.2 gX8_together_X8_pathOf rfl rfl rfl (by decide +kernel) ⟨Nat.le_of_ble_eq_true rfl, Nat.le_of_ble_eq_true rfl⟩) rfl hl.1 rfl (Nat.le_of_ble_eq_true rfl) dX8_together_21 ⟨Nat.le_of_ble_eq_true rfl, Nat.le_of_ble_eq_true rfl⟩ (fun _ => Nat.le_of_ble_eq_true rfl) (fun _ => rfl) (fun v u H locs hp hG => ?_)
  obtain ⟨pv2_21, pr2_21, pX2_21⟩ := u
  obtain ⟨rfl, hp_21⟩ := hp
  have hp_21 : PthR N (sP N x) (sY N x) (sD N x) pv2_21 := hp_21
  have hG : gW K A s.heap [gRLC K ad, gPthV K (ad 8) (ad 27) (ad 35) (ad 28) (ad 29) (ad 30) (ad 31) (ad 32) (ad 33) (ad 34) pv2_12, gRayU K (ad 35) (ad 36) (ad 37) (ad 38) (ad 39) (ad 3) pr2_12 pX2_12, gPthV K (ad 9) (ad 40) (ad 48) (ad 41) (ad 42) (ad 43) (ad 44) (ad 45) (ad 46) (ad 47) pv2_21, gRayU K (ad 48) (ad 49) (ad 50) (ad 51) (ad 52) (ad 3) pr2_21 pX2_21, gScn K (ad 3) (ad 14) (ad 15) (ad 16) (ad 17) ou mi bo ln LF sn SF] _ _ := hG
  have g5 := sho_bd hN ht.1 ht.2
  obtain ⟨d1, d2, d3, d4⟩ := hp_21.bd hN g5.2.2.1 g5.2.1
  have d5 : pv2_21.1 = (gS N x : Int) := d2
  have hG : gW K A s.heap [gRLC K ad, gPth K (ad 8) (ad 27) (ad 35) pv2_12.1 pv2_12.2.1 (ad 28) (ad 29) (ad 30) (ad 31) (ad 32) (ad 33) (ad 34) pv2_12.2.2.1 pv2_12.2.2.2.1 pv2_12.2.2.2.2.1 pv2_12.2.2.2.2.2.1 pv2_12.2.2.2.2.2.2.1 pv2_12.2.2.2.2.2.2.2.1 pv2_12.2.2.2.2.2.2.2.2, gRayU K (ad 35) (ad 36) (ad 37) (ad 38) (ad 39) (ad 3) pr2_12 pX2_12, gPth K (ad 9) (ad 40) (ad 48) pv2_21.1 pv2_21.2.1 (ad 41) (ad 42) (ad 43) (ad 44) (ad 45) (ad 46) (ad 47) pv2_21.2.2.1 pv2_21.2.2.2.1 pv2_21.2.2.2.2.1 pv2_21.2.2.2.2.2.1 pv2_21.2.2.2.2.2.2.1 pv2_21.2.2.2.2.2.2.2.1 pv2_21.2.2.2.2.2.2.2.2, gRayU K (ad 48) (ad 49) (ad 50) (ad 51) (ad 52) (ad 3) pr2_21 pX2_21, gScn K (ad 3) (ad 14) (ad 15) (ad 16) (ad 17) ou mi bo ln LF sn SF] _ _ := hG
  refine g_invV (As := [.ref (ad 9)]) (rest := []) (gs' := (fun u : Int => [gRLC K ad, gPth K (ad 8) (ad 27) (ad 35) pv2_12.1 pv2_12.2.1 (ad 28) (ad 29) (ad 30) (ad 31) (ad 32) (ad 33) (ad 34) pv2_12.2.2.1 pv2_12.2.2.2.1 pv2_12.2.2.2.2.1 pv2_12.2.2.2.2.2.1 pv2_12.2.2.2.2.2.2.1 pv2_12.2.2.2.2.2.2.2.1 pv2_12.2.2.2.2.2.2.2.2, gRayU K (ad 35) (ad 36) (ad 37) (ad 38) (ad 39) (ad 3) pr2_12 pX2_12, gPth K (ad 9) (ad 40) (ad 48) pv2_21.1 pv2_21.2.1 (ad 41) (ad 42) (ad 43) (ad 44) (ad 45) (ad 46) (ad 47) pv2_21.2.2.1 pv2_21.2.2.2.1 pv2_21.2.2.2.2.1 pv2_21.2.2.2.2.2.1 pv2_21.2.2.2.2.2.2.1 pv2_21.2.2.2.2.2.2.2.1 pv2_21.2.2.2.2.2.2.2.2, gRayU K (ad 48) (ad 49) (ad 50) (ad 51) (ad 52) (ad 3) pr2_21 pX2_21, gScn K (ad 3) (ad 14) (ad 15) (ad 16) (ad 17) ou mi bo ln LF sn SF])) S C hG [1, 3] (c_X3_meetingTime l K (ad 8) (ad 27) (ad 35) pv2_12.1 pv2_12.2.1 (ad 28) (ad 29) (ad 30) (ad 31) (ad 32) (ad 33) (ad 34) pv2_12.2.2.1 pv2_12.2.2.2.1 pv2_12.2.2.2.2.1 pv2_12.2.2.2.2.2.1 pv2_12.2.2.2.2.2.2.1 pv2_12.2.2.2.2.2.2.2.1 pv2_12.2.2.2.2.2.2.2.2 (ad 9) (ad 40) (ad 48) pv2_21.1 pv2_21.2.1 (ad 41) (ad 42) (ad 43) (ad 44) (ad 45) (ad 46) (ad 47) pv2_21.2.2.1 pv2_21.2.2.2.1 pv2_21.2.2.2.2.1 pv2_21.2.2.2.2.2.1 pv2_21.2.2.2.2.2.2.1 pv2_21.2.2.2.2.2.2.2.1 pv2_21.2.2.2.2.2.2.2.2 (gS N y) (gS N x) ⟨b5, by omega⟩ ⟨d5, by omega⟩ (fun i a b => ⟨⟨(b4 i a b).1.1, (b4 i a b).1.2.1⟩, (b4 i a b).2.2.2⟩) (fun i a b => ⟨⟨(d4 i a b).1.1, (d4 i a b).1.2.1⟩, (d4 i a b).2.2.2⟩)) rfl rfl 0 rfl rfl (cwV 1 S.2.2.2.2 gX8_together_X3_meetingTime rfl rfl rfl (by decide +kernel) ⟨Nat.le_of_ble_eq_true rfl, Nat.le_of_ble_eq_true rfl⟩) rfl hl.1 rfl (Nat.le_of_ble_eq_true rfl) dX8_together_24 ⟨Nat.le_of_ble_eq_true rfl, Nat.le_of_ble_eq_true rfl⟩ (fun _ => Nat.le_of_ble_eq_true rfl) (fun _ => rfl) (fun v u H locs hp hG => ?_)
  obtain ⟨x_24, rfl⟩ : ∃ z, z = u := ⟨_, rfl⟩
  obtain ⟨rfl, hx_24⟩ := hp
  have hx_24 : MeetR pv2_12.2.2.1 pv2_12.2.2.2.2.2.2.1 pv2_21.2.2.1 pv2_21.2.2.2.2.2.2.1 (gS N y) (gS N x) x_24 := hx_24
  have hG : gW K A s.heap [gRLC K ad, gPth K (ad 8) (ad 27) (ad 35) pv2_12.1 pv2_12.2.1 (ad 28) (ad 29) (ad 30) (ad 31) (ad 32) (ad 33) (ad 34) pv2_12.2.2.1 pv2_12.2.2.2.1 pv2_12.2.2.2.2.1 pv2_12.2.2.2.2.2.1 pv2_12.2.2.2.2.2.2.1 pv2_12.2.2.2.2.2.2.2.1 pv2_12.2.2.2.2.2.2.2.2, gRayU K (ad 35) (ad 36) (ad 37) (ad 38) (ad 39) (ad 3) pr2_12 pX2_12, gPth K (ad 9) (ad 40) (ad 48) pv2_21.1 pv2_21.2.1 (ad 41) (ad 42) (ad 43) (ad 44) (ad 45) (ad 46) (ad 47) pv2_21.2.2.1 pv2_21.2.2.2.1 pv2_21.2.2.2.2.1 pv2_21.2.2.2.2.2.1 pv2_21.2.2.2.2.2.2.1 pv2_21.2.2.2.2.2.2.2.1 pv2_21.2.2.2.2.2.2.2.2, gRayU K (ad 48) (ad 49) (ad 50) (ad 51) (ad 52) (ad 3) pr2_21 pX2_21, gScn K (ad 3) (ad 14) (ad 15) (ad 16) (ad 17) ou mi bo ln LF sn SF] _ _ := hG
  have hG : gW K A s.heap [gRLC K ad, gPthV K (ad 8) (ad 27) (ad 35) (ad 28) (ad 29) (ad 30) (ad 31) (ad 32) (ad 33) (ad 34) pv2_12, gRayU K (ad 35) (ad 36) (ad 37) (ad 38) (ad 39) (ad 3) pr2_12 pX2_12, gPthV K (ad 9) (ad 40) (ad 48) (ad 41) (ad 42) (ad 43) (ad 44) (ad 45) (ad 46) (ad 47) pv2_21, gRayU K (ad 48) (ad 49) (ad 50) (ad 51) (ad 52) (ad 3) pr2_21 pX2_21, gScn K (ad 3) (ad 14) (ad 15) (ad 16) (ad 17) ou mi bo ln LF sn SF] _ _ := hG
  exact g_iret S hr hlk hQ dX8_together_27 (Nat.le_of_ble_eq_true rfl) (Nat.le_of_ble_eq_true rfl) ((x_24, pv2_12, pr2_12, pX2_12, pv2_21, pr2_21, pX2_21) : Int × PV × RU × (Int → Int) × PV × RU × (Int → Int)) ⟨rfl, hp_12, hp_21, (hx_24.tg hp_12 hp_21)⟩ hG

set_option maxHeartbeats 1000000 in
set_option maxRecDepth 100000 in
theorem x1_alike (l : Launch) (K : KC) (ad : Nat → Nat) (ou : Int) (mi : Int) (bo : Int) (ln : Int) (LF : Int → Int) (sn : Int) (SF : Int → Int) (N : Int → Int) (y : Int) (x : Int) (hS : ScOk N ou mi bo ln LF sn SF) (hN : NOk0 N) (hv : -2147483648 ≤ y ∧ y < 2147483648) (hx : -2147483648 ≤ x ∧ x < 2147483648) (hs : ¬ (0 ≤ y ∧ y < N 4)) (hst : l.stackTraces = false) : mX l yX8_alike wsX8_alike 8 125 K [.ref (ad 0), .int (iI y), .int (iI x)] [gRLC K ad, gScn K (ad 3) (ad 14) (ad 15) (ad 16) (ad 17) ou mi bo ln LF sn SF] "java/lang/IndexOutOfBoundsException" (fun (u : Unit) => True) (fun (u : Unit) => [gRLC K ad, gScn K (ad 3) (ad 14) (ad 15) (ad 16) (ad 17) ou mi bo ln LF sn SF]) 1 6 := by
  refine mX_of cX8_alike 3 (by decide) rfl (Nat.le_of_ble_eq_true rfl) ?_
  intro p e s m below meth c A ls Q S C hG hl hex hlk hin hQ
  have S : CallFix p m c cX8_alike 3 s ([.ref (ad 0), .int (iI y), .int (iI x)] : List Value).toArray wsX8_alike RX8 := S
  have iX80 : ∀ w ∈ wsX80, w ∈ wsX8_alike := fun _ h => List.mem_cons_of_mem _ (List.mem_append_left _ (List.mem_append_left _ (List.mem_append_left _ (List.mem_append_left _ (List.mem_append_left _ (List.mem_append_left _ (List.mem_append_right _ (h))))))))
  have iX50 : ∀ w ∈ wsX50, w ∈ wsX8_alike := fun _ h => List.mem_cons_of_mem _ (List.mem_append_left _ (List.mem_append_left _ (List.mem_append_left _ (List.mem_append_left _ (List.mem_append_left _ (List.mem_append_right _ (h)))))))
  have iX70 : ∀ w ∈ wsX70, w ∈ wsX8_alike := fun _ h => List.mem_cons_of_mem _ (List.mem_append_left _ (List.mem_append_left _ (List.mem_append_left _ (List.mem_append_left _ (List.mem_append_right _ (h))))))
  have iX30 : ∀ w ∈ wsX30, w ∈ wsX8_alike := fun _ h => List.mem_cons_of_mem _ (List.mem_append_left _ (List.mem_append_left _ (List.mem_append_left _ (List.mem_append_right _ (h)))))
  have iX40 : ∀ w ∈ wsX40, w ∈ wsX8_alike := fun _ h => List.mem_cons_of_mem _ (List.mem_append_left _ (List.mem_append_left _ (List.mem_append_right _ (h))))
  have hl : lv_has ls 3 [(0, .ref (ad 0)), (1, .int (iI y)), (2, .int (iI x))] := hl
  have hG : gW K A s.heap [gRLC K ad, gScn K (ad 3) (ad 14) (ad 15) (ad 16) (ad 17) ou mi bo ln LF sn SF] s.heap [] := hG
  obtain ⟨e0, e1, e2, e3, e4, e5, e6⟩ := id hS
  have n0 := hN.1
  have n3 := hN.2.2.2.1
  refine lv_aload_n S.1 S.2.1 dX8_alike_0 rfl (lv_at hl 0 rfl) ?_
  refine lv_iload_n S.1 S.2.1 dX8_alike_1 rfl (lv_at hl 1 rfl) ?_
  refine lv_iload_n S.1 S.2.1 dX8_alike_2 rfl (lv_at hl 2 rfl) ?_
  refine g_xV (E := "java/lang/IndexOutOfBoundsException") (As := [.int (iI y), .int (iI x)]) (rest := []) (gs' := (fun u : Unit => [gRLC K ad, gScn K (ad 3) (ad 14) (ad 15) (ad 16) (ad 17) ou mi bo ln LF sn SF])) S C hG [0, 1] (x1_checkTwoShots l K ad ou mi bo ln LF sn SF N y x hS hN hv hx hs hst) rfl rfl 0 rfl rfl (cwV 2 S.2.2.2.2 gX8_alike_X8_checkTwoShots rfl rfl rfl (by decide +kernel) ⟨Nat.le_of_ble_eq_true rfl, Nat.le_of_ble_eq_true rfl⟩) rfl hl.1 rfl (Nat.le_of_ble_eq_true rfl) dX8_alike_3 ⟨Nat.le_of_ble_eq_true rfl, Nat.le_of_ble_eq_true rfl⟩ (fun _ => Nat.le_of_ble_eq_true rfl) (fun _ => rfl) (fun u q9 ce9 H locs hp hG hq9 hv9 hcl9 => ?_)
  have hG : gW K A s.heap [gRLC K ad, gScn K (ad 3) (ad 14) (ad 15) (ad 16) (ad 17) ou mi bo ln LF sn SF] _ _ := hG
  exact g_xout hQ hex hlk hq9 hv9 hcl9 (Nat.le_of_ble_eq_true rfl) (Nat.le_of_ble_eq_true rfl) (() : Unit) trivial hG

set_option maxHeartbeats 1000000 in
set_option maxRecDepth 100000 in
theorem x1b_alike (l : Launch) (K : KC) (ad : Nat → Nat) (ou : Int) (mi : Int) (bo : Int) (ln : Int) (LF : Int → Int) (sn : Int) (SF : Int → Int) (N : Int → Int) (y : Int) (x : Int) (hS : ScOk N ou mi bo ln LF sn SF) (hN : NOk0 N) (hv : -2147483648 ≤ y ∧ y < 2147483648) (hx : -2147483648 ≤ x ∧ x < 2147483648) (hs : 0 ≤ y ∧ y < N 4) (ht : ¬ (0 ≤ x ∧ x < N 4)) (hst : l.stackTraces = false) : mX l yX8_alike wsX8_alike 8 125 K [.ref (ad 0), .int (iI y), .int (iI x)] [gRLC K ad, gScn K (ad 3) (ad 14) (ad 15) (ad 16) (ad 17) ou mi bo ln LF sn SF] "java/lang/IndexOutOfBoundsException" (fun (u : Unit) => True) (fun (u : Unit) => [gRLC K ad, gScn K (ad 3) (ad 14) (ad 15) (ad 16) (ad 17) ou mi bo ln LF sn SF]) 1 6 := by
  refine mX_of cX8_alike 3 (by decide) rfl (Nat.le_of_ble_eq_true rfl) ?_
  intro p e s m below meth c A ls Q S C hG hl hex hlk hin hQ
  have S : CallFix p m c cX8_alike 3 s ([.ref (ad 0), .int (iI y), .int (iI x)] : List Value).toArray wsX8_alike RX8 := S
  have iX80 : ∀ w ∈ wsX80, w ∈ wsX8_alike := fun _ h => List.mem_cons_of_mem _ (List.mem_append_left _ (List.mem_append_left _ (List.mem_append_left _ (List.mem_append_left _ (List.mem_append_left _ (List.mem_append_left _ (List.mem_append_right _ (h))))))))
  have iX50 : ∀ w ∈ wsX50, w ∈ wsX8_alike := fun _ h => List.mem_cons_of_mem _ (List.mem_append_left _ (List.mem_append_left _ (List.mem_append_left _ (List.mem_append_left _ (List.mem_append_left _ (List.mem_append_right _ (h)))))))
  have iX70 : ∀ w ∈ wsX70, w ∈ wsX8_alike := fun _ h => List.mem_cons_of_mem _ (List.mem_append_left _ (List.mem_append_left _ (List.mem_append_left _ (List.mem_append_left _ (List.mem_append_right _ (h))))))
  have iX30 : ∀ w ∈ wsX30, w ∈ wsX8_alike := fun _ h => List.mem_cons_of_mem _ (List.mem_append_left _ (List.mem_append_left _ (List.mem_append_left _ (List.mem_append_right _ (h)))))
  have iX40 : ∀ w ∈ wsX40, w ∈ wsX8_alike := fun _ h => List.mem_cons_of_mem _ (List.mem_append_left _ (List.mem_append_left _ (List.mem_append_right _ (h))))
  have hl : lv_has ls 3 [(0, .ref (ad 0)), (1, .int (iI y)), (2, .int (iI x))] := hl
  have hG : gW K A s.heap [gRLC K ad, gScn K (ad 3) (ad 14) (ad 15) (ad 16) (ad 17) ou mi bo ln LF sn SF] s.heap [] := hG
  obtain ⟨e0, e1, e2, e3, e4, e5, e6⟩ := id hS
  have n0 := hN.1
  have n3 := hN.2.2.2.1
  refine lv_aload_n S.1 S.2.1 dX8_alike_0 rfl (lv_at hl 0 rfl) ?_
  refine lv_iload_n S.1 S.2.1 dX8_alike_1 rfl (lv_at hl 1 rfl) ?_
  refine lv_iload_n S.1 S.2.1 dX8_alike_2 rfl (lv_at hl 2 rfl) ?_
  refine g_xV (E := "java/lang/IndexOutOfBoundsException") (As := [.int (iI y), .int (iI x)]) (rest := []) (gs' := (fun u : Unit => [gRLC K ad, gScn K (ad 3) (ad 14) (ad 15) (ad 16) (ad 17) ou mi bo ln LF sn SF])) S C hG [0, 1] (x1b_checkTwoShots l K ad ou mi bo ln LF sn SF N y x hS hN hv hx hs ht hst) rfl rfl 0 rfl rfl (cwV 2 S.2.2.2.2 gX8_alike_X8_checkTwoShots rfl rfl rfl (by decide +kernel) ⟨Nat.le_of_ble_eq_true rfl, Nat.le_of_ble_eq_true rfl⟩) rfl hl.1 rfl (Nat.le_of_ble_eq_true rfl) dX8_alike_3 ⟨Nat.le_of_ble_eq_true rfl, Nat.le_of_ble_eq_true rfl⟩ (fun _ => Nat.le_of_ble_eq_true rfl) (fun _ => rfl) (fun u q9 ce9 H locs hp hG hq9 hv9 hcl9 => ?_)
  have hG : gW K A s.heap [gRLC K ad, gScn K (ad 3) (ad 14) (ad 15) (ad 16) (ad 17) ou mi bo ln LF sn SF] _ _ := hG
  exact g_xout hQ hex hlk hq9 hv9 hcl9 (Nat.le_of_ble_eq_true rfl) (Nat.le_of_ble_eq_true rfl) (() : Unit) trivial hG

set_option maxHeartbeats 1000000 in
set_option maxRecDepth 100000 in
theorem x2_alike (l : Launch) (K : KC) (ad : Nat → Nat) (ou : Int) (mi : Int) (bo : Int) (ln : Int) (LF : Int → Int) (sn : Int) (SF : Int → Int) (N : Int → Int) (y : Int) (x : Int) (hS : ScOk N ou mi bo ln LF sn SF) (hN : NOk0 N) (hv : -2147483648 ≤ y ∧ y < 2147483648) (hx : -2147483648 ≤ x ∧ x < 2147483648) (hs : 0 ≤ y ∧ y < N 4) (hne : y = x) (hst : l.stackTraces = false) : mX l yX8_alike wsX8_alike 7 104 K [.ref (ad 0), .int (iI y), .int (iI x)] [gRLC K ad, gScn K (ad 3) (ad 14) (ad 15) (ad 16) (ad 17) ou mi bo ln LF sn SF] "java/lang/IllegalArgumentException" (fun (u : Unit) => True) (fun (u : Unit) => [gRLC K ad, gScn K (ad 3) (ad 14) (ad 15) (ad 16) (ad 17) ou mi bo ln LF sn SF]) 1 6 := by
  refine mX_of cX8_alike 3 (by decide) rfl (Nat.le_of_ble_eq_true rfl) ?_
  intro p e s m below meth c A ls Q S C hG hl hex hlk hin hQ
  have S : CallFix p m c cX8_alike 3 s ([.ref (ad 0), .int (iI y), .int (iI x)] : List Value).toArray wsX8_alike RX8 := S
  have iX80 : ∀ w ∈ wsX80, w ∈ wsX8_alike := fun _ h => List.mem_cons_of_mem _ (List.mem_append_left _ (List.mem_append_left _ (List.mem_append_left _ (List.mem_append_left _ (List.mem_append_left _ (List.mem_append_left _ (List.mem_append_right _ (h))))))))
  have iX50 : ∀ w ∈ wsX50, w ∈ wsX8_alike := fun _ h => List.mem_cons_of_mem _ (List.mem_append_left _ (List.mem_append_left _ (List.mem_append_left _ (List.mem_append_left _ (List.mem_append_left _ (List.mem_append_right _ (h)))))))
  have iX70 : ∀ w ∈ wsX70, w ∈ wsX8_alike := fun _ h => List.mem_cons_of_mem _ (List.mem_append_left _ (List.mem_append_left _ (List.mem_append_left _ (List.mem_append_left _ (List.mem_append_right _ (h))))))
  have iX30 : ∀ w ∈ wsX30, w ∈ wsX8_alike := fun _ h => List.mem_cons_of_mem _ (List.mem_append_left _ (List.mem_append_left _ (List.mem_append_left _ (List.mem_append_right _ (h)))))
  have iX40 : ∀ w ∈ wsX40, w ∈ wsX8_alike := fun _ h => List.mem_cons_of_mem _ (List.mem_append_left _ (List.mem_append_left _ (List.mem_append_right _ (h))))
  have hl : lv_has ls 3 [(0, .ref (ad 0)), (1, .int (iI y)), (2, .int (iI x))] := hl
  have hG : gW K A s.heap [gRLC K ad, gScn K (ad 3) (ad 14) (ad 15) (ad 16) (ad 17) ou mi bo ln LF sn SF] s.heap [] := hG
  obtain ⟨e0, e1, e2, e3, e4, e5, e6⟩ := id hS
  have n0 := hN.1
  have n3 := hN.2.2.2.1
  refine lv_aload_n S.1 S.2.1 dX8_alike_0 rfl (lv_at hl 0 rfl) ?_
  refine lv_iload_n S.1 S.2.1 dX8_alike_1 rfl (lv_at hl 1 rfl) ?_
  refine lv_iload_n S.1 S.2.1 dX8_alike_2 rfl (lv_at hl 2 rfl) ?_
  refine g_xV (E := "java/lang/IllegalArgumentException") (As := [.int (iI y), .int (iI x)]) (rest := []) (gs' := (fun u : Unit => [gRLC K ad, gScn K (ad 3) (ad 14) (ad 15) (ad 16) (ad 17) ou mi bo ln LF sn SF])) S C hG [0, 1] (x2_checkTwoShots l K ad ou mi bo ln LF sn SF N y x hS hN hv hx hs hne hst) rfl rfl 0 rfl rfl (cwV 2 S.2.2.2.2 gX8_alike_X8_checkTwoShots rfl rfl rfl (by decide +kernel) ⟨Nat.le_of_ble_eq_true rfl, Nat.le_of_ble_eq_true rfl⟩) rfl hl.1 rfl (Nat.le_of_ble_eq_true rfl) dX8_alike_3 ⟨Nat.le_of_ble_eq_true rfl, Nat.le_of_ble_eq_true rfl⟩ (fun _ => Nat.le_of_ble_eq_true rfl) (fun _ => rfl) (fun u q9 ce9 H locs hp hG hq9 hv9 hcl9 => ?_)
  have hG : gW K A s.heap [gRLC K ad, gScn K (ad 3) (ad 14) (ad 15) (ad 16) (ad 17) ou mi bo ln LF sn SF] _ _ := hG
  exact g_xout hQ hex hlk hq9 hv9 hcl9 (Nat.le_of_ble_eq_true rfl) (Nat.le_of_ble_eq_true rfl) (() : Unit) trivial hG

set_option maxHeartbeats 1000000 in
set_option maxRecDepth 100000 in
theorem x1_together (l : Launch) (K : KC) (ad : Nat → Nat) (ou : Int) (mi : Int) (bo : Int) (ln : Int) (LF : Int → Int) (sn : Int) (SF : Int → Int) (N : Int → Int) (y : Int) (x : Int) (hS : ScOk N ou mi bo ln LF sn SF) (hN : NOk0 N) (hv : -2147483648 ≤ y ∧ y < 2147483648) (hx : -2147483648 ≤ x ∧ x < 2147483648) (hs : ¬ (0 ≤ y ∧ y < N 4)) (hst : l.stackTraces = false) : mX l yX8_together wsX8_together 8 125 K [.ref (ad 0), .int (iI y), .int (iI x)] [gRLC K ad, gScn K (ad 3) (ad 14) (ad 15) (ad 16) (ad 17) ou mi bo ln LF sn SF] "java/lang/IndexOutOfBoundsException" (fun (u : Unit) => True) (fun (u : Unit) => [gRLC K ad, gScn K (ad 3) (ad 14) (ad 15) (ad 16) (ad 17) ou mi bo ln LF sn SF]) 1 6 := by
  refine mX_of cX8_together 3 (by decide) rfl (Nat.le_of_ble_eq_true rfl) ?_
  intro p e s m below meth c A ls Q S C hG hl hex hlk hin hQ
  have S : CallFix p m c cX8_together 3 s ([.ref (ad 0), .int (iI y), .int (iI x)] : List Value).toArray wsX8_together RX8 := S
  have iX80 : ∀ w ∈ wsX80, w ∈ wsX8_together := fun _ h => List.mem_cons_of_mem _ (List.mem_append_left _ (List.mem_append_left _ (List.mem_append_left _ (List.mem_append_left _ (List.mem_append_left _ (List.mem_append_left _ (List.mem_append_right _ (h))))))))
  have iX50 : ∀ w ∈ wsX50, w ∈ wsX8_together := fun _ h => List.mem_cons_of_mem _ (List.mem_append_left _ (List.mem_append_left _ (List.mem_append_left _ (List.mem_append_left _ (List.mem_append_left _ (List.mem_append_right _ (h)))))))
  have iX70 : ∀ w ∈ wsX70, w ∈ wsX8_together := fun _ h => List.mem_cons_of_mem _ (List.mem_append_left _ (List.mem_append_left _ (List.mem_append_left _ (List.mem_append_left _ (List.mem_append_right _ (h))))))
  have iX30 : ∀ w ∈ wsX30, w ∈ wsX8_together := fun _ h => List.mem_cons_of_mem _ (List.mem_append_left _ (List.mem_append_left _ (List.mem_append_left _ (List.mem_append_right _ (h)))))
  have iX40 : ∀ w ∈ wsX40, w ∈ wsX8_together := fun _ h => List.mem_cons_of_mem _ (List.mem_append_left _ (List.mem_append_left _ (List.mem_append_right _ (h))))
  have hl : lv_has ls 3 [(0, .ref (ad 0)), (1, .int (iI y)), (2, .int (iI x))] := hl
  have hG : gW K A s.heap [gRLC K ad, gScn K (ad 3) (ad 14) (ad 15) (ad 16) (ad 17) ou mi bo ln LF sn SF] s.heap [] := hG
  obtain ⟨e0, e1, e2, e3, e4, e5, e6⟩ := id hS
  have n0 := hN.1
  have n3 := hN.2.2.2.1
  refine lv_aload_n S.1 S.2.1 dX8_together_0 rfl (lv_at hl 0 rfl) ?_
  refine lv_iload_n S.1 S.2.1 dX8_together_1 rfl (lv_at hl 1 rfl) ?_
  refine lv_iload_n S.1 S.2.1 dX8_together_2 rfl (lv_at hl 2 rfl) ?_
  refine g_xV (E := "java/lang/IndexOutOfBoundsException") (As := [.int (iI y), .int (iI x)]) (rest := []) (gs' := (fun u : Unit => [gRLC K ad, gScn K (ad 3) (ad 14) (ad 15) (ad 16) (ad 17) ou mi bo ln LF sn SF])) S C hG [0, 1] (x1_checkTwoShots l K ad ou mi bo ln LF sn SF N y x hS hN hv hx hs hst) rfl rfl 0 rfl rfl (cwV 2 S.2.2.2.2 gX8_together_X8_checkTwoShots rfl rfl rfl (by decide +kernel) ⟨Nat.le_of_ble_eq_true rfl, Nat.le_of_ble_eq_true rfl⟩) rfl hl.1 rfl (Nat.le_of_ble_eq_true rfl) dX8_together_3 ⟨Nat.le_of_ble_eq_true rfl, Nat.le_of_ble_eq_true rfl⟩ (fun _ => Nat.le_of_ble_eq_true rfl) (fun _ => rfl) (fun u q9 ce9 H locs hp hG hq9 hv9 hcl9 => ?_)
  have hG : gW K A s.heap [gRLC K ad, gScn K (ad 3) (ad 14) (ad 15) (ad 16) (ad 17) ou mi bo ln LF sn SF] _ _ := hG
  exact g_xout hQ hex hlk hq9 hv9 hcl9 (Nat.le_of_ble_eq_true rfl) (Nat.le_of_ble_eq_true rfl) (() : Unit) trivial hG

set_option maxHeartbeats 1000000 in
set_option maxRecDepth 100000 in
theorem x1b_together (l : Launch) (K : KC) (ad : Nat → Nat) (ou : Int) (mi : Int) (bo : Int) (ln : Int) (LF : Int → Int) (sn : Int) (SF : Int → Int) (N : Int → Int) (y : Int) (x : Int) (hS : ScOk N ou mi bo ln LF sn SF) (hN : NOk0 N) (hv : -2147483648 ≤ y ∧ y < 2147483648) (hx : -2147483648 ≤ x ∧ x < 2147483648) (hs : 0 ≤ y ∧ y < N 4) (ht : ¬ (0 ≤ x ∧ x < N 4)) (hst : l.stackTraces = false) : mX l yX8_together wsX8_together 8 125 K [.ref (ad 0), .int (iI y), .int (iI x)] [gRLC K ad, gScn K (ad 3) (ad 14) (ad 15) (ad 16) (ad 17) ou mi bo ln LF sn SF] "java/lang/IndexOutOfBoundsException" (fun (u : Unit) => True) (fun (u : Unit) => [gRLC K ad, gScn K (ad 3) (ad 14) (ad 15) (ad 16) (ad 17) ou mi bo ln LF sn SF]) 1 6 := by
  refine mX_of cX8_together 3 (by decide) rfl (Nat.le_of_ble_eq_true rfl) ?_
  intro p e s m below meth c A ls Q S C hG hl hex hlk hin hQ
  have S : CallFix p m c cX8_together 3 s ([.ref (ad 0), .int (iI y), .int (iI x)] : List Value).toArray wsX8_together RX8 := S
  have iX80 : ∀ w ∈ wsX80, w ∈ wsX8_together := fun _ h => List.mem_cons_of_mem _ (List.mem_append_left _ (List.mem_append_left _ (List.mem_append_left _ (List.mem_append_left _ (List.mem_append_left _ (List.mem_append_left _ (List.mem_append_right _ (h))))))))
  have iX50 : ∀ w ∈ wsX50, w ∈ wsX8_together := fun _ h => List.mem_cons_of_mem _ (List.mem_append_left _ (List.mem_append_left _ (List.mem_append_left _ (List.mem_append_left _ (List.mem_append_left _ (List.mem_append_right _ (h)))))))
  have iX70 : ∀ w ∈ wsX70, w ∈ wsX8_together := fun _ h => List.mem_cons_of_mem _ (List.mem_append_left _ (List.mem_append_left _ (List.mem_append_left _ (List.mem_append_left _ (List.mem_append_right _ (h))))))
  have iX30 : ∀ w ∈ wsX30, w ∈ wsX8_together := fun _ h => List.mem_cons_of_mem _ (List.mem_append_left _ (List.mem_append_left _ (List.mem_append_left _ (List.mem_append_right _ (h)))))
  have iX40 : ∀ w ∈ wsX40, w ∈ wsX8_together := fun _ h => List.mem_cons_of_mem _ (List.mem_append_left _ (List.mem_append_left _ (List.mem_append_right _ (h))))
  have hl : lv_has ls 3 [(0, .ref (ad 0)), (1, .int (iI y)), (2, .int (iI x))] := hl
  have hG : gW K A s.heap [gRLC K ad, gScn K (ad 3) (ad 14) (ad 15) (ad 16) (ad 17) ou mi bo ln LF sn SF] s.heap [] := hG
  obtain ⟨e0, e1, e2, e3, e4, e5, e6⟩ := id hS
  have n0 := hN.1
  have n3 := hN.2.2.2.1
  refine lv_aload_n S.1 S.2.1 dX8_together_0 rfl (lv_at hl 0 rfl) ?_
  refine lv_iload_n S.1 S.2.1 dX8_together_1 rfl (lv_at hl 1 rfl) ?_
  refine lv_iload_n S.1 S.2.1 dX8_together_2 rfl (lv_at hl 2 rfl) ?_
  refine g_xV (E := "java/lang/IndexOutOfBoundsException") (As := [.int (iI y), .int (iI x)]) (rest := []) (gs' := (fun u : Unit => [gRLC K ad, gScn K (ad 3) (ad 14) (ad 15) (ad 16) (ad 17) ou mi bo ln LF sn SF])) S C hG [0, 1] (x1b_checkTwoShots l K ad ou mi bo ln LF sn SF N y x hS hN hv hx hs ht hst) rfl rfl 0 rfl rfl (cwV 2 S.2.2.2.2 gX8_together_X8_checkTwoShots rfl rfl rfl (by decide +kernel) ⟨Nat.le_of_ble_eq_true rfl, Nat.le_of_ble_eq_true rfl⟩) rfl hl.1 rfl (Nat.le_of_ble_eq_true rfl) dX8_together_3 ⟨Nat.le_of_ble_eq_true rfl, Nat.le_of_ble_eq_true rfl⟩ (fun _ => Nat.le_of_ble_eq_true rfl) (fun _ => rfl) (fun u q9 ce9 H locs hp hG hq9 hv9 hcl9 => ?_)
  have hG : gW K A s.heap [gRLC K ad, gScn K (ad 3) (ad 14) (ad 15) (ad 16) (ad 17) ou mi bo ln LF sn SF] _ _ := hG
  exact g_xout hQ hex hlk hq9 hv9 hcl9 (Nat.le_of_ble_eq_true rfl) (Nat.le_of_ble_eq_true rfl) (() : Unit) trivial hG

set_option maxHeartbeats 1000000 in
set_option maxRecDepth 100000 in
theorem x2_together (l : Launch) (K : KC) (ad : Nat → Nat) (ou : Int) (mi : Int) (bo : Int) (ln : Int) (LF : Int → Int) (sn : Int) (SF : Int → Int) (N : Int → Int) (y : Int) (x : Int) (hS : ScOk N ou mi bo ln LF sn SF) (hN : NOk0 N) (hv : -2147483648 ≤ y ∧ y < 2147483648) (hx : -2147483648 ≤ x ∧ x < 2147483648) (hs : 0 ≤ y ∧ y < N 4) (hne : y = x) (hst : l.stackTraces = false) : mX l yX8_together wsX8_together 7 104 K [.ref (ad 0), .int (iI y), .int (iI x)] [gRLC K ad, gScn K (ad 3) (ad 14) (ad 15) (ad 16) (ad 17) ou mi bo ln LF sn SF] "java/lang/IllegalArgumentException" (fun (u : Unit) => True) (fun (u : Unit) => [gRLC K ad, gScn K (ad 3) (ad 14) (ad 15) (ad 16) (ad 17) ou mi bo ln LF sn SF]) 1 6 := by
  refine mX_of cX8_together 3 (by decide) rfl (Nat.le_of_ble_eq_true rfl) ?_
  intro p e s m below meth c A ls Q S C hG hl hex hlk hin hQ
  have S : CallFix p m c cX8_together 3 s ([.ref (ad 0), .int (iI y), .int (iI x)] : List Value).toArray wsX8_together RX8 := S
  have iX80 : ∀ w ∈ wsX80, w ∈ wsX8_together := fun _ h => List.mem_cons_of_mem _ (List.mem_append_left _ (List.mem_append_left _ (List.mem_append_left _ (List.mem_append_left _ (List.mem_append_left _ (List.mem_append_left _ (List.mem_append_right _ (h))))))))
  have iX50 : ∀ w ∈ wsX50, w ∈ wsX8_together := fun _ h => List.mem_cons_of_mem _ (List.mem_append_left _ (List.mem_append_left _ (List.mem_append_left _ (List.mem_append_left _ (List.mem_append_left _ (List.mem_append_right _ (h)))))))
  have iX70 : ∀ w ∈ wsX70, w ∈ wsX8_together := fun _ h => List.mem_cons_of_mem _ (List.mem_append_left _ (List.mem_append_left _ (List.mem_append_left _ (List.mem_append_left _ (List.mem_append_right _ (h))))))
  have iX30 : ∀ w ∈ wsX30, w ∈ wsX8_together := fun _ h => List.mem_cons_of_mem _ (List.mem_append_left _ (List.mem_append_left _ (List.mem_append_left _ (List.mem_append_right _ (h)))))
  have iX40 : ∀ w ∈ wsX40, w ∈ wsX8_together := fun _ h => List.mem_cons_of_mem _ (List.mem_append_left _ (List.mem_append_left _ (List.mem_append_right _ (h))))
  have hl : lv_has ls 3 [(0, .ref (ad 0)), (1, .int (iI y)), (2, .int (iI x))] := hl
  have hG : gW K A s.heap [gRLC K ad, gScn K (ad 3) (ad 14) (ad 15) (ad 16) (ad 17) ou mi bo ln LF sn SF] s.heap [] := hG
  obtain ⟨e0, e1, e2, e3, e4, e5, e6⟩ := id hS
  have n0 := hN.1
  have n3 := hN.2.2.2.1
  refine lv_aload_n S.1 S.2.1 dX8_together_0 rfl (lv_at hl 0 rfl) ?_
  refine lv_iload_n S.1 S.2.1 dX8_together_1 rfl (lv_at hl 1 rfl) ?_
  refine lv_iload_n S.1 S.2.1 dX8_together_2 rfl (lv_at hl 2 rfl) ?_
  refine g_xV (E := "java/lang/IllegalArgumentException") (As := [.int (iI y), .int (iI x)]) (rest := []) (gs' := (fun u : Unit => [gRLC K ad, gScn K (ad 3) (ad 14) (ad 15) (ad 16) (ad 17) ou mi bo ln LF sn SF])) S C hG [0, 1] (x2_checkTwoShots l K ad ou mi bo ln LF sn SF N y x hS hN hv hx hs hne hst) rfl rfl 0 rfl rfl (cwV 2 S.2.2.2.2 gX8_together_X8_checkTwoShots rfl rfl rfl (by decide +kernel) ⟨Nat.le_of_ble_eq_true rfl, Nat.le_of_ble_eq_true rfl⟩) rfl hl.1 rfl (Nat.le_of_ble_eq_true rfl) dX8_together_3 ⟨Nat.le_of_ble_eq_true rfl, Nat.le_of_ble_eq_true rfl⟩ (fun _ => Nat.le_of_ble_eq_true rfl) (fun _ => rfl) (fun u q9 ce9 H locs hp hG hq9 hv9 hcl9 => ?_)
  have hG : gW K A s.heap [gRLC K ad, gScn K (ad 3) (ad 14) (ad 15) (ad 16) (ad 17) ou mi bo ln LF sn SF] _ _ := hG
  exact g_xout hQ hex hlk hq9 hv9 hcl9 (Nat.le_of_ble_eq_true rfl) (Nat.le_of_ble_eq_true rfl) (() : Unit) trivial hG

set_option maxHeartbeats 1000000 in
set_option maxRecDepth 100000 in
theorem c_X8_endIf (l : Launch) (K : KC) (ad : Nat → Nat) (ou : Int) (mi : Int) (bo : Int) (ln : Int) (LF : Int → Int) (sn : Int) (SF : Int → Int) (N : Int → Int) (ou_t : Int) (mi_t : Int) (bo_t : Int) (ln_t : Int) (LF_t : Int → Int) (sn_t : Int) (SF_t : Int → Int) (rs : Nat) (rv : RU) (XF : Int → Int) (y : Int) (w : Int) (x : Int) (hS : ScOk N ou mi bo ln LF sn SF) (hN : NOk0 N) (hv : -2147483648 ≤ y ∧ y < 2147483648) (hw : -2147483648 ≤ w ∧ w < 2147483648) (hx : -2147483648 ≤ x ∧ x < 2147483648) (hs : 0 ≤ y ∧ y < N 4) (hy : 0 ≤ w ∧ w < N 0) (h1 : 1000 ≤ x ∧ x ≤ 4000) : mG l yX8_endIf wsX8_endIf 5 117 K [.ref (ad 0), .int (iI y), .int (iI w), .int (iI x)] [gRLC K ad, gScn K (ad 3) (ad 14) (ad 15) (ad 16) (ad 17) ou mi bo ln LF sn SF, gScn K (ad 4) (ad 18) (ad 19) (ad 20) (ad 21) ou_t mi_t bo_t ln_t LF_t sn_t SF_t, gRayU K (ad 7) (ad 23) (ad 24) (ad 25) (ad 26) rs rv XF] (fun (v : Value) (u : Int × Int × Int × Int × (Int → Int) × Int × (Int → Int) × RU × (Int → Int)) => (v = .int (iI (eS (upI N (5 + 3 * w + 0) x) y)))) (fun (u : Int × Int × Int × Int × (Int → Int) × Int × (Int → Int) × RU × (Int → Int)) => [gRLC K ad, gScn K (ad 3) (ad 14) (ad 15) (ad 16) (ad 17) ou mi bo ln LF sn SF, gScn K (ad 4) (ad 18) (ad 19) (ad 20) (ad 21) u.1 u.2.1 u.2.2.1 u.2.2.2.1 u.2.2.2.2.1 u.2.2.2.2.2.1 u.2.2.2.2.2.2.1, gRayU K (ad 7) (ad 23) (ad 24) (ad 25) (ad 26) (ad 4) u.2.2.2.2.2.2.2.1 u.2.2.2.2.2.2.2.2]) 0 0 := by
  refine mG_of cX8_endIf 4 (by decide) rfl (Nat.le_of_ble_eq_true rfl) ?_
  intro p e s m below meth c A ls Q S C hG hl hr hlk hin hQ
  have S : CallFix p m c cX8_endIf 4 s ([.ref (ad 0), .int (iI y), .int (iI w), .int (iI x)] : List Value).toArray wsX8_endIf RX8 := S
  have iX80 : ∀ w ∈ wsX80, w ∈ wsX8_endIf := fun _ h => List.mem_cons_of_mem _ (List.mem_append_left _ (List.mem_append_left _ (List.mem_append_left _ (List.mem_append_left _ (List.mem_append_left _ (List.mem_append_right _ (h)))))))
  have iX50 : ∀ w ∈ wsX50, w ∈ wsX8_endIf := fun _ h => List.mem_cons_of_mem _ (List.mem_append_left _ (List.mem_append_left _ (List.mem_append_left _ (List.mem_append_left _ (List.mem_append_right _ (h))))))
  have iX40 : ∀ w ∈ wsX40, w ∈ wsX8_endIf := fun _ h => List.mem_cons_of_mem _ (List.mem_append_left _ (List.mem_append_left _ (List.mem_append_left _ (List.mem_append_right _ (h)))))
  have iX70 : ∀ w ∈ wsX70, w ∈ wsX8_endIf := fun _ h => List.mem_cons_of_mem _ (List.mem_append_left _ (List.mem_append_left _ (List.mem_append_right _ (h))))
  have hl : lv_has ls 4 [(0, .ref (ad 0)), (1, .int (iI y)), (2, .int (iI w)), (3, .int (iI x))] := hl
  have hG : gW K A s.heap [gRLC K ad, gScn K (ad 3) (ad 14) (ad 15) (ad 16) (ad 17) ou mi bo ln LF sn SF, gScn K (ad 4) (ad 18) (ad 19) (ad 20) (ad 21) ou_t mi_t bo_t ln_t LF_t sn_t SF_t, gRayU K (ad 7) (ad 23) (ad 24) (ad 25) (ad 26) rs rv XF] s.heap [] := hG
  obtain ⟨e0, e1, e2, e3, e4, e5, e6⟩ := id hS
  have n0 := hN.1
  have n3 := hN.2.2.2.1
  have n2 := hN.2.2.1
  have h42 : upI N (5 + 3 * w + 0) x 4 = N 4 := upI_n _ _ (by omega)
  refine lv_aload_n S.1 S.2.1 dX8_endIf_0 rfl (lv_at hl 0 rfl) ?_
  refine lv_iload_n S.1 S.2.1 dX8_endIf_1 rfl (lv_at hl 1 rfl) ?_
  refine g_invVv (As := [.int (iI y)]) (rest := []) (gs' := (fun u : Unit => [gRLC K ad, gScn K (ad 3) (ad 14) (ad 15) (ad 16) (ad 17) ou mi bo ln LF sn SF, gScn K (ad 4) (ad 18) (ad 19) (ad 20) (ad 21) ou_t mi_t bo_t ln_t LF_t sn_t SF_t, gRayU K (ad 7) (ad 23) (ad 24) (ad 25) (ad 26) rs rv XF])) S C hG [0, 1] (c_X8_checkShot l K ad ou mi bo ln LF sn SF N y hS hN hv hs) rfl rfl 0 rfl rfl (cwV 1 S.2.2.2.2 gX8_endIf_X8_checkShot rfl rfl rfl (by decide +kernel) ⟨Nat.le_of_ble_eq_true rfl, Nat.le_of_ble_eq_true rfl⟩) rfl hl.1 rfl (Nat.le_of_ble_eq_true rfl) dX8_endIf_2 ⟨Nat.le_of_ble_eq_true rfl, Nat.le_of_ble_eq_true rfl⟩ (fun _ => Nat.le_of_ble_eq_true rfl) (fun _ => rfl) (fun u H locs hp hG => ?_)
  refine lv_aload_n S.1 S.2.1 dX8_endIf_5 rfl (lv_at hl 0 rfl) ?_
  refine lv_iload_n S.1 S.2.1 dX8_endIf_6 rfl (lv_at hl 2 rfl) ?_
  refine g_invVv (As := [.int (iI w)]) (rest := []) (gs' := (fun u : Unit => [gRLC K ad, gScn K (ad 3) (ad 14) (ad 15) (ad 16) (ad 17) ou mi bo ln LF sn SF, gScn K (ad 4) (ad 18) (ad 19) (ad 20) (ad 21) ou_t mi_t bo_t ln_t LF_t sn_t SF_t, gRayU K (ad 7) (ad 23) (ad 24) (ad 25) (ad 26) rs rv XF])) S C hG [0, 1] (c_X8_checkLayer l K ad ou mi bo ln LF sn SF N w hS hN hw hy) rfl rfl 0 rfl rfl (cwV 1 S.2.2.2.2 gX8_endIf_X8_checkLayer rfl rfl rfl (by decide +kernel) ⟨Nat.le_of_ble_eq_true rfl, Nat.le_of_ble_eq_true rfl⟩) rfl hl.1 rfl (Nat.le_of_ble_eq_true rfl) dX8_endIf_7 ⟨Nat.le_of_ble_eq_true rfl, Nat.le_of_ble_eq_true rfl⟩ (fun _ => Nat.le_of_ble_eq_true rfl) (fun _ => rfl) (fun u H locs hp hG => ?_)
  refine lv_iload_n S.1 S.2.1 dX8_endIf_10 rfl (lv_at hl 3 rfl) ?_
  refine g_sipush S dX8_endIf_11 (by decide) ?_
  refine g_sipush S dX8_endIf_14 (by decide) ?_
  refine g_invSv (As := [.int (iI x), .int (iI 1000), .int (iI 4000)]) (rest := []) (gs' := (fun u : Unit => [gRLC K ad, gScn K (ad 3) (ad 14) (ad 15) (ad 16) (ad 17) ou mi bo ln LF sn SF, gScn K (ad 4) (ad 18) (ad 19) (ad 20) (ad 21) ou_t mi_t bo_t ln_t LF_t sn_t SF_t, gRayU K (ad 7) (ad 23) (ad 24) (ad 25) (ad 26) rs rv XF])) S C hG [] (c_X8_checkRange l K x 1000 4000 hx (by omega) (by omega) h1) rfl rfl (va_cwS 3 S.2.2.2.2 gX8_endIf_X8_checkRange rfl rfl rfl (by decide +kernel) ⟨Nat.le_of_ble_eq_true rfl, Nat.le_of_ble_eq_true rfl⟩) rfl hl.1 rfl (Nat.le_of_ble_eq_true rfl) dX8_endIf_17 ⟨Nat.le_of_ble_eq_true rfl, Nat.le_of_ble_eq_true rfl⟩ (fun _ => Nat.le_of_ble_eq_true rfl) (fun _ => rfl) (fun u H locs hp hG => ?_)
  refine lv_aload_n S.1 S.2.1 dX8_endIf_20 rfl (lv_at hl 0 rfl) ?_
  refine g_get S C hG iX80 0 rfl rfl 3 (by decide) (List.mem_of_getElem? (i := 1) rfl) rfl dX8_endIf_21 ?_
  refine lv_aload_n S.1 S.2.1 dX8_endIf_24 rfl (lv_at hl 0 rfl) ?_
  refine g_get S C hG iX80 0 rfl rfl 2 (by decide) (List.mem_of_getElem? (i := 2) rfl) rfl dX8_endIf_25 ?_
  refine g_invVv (As := [.ref (ad 3)]) (rest := []) (gs' := (fun u : Unit => [gRLC K ad, gScn K (ad 3) (ad 14) (ad 15) (ad 16) (ad 17) ou mi bo ln LF sn SF, gScn K (ad 4) (ad 18) (ad 19) (ad 20) (ad 21) ou mi bo ln (cpyI LF LF_t 60) sn (cpyI SF SF_t 60), gRayU K (ad 7) (ad 23) (ad 24) (ad 25) (ad 26) rs rv XF])) S C hG [2, 1] (c_X5_become l K (ad 4) (ad 18) (ad 19) (ad 20) (ad 21) ou_t mi_t bo_t ln_t LF_t sn_t SF_t (ad 3) (ad 14) (ad 15) (ad 16) (ad 17) ou mi bo ln LF sn SF (by omega)) rfl rfl 0 rfl rfl (cwV 1 S.2.2.2.2 gX8_endIf_X5_become rfl rfl rfl (by decide +kernel) ⟨Nat.le_of_ble_eq_true rfl, Nat.le_of_ble_eq_true rfl⟩) rfl hl.1 rfl (Nat.le_of_ble_eq_true rfl) dX8_endIf_28 ⟨Nat.le_of_ble_eq_true rfl, Nat.le_of_ble_eq_true rfl⟩ (fun _ => Nat.le_of_ble_eq_true rfl) (fun _ => rfl) (fun u H locs hp hG => ?_)
  refine lv_aload_n S.1 S.2.1 dX8_endIf_31 rfl (lv_at hl 0 rfl) ?_
  refine g_get S C hG iX80 0 rfl rfl 3 (by decide) (List.mem_of_getElem? (i := 1) rfl) rfl dX8_endIf_32 ?_
  refine g_get S C hG iX50 6 rfl rfl 0 (by decide) (List.mem_of_getElem? (i := 3) rfl) rfl dX8_endIf_35 ?_
  refine lv_iload_n S.1 S.2.1 dX8_endIf_38 rfl (lv_at hl 2 rfl) ?_
  refine g_iconst S dX8_endIf_39 ?_
  refine lv_iload_n S.1 S.2.1 dX8_endIf_40 rfl (lv_at hl 3 rfl) ?_
  have hG : gW K A s.heap [gRLC K ad, gScn K (ad 3) (ad 14) (ad 15) (ad 16) (ad 17) ou mi bo ln LF sn SF, gScC K (ad 4) (ad 18) (ad 20) ou mi bo, gTab K (ad 18) (ad 19) ln (cpyI LF LF_t 60), gTabC K (ad 20) (ad 21) sn, gArr K 60 (ad 21) (cpyI SF SF_t 60), gRayU K (ad 7) (ad 23) (ad 24) (ad 25) (ad 26) rs rv XF] _ _ := hG
  refine g_invVv (As := [.int (iI w), .int (iI 0), .int (iI x)]) (rest := []) (gs' := (fun u : Unit => [gRLC K ad, gScn K (ad 3) (ad 14) (ad 15) (ad 16) (ad 17) ou mi bo ln LF sn SF, gScC K (ad 4) (ad 18) (ad 20) ou mi bo, gTab K (ad 18) (ad 19) ln (upI (cpyI LF LF_t 60) (w * 3 + 0) x), gTabC K (ad 20) (ad 21) sn, gArr K 60 (ad 21) (cpyI SF SF_t 60), gRayU K (ad 7) (ad 23) (ad 24) (ad 25) (ad 26) rs rv XF])) S C hG [3] (c_X7_set l K (ad 18) (ad 19) ln (cpyI LF LF_t 60) w 0 x (by omega) (by omega)) rfl rfl 0 rfl rfl (cwV 3 S.2.2.2.2 gX8_endIf_X7_set rfl rfl rfl (by decide +kernel) ⟨Nat.le_of_ble_eq_true rfl, Nat.le_of_ble_eq_true rfl⟩) rfl hl.1 rfl (Nat.le_of_ble_eq_true rfl) dX8_endIf_41 ⟨Nat.le_of_ble_eq_true rfl, Nat.le_of_ble_eq_true rfl⟩ (fun _ => Nat.le_of_ble_eq_true rfl) (fun _ => rfl) (fun u H locs hp hG => ?_)
  refine lv_aload_n S.1 S.2.1 dX8_endIf_44 rfl (lv_at hl 0 rfl) ?_
  refine lv_aload_n S.1 S.2.1 dX8_endIf_45 rfl (lv_at hl 0 rfl) ?_
  refine g_get S C hG iX80 0 rfl rfl 3 (by decide) (List.mem_of_getElem? (i := 1) rfl) rfl dX8_endIf_46 ?_
  refine lv_iload_n S.1 S.2.1 dX8_endIf_49 rfl (lv_at hl 1 rfl) ?_
  have hG : gW K A s.heap [gRLC K ad, gScn K (ad 3) (ad 14) (ad 15) (ad 16) (ad 17) ou mi bo ln LF sn SF, gScn K (ad 4) (ad 18) (ad 19) (ad 20) (ad 21) ou mi bo ln (upI (cpyI LF LF_t 60) (w * 3 + 0) x) sn (cpyI SF SF_t 60), gRayU K (ad 7) (ad 23) (ad 24) (ad 25) (ad 26) rs rv XF] _ _ := hG
  refine g_invV (As := [.ref (ad 4), .int (iI y)]) (rest := []) (gs' := (fun u : RU × (Int → Int) => [gRLC K ad, gScn K (ad 3) (ad 14) (ad 15) (ad 16) (ad 17) ou mi bo ln LF sn SF, gScn K (ad 4) (ad 18) (ad 19) (ad 20) (ad 21) ou mi bo ln (upI (cpyI LF LF_t 60) (w * 3 + 0) x) sn (cpyI SF SF_t 60), gRayU K (ad 7) (ad 23) (ad 24) (ad 25) (ad 26) (ad 4) u.1 u.2])) S C hG [0, 2, 3] (c_X8_runOf l K ad (ad 4) (ad 18) (ad 19) (ad 20) (ad 21) ou mi bo ln (upI (cpyI LF LF_t 60) (w * 3 + 0) x) sn (cpyI SF SF_t 60) (upI N (5 + 3 * w + 0) x) rs rv XF y ((cpy_ok hS hN).setL hN hy (by decide)) (hN.setL hy (Or.inl ⟨rfl, h1⟩)) (by omega)) rfl rfl 0 rfl rfl (cwV 2 S.2.2.2.2 gX8_endIf_X8_runOf rfl rfl rfl (by decide +kernel) ⟨Nat.le_of_ble_eq_true rfl, Nat.le_of_ble_eq_true rfl⟩) rfl hl.1 rfl (Nat.le_of_ble_eq_true rfl) dX8_endIf_50 ⟨Nat.le_of_ble_eq_true rfl, Nat.le_of_ble_eq_true rfl⟩ (fun _ => Nat.le_of_ble_eq_true rfl) (fun _ => rfl) (fun v u H locs hp hG => ?_)
  obtain ⟨rv2_50, X2_50⟩ := u
  obtain ⟨rfl, hr_50⟩ := hp
  have hr_50 : ResU (upI N (5 + 3 * w + 0) x) (sP (upI N (5 + 3 * w + 0) x) y) (sY (upI N (5 + 3 * w + 0) x) y) (sD (upI N (5 + 3 * w + 0) x) y) rv2_50 := hr_50
  have hG : gW K A s.heap [gRLC K ad, gScn K (ad 3) (ad 14) (ad 15) (ad 16) (ad 17) ou mi bo ln LF sn SF, gScn K (ad 4) (ad 18) (ad 19) (ad 20) (ad 21) ou mi bo ln (upI (cpyI LF LF_t 60) (w * 3 + 0) x) sn (cpyI SF SF_t 60), gRayU K (ad 7) (ad 23) (ad 24) (ad 25) (ad 26) (ad 4) rv2_50 X2_50] _ _ := hG
  refine g_get S C hG iX40 11 rfl rfl 9 (by decide) (List.mem_of_getElem? (i := 4) rfl) rfl dX8_endIf_53 ?_
  have hG : gW K A s.heap [gRLC K ad, gScn K (ad 3) (ad 14) (ad 15) (ad 16) (ad 17) ou mi bo ln LF sn SF, gScn K (ad 4) (ad 18) (ad 19) (ad 20) (ad 21) ou mi bo ln (upI (cpyI LF LF_t 60) (w * 3 + 0) x) sn (cpyI SF SF_t 60), gRayU K (ad 7) (ad 23) (ad 24) (ad 25) (ad 26) (ad 4) rv2_50 X2_50] _ _ := hG
  exact g_iret S hr hlk hQ dX8_endIf_56 (Nat.le_of_ble_eq_true rfl) (Nat.le_of_ble_eq_true rfl) ((ou, mi, bo, ln, (upI (cpyI LF LF_t 60) (w * 3 + 0) x), sn, (cpyI SF SF_t 60), rv2_50, X2_50) : Int × Int × Int × Int × (Int → Int) × Int × (Int → Int) × RU × (Int → Int)) (congrArg (fun z : Int => Value.int (iI z)) hr_50.f.2.1) hG

set_option maxHeartbeats 1000000 in
set_option maxRecDepth 100000 in
theorem x1_endIf (l : Launch) (K : KC) (ad : Nat → Nat) (ou : Int) (mi : Int) (bo : Int) (ln : Int) (LF : Int → Int) (sn : Int) (SF : Int → Int) (N : Int → Int) (y : Int) (w : Int) (x : Int) (hS : ScOk N ou mi bo ln LF sn SF) (hN : NOk0 N) (hv : -2147483648 ≤ y ∧ y < 2147483648) (hw : -2147483648 ≤ w ∧ w < 2147483648) (hx : -2147483648 ≤ x ∧ x < 2147483648) (hs : ¬ (0 ≤ y ∧ y < N 4)) (hst : l.stackTraces = false) : mX l yX8_endIf wsX8_endIf 7 103 K [.ref (ad 0), .int (iI y), .int (iI w), .int (iI x)] [gRLC K ad, gScn K (ad 3) (ad 14) (ad 15) (ad 16) (ad 17) ou mi bo ln LF sn SF] "java/lang/IndexOutOfBoundsException" (fun (u : Unit) => True) (fun (u : Unit) => [gRLC K ad, gScn K (ad 3) (ad 14) (ad 15) (ad 16) (ad 17) ou mi bo ln LF sn SF]) 1 6 := by
  refine mX_of cX8_endIf 4 (by decide) rfl (Nat.le_of_ble_eq_true rfl) ?_
  intro p e s m below meth c A ls Q S C hG hl hex hlk hin hQ
  have S : CallFix p m c cX8_endIf 4 s ([.ref (ad 0), .int (iI y), .int (iI w), .int (iI x)] : List Value).toArray wsX8_endIf RX8 := S
  have iX80 : ∀ w ∈ wsX80, w ∈ wsX8_endIf := fun _ h => List.mem_cons_of_mem _ (List.mem_append_left _ (List.mem_append_left _ (List.mem_append_left _ (List.mem_append_left _ (List.mem_append_left _ (List.mem_append_right _ (h)))))))
  have iX50 : ∀ w ∈ wsX50, w ∈ wsX8_endIf := fun _ h => List.mem_cons_of_mem _ (List.mem_append_left _ (List.mem_append_left _ (List.mem_append_left _ (List.mem_append_left _ (List.mem_append_right _ (h))))))
  have iX40 : ∀ w ∈ wsX40, w ∈ wsX8_endIf := fun _ h => List.mem_cons_of_mem _ (List.mem_append_left _ (List.mem_append_left _ (List.mem_append_left _ (List.mem_append_right _ (h)))))
  have iX70 : ∀ w ∈ wsX70, w ∈ wsX8_endIf := fun _ h => List.mem_cons_of_mem _ (List.mem_append_left _ (List.mem_append_left _ (List.mem_append_right _ (h))))
  have hl : lv_has ls 4 [(0, .ref (ad 0)), (1, .int (iI y)), (2, .int (iI w)), (3, .int (iI x))] := hl
  have hG : gW K A s.heap [gRLC K ad, gScn K (ad 3) (ad 14) (ad 15) (ad 16) (ad 17) ou mi bo ln LF sn SF] s.heap [] := hG
  obtain ⟨e0, e1, e2, e3, e4, e5, e6⟩ := id hS
  have n0 := hN.1
  have n3 := hN.2.2.2.1
  refine lv_aload_n S.1 S.2.1 dX8_endIf_0 rfl (lv_at hl 0 rfl) ?_
  refine lv_iload_n S.1 S.2.1 dX8_endIf_1 rfl (lv_at hl 1 rfl) ?_
  refine g_xV (E := "java/lang/IndexOutOfBoundsException") (As := [.int (iI y)]) (rest := []) (gs' := (fun u : Unit => [gRLC K ad, gScn K (ad 3) (ad 14) (ad 15) (ad 16) (ad 17) ou mi bo ln LF sn SF])) S C hG [0, 1] (x_checkShot l K ad ou mi bo ln LF sn SF N y hS hN hv hs hst) rfl rfl 0 rfl rfl (cwV 1 S.2.2.2.2 gX8_endIf_X8_checkShot rfl rfl rfl (by decide +kernel) ⟨Nat.le_of_ble_eq_true rfl, Nat.le_of_ble_eq_true rfl⟩) rfl hl.1 rfl (Nat.le_of_ble_eq_true rfl) dX8_endIf_2 ⟨Nat.le_of_ble_eq_true rfl, Nat.le_of_ble_eq_true rfl⟩ (fun _ => Nat.le_of_ble_eq_true rfl) (fun _ => rfl) (fun u q9 ce9 H locs hp hG hq9 hv9 hcl9 => ?_)
  have hG : gW K A s.heap [gRLC K ad, gScn K (ad 3) (ad 14) (ad 15) (ad 16) (ad 17) ou mi bo ln LF sn SF] _ _ := hG
  exact g_xout hQ hex hlk hq9 hv9 hcl9 (Nat.le_of_ble_eq_true rfl) (Nat.le_of_ble_eq_true rfl) (() : Unit) trivial hG

set_option maxHeartbeats 1000000 in
set_option maxRecDepth 100000 in
theorem x2_endIf (l : Launch) (K : KC) (ad : Nat → Nat) (ou : Int) (mi : Int) (bo : Int) (ln : Int) (LF : Int → Int) (sn : Int) (SF : Int → Int) (N : Int → Int) (y : Int) (w : Int) (x : Int) (hS : ScOk N ou mi bo ln LF sn SF) (hN : NOk0 N) (hv : -2147483648 ≤ y ∧ y < 2147483648) (hw : -2147483648 ≤ w ∧ w < 2147483648) (hx : -2147483648 ≤ x ∧ x < 2147483648) (hs : 0 ≤ y ∧ y < N 4) (hy : ¬ (0 ≤ w ∧ w < N 0)) (hst : l.stackTraces = false) : mX l yX8_endIf wsX8_endIf 7 103 K [.ref (ad 0), .int (iI y), .int (iI w), .int (iI x)] [gRLC K ad, gScn K (ad 3) (ad 14) (ad 15) (ad 16) (ad 17) ou mi bo ln LF sn SF] "java/lang/IndexOutOfBoundsException" (fun (u : Unit) => True) (fun (u : Unit) => [gRLC K ad, gScn K (ad 3) (ad 14) (ad 15) (ad 16) (ad 17) ou mi bo ln LF sn SF]) 1 6 := by
  refine mX_of cX8_endIf 4 (by decide) rfl (Nat.le_of_ble_eq_true rfl) ?_
  intro p e s m below meth c A ls Q S C hG hl hex hlk hin hQ
  have S : CallFix p m c cX8_endIf 4 s ([.ref (ad 0), .int (iI y), .int (iI w), .int (iI x)] : List Value).toArray wsX8_endIf RX8 := S
  have iX80 : ∀ w ∈ wsX80, w ∈ wsX8_endIf := fun _ h => List.mem_cons_of_mem _ (List.mem_append_left _ (List.mem_append_left _ (List.mem_append_left _ (List.mem_append_left _ (List.mem_append_left _ (List.mem_append_right _ (h)))))))
  have iX50 : ∀ w ∈ wsX50, w ∈ wsX8_endIf := fun _ h => List.mem_cons_of_mem _ (List.mem_append_left _ (List.mem_append_left _ (List.mem_append_left _ (List.mem_append_left _ (List.mem_append_right _ (h))))))
  have iX40 : ∀ w ∈ wsX40, w ∈ wsX8_endIf := fun _ h => List.mem_cons_of_mem _ (List.mem_append_left _ (List.mem_append_left _ (List.mem_append_left _ (List.mem_append_right _ (h)))))
  have iX70 : ∀ w ∈ wsX70, w ∈ wsX8_endIf := fun _ h => List.mem_cons_of_mem _ (List.mem_append_left _ (List.mem_append_left _ (List.mem_append_right _ (h))))
  have hl : lv_has ls 4 [(0, .ref (ad 0)), (1, .int (iI y)), (2, .int (iI w)), (3, .int (iI x))] := hl
  have hG : gW K A s.heap [gRLC K ad, gScn K (ad 3) (ad 14) (ad 15) (ad 16) (ad 17) ou mi bo ln LF sn SF] s.heap [] := hG
  obtain ⟨e0, e1, e2, e3, e4, e5, e6⟩ := id hS
  have n0 := hN.1
  have n3 := hN.2.2.2.1
  refine lv_aload_n S.1 S.2.1 dX8_endIf_0 rfl (lv_at hl 0 rfl) ?_
  refine lv_iload_n S.1 S.2.1 dX8_endIf_1 rfl (lv_at hl 1 rfl) ?_
  refine g_invVv (As := [.int (iI y)]) (rest := []) (gs' := (fun u : Unit => [gRLC K ad, gScn K (ad 3) (ad 14) (ad 15) (ad 16) (ad 17) ou mi bo ln LF sn SF])) S C hG [0, 1] (c_X8_checkShot l K ad ou mi bo ln LF sn SF N y hS hN hv hs) rfl rfl 0 rfl rfl (cwV 1 S.2.2.2.2 gX8_endIf_X8_checkShot rfl rfl rfl (by decide +kernel) ⟨Nat.le_of_ble_eq_true rfl, Nat.le_of_ble_eq_true rfl⟩) rfl hl.1 rfl (Nat.le_of_ble_eq_true rfl) dX8_endIf_2 ⟨Nat.le_of_ble_eq_true rfl, Nat.le_of_ble_eq_true rfl⟩ (fun _ => Nat.le_of_ble_eq_true rfl) (fun _ => rfl) (fun u H locs hp hG => ?_)
  refine lv_aload_n S.1 S.2.1 dX8_endIf_5 rfl (lv_at hl 0 rfl) ?_
  refine lv_iload_n S.1 S.2.1 dX8_endIf_6 rfl (lv_at hl 2 rfl) ?_
  refine g_xV (E := "java/lang/IndexOutOfBoundsException") (As := [.int (iI w)]) (rest := []) (gs' := (fun u : Unit => [gRLC K ad, gScn K (ad 3) (ad 14) (ad 15) (ad 16) (ad 17) ou mi bo ln LF sn SF])) S C hG [0, 1] (x_checkLayer l K ad ou mi bo ln LF sn SF N w hS hN hw hy hst) rfl rfl 0 rfl rfl (cwV 1 S.2.2.2.2 gX8_endIf_X8_checkLayer rfl rfl rfl (by decide +kernel) ⟨Nat.le_of_ble_eq_true rfl, Nat.le_of_ble_eq_true rfl⟩) rfl hl.1 rfl (Nat.le_of_ble_eq_true rfl) dX8_endIf_7 ⟨Nat.le_of_ble_eq_true rfl, Nat.le_of_ble_eq_true rfl⟩ (fun _ => Nat.le_of_ble_eq_true rfl) (fun _ => rfl) (fun u q9 ce9 H locs hp hG hq9 hv9 hcl9 => ?_)
  have hG : gW K A s.heap [gRLC K ad, gScn K (ad 3) (ad 14) (ad 15) (ad 16) (ad 17) ou mi bo ln LF sn SF] _ _ := hG
  exact g_xout hQ hex hlk hq9 hv9 hcl9 (Nat.le_of_ble_eq_true rfl) (Nat.le_of_ble_eq_true rfl) (() : Unit) trivial hG

set_option maxHeartbeats 1000000 in
set_option maxRecDepth 100000 in
theorem x3_endIf (l : Launch) (K : KC) (ad : Nat → Nat) (ou : Int) (mi : Int) (bo : Int) (ln : Int) (LF : Int → Int) (sn : Int) (SF : Int → Int) (N : Int → Int) (y : Int) (w : Int) (x : Int) (hS : ScOk N ou mi bo ln LF sn SF) (hN : NOk0 N) (hv : -2147483648 ≤ y ∧ y < 2147483648) (hw : -2147483648 ≤ w ∧ w < 2147483648) (hx : -2147483648 ≤ x ∧ x < 2147483648) (hs : 0 ≤ y ∧ y < N 4) (hy : 0 ≤ w ∧ w < N 0) (h1 : ¬ (1000 ≤ x ∧ x ≤ 4000)) (hst : l.stackTraces = false) : mX l yX8_endIf wsX8_endIf 7 104 K [.ref (ad 0), .int (iI y), .int (iI w), .int (iI x)] [gRLC K ad, gScn K (ad 3) (ad 14) (ad 15) (ad 16) (ad 17) ou mi bo ln LF sn SF] "java/lang/IllegalArgumentException" (fun (u : Unit) => True) (fun (u : Unit) => [gRLC K ad, gScn K (ad 3) (ad 14) (ad 15) (ad 16) (ad 17) ou mi bo ln LF sn SF]) 1 6 := by
  refine mX_of cX8_endIf 4 (by decide) rfl (Nat.le_of_ble_eq_true rfl) ?_
  intro p e s m below meth c A ls Q S C hG hl hex hlk hin hQ
  have S : CallFix p m c cX8_endIf 4 s ([.ref (ad 0), .int (iI y), .int (iI w), .int (iI x)] : List Value).toArray wsX8_endIf RX8 := S
  have iX80 : ∀ w ∈ wsX80, w ∈ wsX8_endIf := fun _ h => List.mem_cons_of_mem _ (List.mem_append_left _ (List.mem_append_left _ (List.mem_append_left _ (List.mem_append_left _ (List.mem_append_left _ (List.mem_append_right _ (h)))))))
  have iX50 : ∀ w ∈ wsX50, w ∈ wsX8_endIf := fun _ h => List.mem_cons_of_mem _ (List.mem_append_left _ (List.mem_append_left _ (List.mem_append_left _ (List.mem_append_left _ (List.mem_append_right _ (h))))))
  have iX40 : ∀ w ∈ wsX40, w ∈ wsX8_endIf := fun _ h => List.mem_cons_of_mem _ (List.mem_append_left _ (List.mem_append_left _ (List.mem_append_left _ (List.mem_append_right _ (h)))))
  have iX70 : ∀ w ∈ wsX70, w ∈ wsX8_endIf := fun _ h => List.mem_cons_of_mem _ (List.mem_append_left _ (List.mem_append_left _ (List.mem_append_right _ (h))))
  have hl : lv_has ls 4 [(0, .ref (ad 0)), (1, .int (iI y)), (2, .int (iI w)), (3, .int (iI x))] := hl
  have hG : gW K A s.heap [gRLC K ad, gScn K (ad 3) (ad 14) (ad 15) (ad 16) (ad 17) ou mi bo ln LF sn SF] s.heap [] := hG
  obtain ⟨e0, e1, e2, e3, e4, e5, e6⟩ := id hS
  have n0 := hN.1
  have n3 := hN.2.2.2.1
  refine lv_aload_n S.1 S.2.1 dX8_endIf_0 rfl (lv_at hl 0 rfl) ?_
  refine lv_iload_n S.1 S.2.1 dX8_endIf_1 rfl (lv_at hl 1 rfl) ?_
  refine g_invVv (As := [.int (iI y)]) (rest := []) (gs' := (fun u : Unit => [gRLC K ad, gScn K (ad 3) (ad 14) (ad 15) (ad 16) (ad 17) ou mi bo ln LF sn SF])) S C hG [0, 1] (c_X8_checkShot l K ad ou mi bo ln LF sn SF N y hS hN hv hs) rfl rfl 0 rfl rfl (cwV 1 S.2.2.2.2 gX8_endIf_X8_checkShot rfl rfl rfl (by decide +kernel) ⟨Nat.le_of_ble_eq_true rfl, Nat.le_of_ble_eq_true rfl⟩) rfl hl.1 rfl (Nat.le_of_ble_eq_true rfl) dX8_endIf_2 ⟨Nat.le_of_ble_eq_true rfl, Nat.le_of_ble_eq_true rfl⟩ (fun _ => Nat.le_of_ble_eq_true rfl) (fun _ => rfl) (fun u H locs hp hG => ?_)
  refine lv_aload_n S.1 S.2.1 dX8_endIf_5 rfl (lv_at hl 0 rfl) ?_
  refine lv_iload_n S.1 S.2.1 dX8_endIf_6 rfl (lv_at hl 2 rfl) ?_
  refine g_invVv (As := [.int (iI w)]) (rest := []) (gs' := (fun u : Unit => [gRLC K ad, gScn K (ad 3) (ad 14) (ad 15) (ad 16) (ad 17) ou mi bo ln LF sn SF])) S C hG [0, 1] (c_X8_checkLayer l K ad ou mi bo ln LF sn SF N w hS hN hw hy) rfl rfl 0 rfl rfl (cwV 1 S.2.2.2.2 gX8_endIf_X8_checkLayer rfl rfl rfl (by decide +kernel) ⟨Nat.le_of_ble_eq_true rfl, Nat.le_of_ble_eq_true rfl⟩) rfl hl.1 rfl (Nat.le_of_ble_eq_true rfl) dX8_endIf_7 ⟨Nat.le_of_ble_eq_true rfl, Nat.le_of_ble_eq_true rfl⟩ (fun _ => Nat.le_of_ble_eq_true rfl) (fun _ => rfl) (fun u H locs hp hG => ?_)
  refine lv_iload_n S.1 S.2.1 dX8_endIf_10 rfl (lv_at hl 3 rfl) ?_
  refine g_sipush S dX8_endIf_11 (by decide) ?_
  refine g_sipush S dX8_endIf_14 (by decide) ?_
  refine g_xS (E := "java/lang/IllegalArgumentException") (As := [.int (iI x), .int (iI 1000), .int (iI 4000)]) (rest := []) (gs' := (fun u : Unit => [gRLC K ad, gScn K (ad 3) (ad 14) (ad 15) (ad 16) (ad 17) ou mi bo ln LF sn SF])) S C hG [] (x_checkRange l K x 1000 4000 hx (by omega) (by omega) h1 hst) rfl rfl (va_cwS 3 S.2.2.2.2 gX8_endIf_X8_checkRange rfl rfl rfl (by decide +kernel) ⟨Nat.le_of_ble_eq_true rfl, Nat.le_of_ble_eq_true rfl⟩) rfl hl.1 rfl (Nat.le_of_ble_eq_true rfl) dX8_endIf_17 ⟨Nat.le_of_ble_eq_true rfl, Nat.le_of_ble_eq_true rfl⟩ (fun _ => Nat.le_of_ble_eq_true rfl) (fun _ => rfl) (fun u q9 ce9 H locs hp hG hq9 hv9 hcl9 => ?_)
  have hG : gW K A s.heap [gRLC K ad, gScn K (ad 3) (ad 14) (ad 15) (ad 16) (ad 17) ou mi bo ln LF sn SF] _ _ := hG
  exact g_xout hQ hex hlk hq9 hv9 hcl9 (Nat.le_of_ble_eq_true rfl) (Nat.le_of_ble_eq_true rfl) (() : Unit) trivial hG

set_option maxHeartbeats 1000000 in
set_option maxRecDepth 100000 in
theorem c_X8_bestWithout (l : Launch) (K : KC) (ad : Nat → Nat) (ou : Int) (mi : Int) (bo : Int) (ln : Int) (LF : Int → Int) (sn : Int) (SF : Int → Int) (N : Int → Int) (ou_t : Int) (mi_t : Int) (bo_t : Int) (ln_t : Int) (LF_t : Int → Int) (sn_t : Int) (SF_t : Int → Int) (rs : Nat) (rv : RU) (XF : Int → Int) (y : Int) (hS : ScOk N ou mi bo ln LF sn SF) (hN : NOk0 N) (hv : -2147483648 ≤ y ∧ y < 2147483648) (hs : 0 ≤ y ∧ y < N 4) : mG l yX8_bestWithout wsX8_bestWithout 5 117 K [.ref (ad 0), .int (iI y)] [gRLC K ad, gScn K (ad 3) (ad 14) (ad 15) (ad 16) (ad 17) ou mi bo ln LF sn SF, gScn K (ad 4) (ad 18) (ad 19) (ad 20) (ad 21) ou_t mi_t bo_t ln_t LF_t sn_t SF_t, gRayU K (ad 7) (ad 23) (ad 24) (ad 25) (ad 26) rs rv XF] (fun (v : Value) (u : Int × Int × Int × Int × (Int → Int) × Int × (Int → Int) × Nat × RU × (Int → Int)) => (v = .int (iI (if N 0 < 2 then -1 else (bstN (fun _ : Nat => true) (fun i : Nat => pS (remLN N (i : Int)) y) (N 0).toNat).1)))) (fun (u : Int × Int × Int × Int × (Int → Int) × Int × (Int → Int) × Nat × RU × (Int → Int)) => [gRLC K ad, gScn K (ad 3) (ad 14) (ad 15) (ad 16) (ad 17) ou mi bo ln LF sn SF, gScn K (ad 4) (ad 18) (ad 19) (ad 20) (ad 21) u.1 u.2.1 u.2.2.1 u.2.2.2.1 u.2.2.2.2.1 u.2.2.2.2.2.1 u.2.2.2.2.2.2.1, gRayU K (ad 7) (ad 23) (ad 24) (ad 25) (ad 26) u.2.2.2.2.2.2.2.1 u.2.2.2.2.2.2.2.2.1 u.2.2.2.2.2.2.2.2.2]) 0 0 := by
  refine mG_of cX8_bestWithout 6 (by decide) rfl (Nat.le_of_ble_eq_true rfl) ?_
  intro p e s m below meth c A ls Q S C hG hl hr hlk hin hQ
  have S : CallFix p m c cX8_bestWithout 6 s ([.ref (ad 0), .int (iI y)] : List Value).toArray wsX8_bestWithout RX8 := S
  have iX80 : ∀ w ∈ wsX80, w ∈ wsX8_bestWithout := fun _ h => List.mem_cons_of_mem _ (List.mem_append_left _ (List.mem_append_left _ (List.mem_append_left _ (List.mem_append_left _ (List.mem_append_right _ (h))))))
  have iX50 : ∀ w ∈ wsX50, w ∈ wsX8_bestWithout := fun _ h => List.mem_cons_of_mem _ (List.mem_append_left _ (List.mem_append_left _ (List.mem_append_left _ (List.mem_append_right _ (h)))))
  have iX70 : ∀ w ∈ wsX70, w ∈ wsX8_bestWithout := fun _ h => List.mem_cons_of_mem _ (List.mem_append_left _ (List.mem_append_left _ (List.mem_append_right _ (h))))
  have iX40 : ∀ w ∈ wsX40, w ∈ wsX8_bestWithout := fun _ h => List.mem_cons_of_mem _ (List.mem_append_left _ (List.mem_append_right _ (h)))
  have hl : lv_has ls 6 [(0, .ref (ad 0)), (1, .int (iI y))] := hl
  have hG : gW K A s.heap [gRLC K ad, gScn K (ad 3) (ad 14) (ad 15) (ad 16) (ad 17) ou mi bo ln LF sn SF, gScn K (ad 4) (ad 18) (ad 19) (ad 20) (ad 21) ou_t mi_t bo_t ln_t LF_t sn_t SF_t, gRayU K (ad 7) (ad 23) (ad 24) (ad 25) (ad 26) rs rv XF] s.heap [] := hG
  obtain ⟨e0, e1, e2, e3, e4, e5, e6⟩ := id hS
  have n0 := hN.1
  have n3 := hN.2.2.2.1
  have n2 := hN.2.2.1
  refine lv_aload_n S.1 S.2.1 dX8_bestWithout_0 rfl (lv_at hl 0 rfl) ?_
  refine lv_iload_n S.1 S.2.1 dX8_bestWithout_1 rfl (lv_at hl 1 rfl) ?_
  refine g_invVv (As := [.int (iI y)]) (rest := []) (gs' := (fun u : Unit => [gRLC K ad, gScn K (ad 3) (ad 14) (ad 15) (ad 16) (ad 17) ou mi bo ln LF sn SF, gScn K (ad 4) (ad 18) (ad 19) (ad 20) (ad 21) ou_t mi_t bo_t ln_t LF_t sn_t SF_t, gRayU K (ad 7) (ad 23) (ad 24) (ad 25) (ad 26) rs rv XF])) S C hG [0, 1] (c_X8_checkShot l K ad ou mi bo ln LF sn SF N y hS hN hv hs) rfl rfl 0 rfl rfl (cwV 1 S.2.2.2.2 gX8_bestWithout_X8_checkShot rfl rfl rfl (by decide +kernel) ⟨Nat.le_of_ble_eq_true rfl, Nat.le_of_ble_eq_true rfl⟩) rfl hl.1 rfl (Nat.le_of_ble_eq_true rfl) dX8_bestWithout_2 ⟨Nat.le_of_ble_eq_true rfl, Nat.le_of_ble_eq_true rfl⟩ (fun _ => Nat.le_of_ble_eq_true rfl) (fun _ => rfl) (fun u H locs hp hG => ?_)
  refine lv_aload_n S.1 S.2.1 dX8_bestWithout_5 rfl (lv_at hl 0 rfl) ?_
  refine g_get S C hG iX80 0 rfl rfl 2 (by decide) (List.mem_of_getElem? (i := 1) rfl) rfl dX8_bestWithout_6 ?_
  refine g_get S C hG iX50 1 rfl rfl 0 (by decide) (List.mem_of_getElem? (i := 2) rfl) rfl dX8_bestWithout_9 ?_
  refine g_get S C hG iX70 2 rfl rfl 1 (by decide) (List.mem_of_getElem? (i := 3) rfl) rfl dX8_bestWithout_12 ?_
  refine g_iconst S dX8_bestWithout_15 ?_
  refine g_icmp_ge (tgt := 21) S dX8_bestWithout_16 (by decide) (by omega) (by omega) (fun q16 => ?_) (fun q16 => ?_)
  · skip
    refine g_iconst S dX8_bestWithout_21 ?_
    refine lv_istore_n (lv' := [(2, .int (iI (-1))), (0, .ref (ad 0)), (1, .int (iI y))]) S.1 S.2.1 dX8_bestWithout_22 rfl hl (by decide) rfl (fun ls hl => ?_)
    refine g_iconst S dX8_bestWithout_23 ?_
    refine lv_istore_n (lv' := [(3, .int (iI 0)), (2, .int (iI (-1))), (0, .ref (ad 0)), (1, .int (iI y))]) S.1 S.2.1 dX8_bestWithout_24 rfl hl (by decide) rfl (fun ls hl => ?_)
    refine g_iconst S dX8_bestWithout_25 ?_
    refine lv_istore (lv' := [(4, .int (iI 0)), (3, .int (iI 0)), (2, .int (iI (-1))), (0, .ref (ad 0)), (1, .int (iI y))]) S.1 S.2.1 dX8_bestWithout_26 hl (by decide) rfl (fun ls hl => ?_)
    have L28 : ∀ (fu : Nat) (k : Nat) (w : Int) (bb : Int) (mm : Int) (ou_t1 : Int) (mi_t1 : Int) (bo_t1 : Int) (ln_t1 : Int) (LF_t1 : Int → Int) (sn_t1 : Int) (SF_t1 : Int → Int) (rs1 : Nat) (rv1 : RU) (X1 : Int → Int) (H : Heap) (locs : List Loc) (ls : Array Slot), ((N 0 - w).toNat) < fu → (w = (k : Int) ∧ w ≤ N 0) → (bb = (bstN (fun _ : Nat => true) (fun i : Nat => pS (remLN N (i : Int)) y) k).1 ∧ mm = (bstN (fun _ : Nat => true) (fun i : Nat => pS (remLN N (i : Int)) y) k).2) → (0 ≤ mm ∧ mm ≤ 1000000 ∧ -1 ≤ bb ∧ bb ≤ 10) → lv_has ls 6 [(0, .ref (ad 0)), (1, .int (iI y)), (2, .int (iI bb)), (3, .int (iI mm)), (4, .int (iI w))] → gW K A s.heap [gRLC K ad, gScn K (ad 3) (ad 14) (ad 15) (ad 16) (ad 17) ou mi bo ln LF sn SF, gScn K (ad 4) (ad 18) (ad 19) (ad 20) (ad 21) ou_t1 mi_t1 bo_t1 ln_t1 LF_t1 sn_t1 SF_t1, gRayU K (ad 7) (ad 23) (ad 24) (ad 25) (ad 26) rs1 rv1 X1] H locs → W p l e { frames := 5, cells := 0, slots := 0, locals := 117 } s m ([.ref (ad 0), .int (iI y)] : List Value).toArray below meth c H locs 0 0 Q (F0 m 28 ls []) := by
      intro fu
      induction fu with
      | zero => intro k w bb mm ou_t1 mi_t1 bo_t1 ln_t1 LF_t1 sn_t1 SF_t1 rs1 rv1 X1 H locs ls hfu; exact absurd hfu (Nat.not_lt_zero _)
      | succ fu ih =>
        intro k w bb mm ou_t1 mi_t1 bo_t1 ln_t1 LF_t1 sn_t1 SF_t1 rs1 rv1 X1 H locs ls hfu hw hb hm hl hG
        refine lv_iload S.1 S.2.1 dX8_bestWithout_28 (lv_at hl 4 rfl) ?_
        refine lv_aload_n S.1 S.2.1 dX8_bestWithout_30 rfl (lv_at hl 0 rfl) ?_
        refine g_get S C hG iX80 0 rfl rfl 2 (by decide) (List.mem_of_getElem? (i := 1) rfl) rfl dX8_bestWithout_31 ?_
        refine g_get S C hG iX50 1 rfl rfl 0 (by decide) (List.mem_of_getElem? (i := 2) rfl) rfl dX8_bestWithout_34 ?_
        refine g_get S C hG iX70 2 rfl rfl 1 (by decide) (List.mem_of_getElem? (i := 3) rfl) rfl dX8_bestWithout_37 ?_
        refine g_icmp_ge (tgt := 103) S dX8_bestWithout_40 (by decide) (by omega) (by omega) (fun q40 => ?_) (fun q40 => ?_)
        · skip
          refine lv_iload_n S.1 S.2.1 dX8_bestWithout_103 rfl (lv_at hl 2 rfl) ?_
          have hG : gW K A s.heap [gRLC K ad, gScn K (ad 3) (ad 14) (ad 15) (ad 16) (ad 17) ou mi bo ln LF sn SF, gScn K (ad 4) (ad 18) (ad 19) (ad 20) (ad 21) ou_t1 mi_t1 bo_t1 ln_t1 LF_t1 sn_t1 SF_t1, gRayU K (ad 7) (ad 23) (ad 24) (ad 25) (ad 26) rs1 rv1 X1] _ _ := hG
          exact g_iret S hr hlk hQ dX8_bestWithout_104 (Nat.le_of_ble_eq_true rfl) (Nat.le_of_ble_eq_true rfl) ((ou_t1, mi_t1, bo_t1, ln_t1, LF_t1, sn_t1, SF_t1, rs1, rv1, X1) : Int × Int × Int × Int × (Int → Int) × Int × (Int → Int) × Nat × RU × (Int → Int)) (congrArg (fun z : Int => Value.int (iI z)) (by rw [if_neg (by omega), hb.1, show (N 0).toNat = k by omega])) hG
        · skip
          refine lv_aload_n S.1 S.2.1 dX8_bestWithout_43 rfl (lv_at hl 0 rfl) ?_
          refine g_get S C hG iX80 0 rfl rfl 3 (by decide) (List.mem_of_getElem? (i := 4) rfl) rfl dX8_bestWithout_44 ?_
          refine lv_aload_n S.1 S.2.1 dX8_bestWithout_47 rfl (lv_at hl 0 rfl) ?_
          refine g_get S C hG iX80 0 rfl rfl 2 (by decide) (List.mem_of_getElem? (i := 1) rfl) rfl dX8_bestWithout_48 ?_
          refine g_invVv (As := [.ref (ad 3)]) (rest := []) (gs' := (fun u : Unit => [gRLC K ad, gScn K (ad 3) (ad 14) (ad 15) (ad 16) (ad 17) ou mi bo ln LF sn SF, gScn K (ad 4) (ad 18) (ad 19) (ad 20) (ad 21) ou mi bo ln (cpyI LF LF_t1 60) sn (cpyI SF SF_t1 60), gRayU K (ad 7) (ad 23) (ad 24) (ad 25) (ad 26) rs1 rv1 X1])) S C hG [2, 1] (c_X5_become l K (ad 4) (ad 18) (ad 19) (ad 20) (ad 21) ou_t1 mi_t1 bo_t1 ln_t1 LF_t1 sn_t1 SF_t1 (ad 3) (ad 14) (ad 15) (ad 16) (ad 17) ou mi bo ln LF sn SF (by omega)) rfl rfl 0 rfl rfl (cwV 1 S.2.2.2.2 gX8_bestWithout_X5_become rfl rfl rfl (by decide +kernel) ⟨Nat.le_of_ble_eq_true rfl, Nat.le_of_ble_eq_true rfl⟩) rfl hl.1 rfl (Nat.le_of_ble_eq_true rfl) dX8_bestWithout_51 ⟨Nat.le_of_ble_eq_true rfl, Nat.le_of_ble_eq_true rfl⟩ (fun _ => Nat.le_of_ble_eq_true rfl) (fun _ => rfl) (fun u H locs hp hG => ?_)
          refine lv_aload_n S.1 S.2.1 dX8_bestWithout_54 rfl (lv_at hl 0 rfl) ?_
          refine g_get S C hG iX80 0 rfl rfl 3 (by decide) (List.mem_of_getElem? (i := 4) rfl) rfl dX8_bestWithout_55 ?_
          refine g_get S C hG iX50 6 rfl rfl 0 (by decide) (List.mem_of_getElem? (i := 2) rfl) rfl dX8_bestWithout_58 ?_
          refine lv_iload S.1 S.2.1 dX8_bestWithout_61 (lv_at hl 4 rfl) ?_
          have hG : gW K A s.heap [gRLC K ad, gScn K (ad 3) (ad 14) (ad 15) (ad 16) (ad 17) ou mi bo ln LF sn SF, gScC K (ad 4) (ad 18) (ad 20) ou mi bo, gTab K (ad 18) (ad 19) ln (cpyI LF LF_t1 60), gTabC K (ad 20) (ad 21) sn, gArr K 60 (ad 21) (cpyI SF SF_t1 60), gRayU K (ad 7) (ad 23) (ad 24) (ad 25) (ad 26) rs1 rv1 X1] _ _ := hG
          refine g_invVv (As := [.int (iI w)]) (rest := []) (gs' := (fun u : (Int → Int) => [gRLC K ad, gScn K (ad 3) (ad 14) (ad 15) (ad 16) (ad 17) ou mi bo ln LF sn SF, gScC K (ad 4) (ad 18) (ad 20) ou mi bo, gTab K (ad 18) (ad 19) (ln - 1) u, gTabC K (ad 20) (ad 21) sn, gArr K 60 (ad 21) (cpyI SF SF_t1 60), gRayU K (ad 7) (ad 23) (ad 24) (ad 25) (ad 26) rs1 rv1 X1])) S C hG [3] (c_X7_remove l K (ad 18) (ad 19) ln (cpyI LF LF_t1 60) w (by omega) (by omega)) rfl rfl 0 rfl rfl (cwV 1 S.2.2.2.2 gX8_bestWithout_X7_remove rfl rfl rfl (by decide +kernel) ⟨Nat.le_of_ble_eq_true rfl, Nat.le_of_ble_eq_true rfl⟩) rfl hl.1 rfl (Nat.le_of_ble_eq_true rfl) dX8_bestWithout_63 ⟨Nat.le_of_ble_eq_true rfl, Nat.le_of_ble_eq_true rfl⟩ (fun _ => Nat.le_of_ble_eq_true rfl) (fun _ => rfl) (fun u H locs hp hG => ?_)
          obtain ⟨F2_63, rfl⟩ : ∃ z, z = u := ⟨_, rfl⟩
          have hF_63 := hp
          have hF_63 : ∀ r k : Int, 0 ≤ k → k < 3 → F2_63 (r * 3 + k) = if w ≤ r ∧ r < ln - 1 then (cpyI LF LF_t1 60) ((r + 1) * 3 + k) else (cpyI LF LF_t1 60) (r * 3 + k) := hF_63
          have hG : gW K A s.heap [gRLC K ad, gScn K (ad 3) (ad 14) (ad 15) (ad 16) (ad 17) ou mi bo ln LF sn SF, gScC K (ad 4) (ad 18) (ad 20) ou mi bo, gTab K (ad 18) (ad 19) (ln - 1) F2_63, gTabC K (ad 20) (ad 21) sn, gArr K 60 (ad 21) (cpyI SF SF_t1 60), gRayU K (ad 7) (ad 23) (ad 24) (ad 25) (ad 26) rs1 rv1 X1] _ _ := hG
          have hNr := hN.rem (y := w) ⟨by omega, by omega⟩
          have h4r : remLN N w 4 = N 4 := by (simp only [remLN] <;> rw [if_neg (by omega), if_neg (by omega)])
          refine lv_aload_n S.1 S.2.1 dX8_bestWithout_66 rfl (lv_at hl 0 rfl) ?_
          refine lv_aload_n S.1 S.2.1 dX8_bestWithout_67 rfl (lv_at hl 0 rfl) ?_
          refine g_get S C hG iX80 0 rfl rfl 3 (by decide) (List.mem_of_getElem? (i := 4) rfl) rfl dX8_bestWithout_68 ?_
          refine lv_iload_n S.1 S.2.1 dX8_bestWithout_71 rfl (lv_at hl 1 rfl) ?_
          have hG : gW K A s.heap [gRLC K ad, gScn K (ad 3) (ad 14) (ad 15) (ad 16) (ad 17) ou mi bo ln LF sn SF, gScn K (ad 4) (ad 18) (ad 19) (ad 20) (ad 21) ou mi bo (ln - 1) F2_63 sn (cpyI SF SF_t1 60), gRayU K (ad 7) (ad 23) (ad 24) (ad 25) (ad 26) rs1 rv1 X1] _ _ := hG
          refine g_invV (As := [.ref (ad 4), .int (iI y)]) (rest := []) (gs' := (fun u : RU × (Int → Int) => [gRLC K ad, gScn K (ad 3) (ad 14) (ad 15) (ad 16) (ad 17) ou mi bo ln LF sn SF, gScn K (ad 4) (ad 18) (ad 19) (ad 20) (ad 21) ou mi bo (ln - 1) F2_63 sn (cpyI SF SF_t1 60), gRayU K (ad 7) (ad 23) (ad 24) (ad 25) (ad 26) (ad 4) u.1 u.2])) S C hG [0, 2, 3] (c_X8_runOf l K ad (ad 4) (ad 18) (ad 19) (ad 20) (ad 21) ou mi bo (ln - 1) F2_63 sn (cpyI SF SF_t1 60) (remLN N w) rs1 rv1 X1 y ((cpy_ok hS hN).rem hN ⟨by omega, by omega⟩ hF_63) hNr ⟨hs.1, by rw [h4r] <;> exact hs.2⟩) rfl rfl 0 rfl rfl (cwV 2 S.2.2.2.2 gX8_bestWithout_X8_runOf rfl rfl rfl (by decide +kernel) ⟨Nat.le_of_ble_eq_true rfl, Nat.le_of_ble_eq_true rfl⟩) rfl hl.1 rfl (Nat.le_of_ble_eq_true rfl) dX8_bestWithout_72 ⟨Nat.le_of_ble_eq_true rfl, Nat.le_of_ble_eq_true rfl⟩ (fun _ => Nat.le_of_ble_eq_true rfl) (fun _ => rfl) (fun v u H locs hp hG => ?_)
          obtain ⟨rv2_72, X2_72⟩ := u
          obtain ⟨rfl, hr_72⟩ := hp
          have hr_72 : ResU (remLN N w) (sP (remLN N w) y) (sY (remLN N w) y) (sD (remLN N w) y) rv2_72 := hr_72
          have hG : gW K A s.heap [gRLC K ad, gScn K (ad 3) (ad 14) (ad 15) (ad 16) (ad 17) ou mi bo ln LF sn SF, gScn K (ad 4) (ad 18) (ad 19) (ad 20) (ad 21) ou mi bo (ln - 1) F2_63 sn (cpyI SF SF_t1 60), gRayU K (ad 7) (ad 23) (ad 24) (ad 25) (ad 26) (ad 4) rv2_72 X2_72] _ _ := hG
          have g5 := sho_bd hNr (r := y) hs.1 (by rw [h4r] <;> exact hs.2)
          have g6 := (shF_bd hNr (p := sP (remLN N w) y) (y := sY (remLN N w) y) (e := sD (remLN N w) y) g5.2.2.1 g5.2.1).2.2
          have g7 : 0 ≤ pS (remLN N (k : Int)) y ∧ pS (remLN N (k : Int)) y ≤ 1000000 := by rw [← hw.1] <;> exact g6
          refine g_get S C hG iX40 11 rfl rfl 13 (by decide) (List.mem_of_getElem? (i := 5) rfl) rfl dX8_bestWithout_75 ?_
          refine g_top (w := .int (iI (pS (remLN N (k : Int)) y))) (congrArg (fun z : Int => Value.int (iI z)) ((by rw [← hw.1] <;> exact hr_72.f.2.2.2.2))) ?_
          refine lv_istore (lv' := [(5, .int (iI (pS (remLN N (k : Int)) y))), (0, .ref (ad 0)), (1, .int (iI y)), (2, .int (iI bb)), (3, .int (iI mm)), (4, .int (iI w))]) S.1 S.2.1 dX8_bestWithout_78 hl (by decide) rfl (fun ls hl => ?_)
          refine lv_iload_n S.1 S.2.1 dX8_bestWithout_80 rfl (lv_at hl 3 rfl) ?_
          refine g_iconst S dX8_bestWithout_81 ?_
          refine g_icmp_eq (tgt := 91) S dX8_bestWithout_82 (by decide) (by omega) (by omega) (fun q82 => ?_) (fun q82 => ?_)
          · skip
            refine lv_iload S.1 S.2.1 dX8_bestWithout_91 (lv_at hl 5 rfl) ?_
            refine lv_istore_n (lv' := [(2, .int (iI w)), (5, .int (iI (pS (remLN N (k : Int)) y))), (0, .ref (ad 0)), (1, .int (iI y)), (3, .int (iI mm)), (4, .int (iI w))]) S.1 S.2.1 dX8_bestWithout_93 rfl hl (by decide) rfl (fun ls hl => ?_)
            refine lv_iload S.1 S.2.1 dX8_bestWithout_94 (lv_at hl 1 rfl) ?_
            refine lv_istore_n (lv' := [(3, .int (iI (pS (remLN N (k : Int)) y))), (2, .int (iI w)), (5, .int (iI (pS (remLN N (k : Int)) y))), (0, .ref (ad 0)), (1, .int (iI y)), (4, .int (iI w))]) S.1 S.2.1 dX8_bestWithout_96 rfl hl (by decide) rfl (fun ls hl => ?_)
            refine lv_iinc (v := iI (w + 1)) (lv' := [(4, .int (iI (w + 1))), (3, .int (iI (pS (remLN N (k : Int)) y))), (2, .int (iI w)), (5, .int (iI (pS (remLN N (k : Int)) y))), (0, .ref (ad 0)), (1, .int (iI y))]) S.1 S.2.1 dX8_bestWithout_97 hl (k := 5) rfl (g_iinc rfl) (by decide) rfl (fun ls hl => ?_)
            refine lv_goto (tgt := 28) S.1 S.2.1 dX8_bestWithout_100 (by decide) ?_
            exact ih (k + 1) (w + 1) w (pS (remLN N (k : Int)) y) ou mi bo (ln - 1) F2_63 sn (cpyI SF SF_t1 60) (ad 4) rv2_72 X2_72 _ _ _ (by omega) ⟨by omega, by omega⟩ (by rw [bst_yes rfl (Or.inl (by omega))] <;> exact ⟨hw.1, rfl⟩) (by omega) (lv_sub hl [4, 5, 2, 1, 0] rfl) hG
          · skip
            refine lv_iload S.1 S.2.1 dX8_bestWithout_85 (lv_at hl 0 rfl) ?_
            refine lv_iload_n S.1 S.2.1 dX8_bestWithout_87 rfl (lv_at hl 4 rfl) ?_
            refine g_icmp_le (tgt := 97) S dX8_bestWithout_88 (by decide) (by omega) (by omega) (fun q88 => ?_) (fun q88 => ?_)
            · skip
              refine lv_iinc (v := iI (w + 1)) (lv' := [(4, .int (iI (w + 1))), (5, .int (iI (pS (remLN N (k : Int)) y))), (0, .ref (ad 0)), (1, .int (iI y)), (2, .int (iI bb)), (3, .int (iI mm))]) S.1 S.2.1 dX8_bestWithout_97 hl (k := 5) rfl (g_iinc rfl) (by decide) rfl (fun ls hl => ?_)
              refine lv_goto (tgt := 28) S.1 S.2.1 dX8_bestWithout_100 (by decide) ?_
              exact ih (k + 1) (w + 1) bb mm ou mi bo (ln - 1) F2_63 sn (cpyI SF SF_t1 60) (ad 4) rv2_72 X2_72 _ _ _ (by omega) ⟨by omega, by omega⟩ (by rw [bst_keep (by omega) (by omega)] <;> exact hb) (by omega) (lv_sub hl [2, 3, 4, 5, 0] rfl) hG
            · skip
              refine lv_iload S.1 S.2.1 dX8_bestWithout_91 (lv_at hl 5 rfl) ?_
              refine lv_istore_n (lv' := [(2, .int (iI w)), (5, .int (iI (pS (remLN N (k : Int)) y))), (0, .ref (ad 0)), (1, .int (iI y)), (3, .int (iI mm)), (4, .int (iI w))]) S.1 S.2.1 dX8_bestWithout_93 rfl hl (by decide) rfl (fun ls hl => ?_)
              refine lv_iload S.1 S.2.1 dX8_bestWithout_94 (lv_at hl 1 rfl) ?_
              refine lv_istore_n (lv' := [(3, .int (iI (pS (remLN N (k : Int)) y))), (2, .int (iI w)), (5, .int (iI (pS (remLN N (k : Int)) y))), (0, .ref (ad 0)), (1, .int (iI y)), (4, .int (iI w))]) S.1 S.2.1 dX8_bestWithout_96 rfl hl (by decide) rfl (fun ls hl => ?_)
              refine lv_iinc (v := iI (w + 1)) (lv' := [(4, .int (iI (w + 1))), (3, .int (iI (pS (remLN N (k : Int)) y))), (2, .int (iI w)), (5, .int (iI (pS (remLN N (k : Int)) y))), (0, .ref (ad 0)), (1, .int (iI y))]) S.1 S.2.1 dX8_bestWithout_97 hl (k := 5) rfl (g_iinc rfl) (by decide) rfl (fun ls hl => ?_)
              refine lv_goto (tgt := 28) S.1 S.2.1 dX8_bestWithout_100 (by decide) ?_
              exact ih (k + 1) (w + 1) w (pS (remLN N (k : Int)) y) ou mi bo (ln - 1) F2_63 sn (cpyI SF SF_t1 60) (ad 4) rv2_72 X2_72 _ _ _ (by omega) ⟨by omega, by omega⟩ (by rw [bst_yes rfl (Or.inr (by omega))] <;> exact ⟨hw.1, rfl⟩) (by omega) (lv_sub hl [4, 5, 2, 1, 0] rfl) hG
    exact L28 (Nat.succ ((N 0 - 0).toNat)) 0 0 (-1) 0 ou_t mi_t bo_t ln_t LF_t sn_t SF_t rs rv XF _ _ _ (Nat.lt_succ_self _) ⟨rfl, by omega⟩ ⟨rfl, rfl⟩ (by omega) (lv_sub hl [3, 4, 2, 1, 0] rfl) hG
  · skip
    refine g_iconst S dX8_bestWithout_19 ?_
    have hG : gW K A s.heap [gRLC K ad, gScn K (ad 3) (ad 14) (ad 15) (ad 16) (ad 17) ou mi bo ln LF sn SF, gScn K (ad 4) (ad 18) (ad 19) (ad 20) (ad 21) ou_t mi_t bo_t ln_t LF_t sn_t SF_t, gRayU K (ad 7) (ad 23) (ad 24) (ad 25) (ad 26) rs rv XF] _ _ := hG
    exact g_iret S hr hlk hQ dX8_bestWithout_20 (Nat.le_of_ble_eq_true rfl) (Nat.le_of_ble_eq_true rfl) ((ou_t, mi_t, bo_t, ln_t, LF_t, sn_t, SF_t, rs, rv, XF) : Int × Int × Int × Int × (Int → Int) × Int × (Int → Int) × Nat × RU × (Int → Int)) (congrArg (fun z : Int => Value.int (iI z)) (if_pos (by omega)).symm) hG

set_option maxHeartbeats 1000000 in
set_option maxRecDepth 100000 in
theorem x1_bestWithout (l : Launch) (K : KC) (ad : Nat → Nat) (ou : Int) (mi : Int) (bo : Int) (ln : Int) (LF : Int → Int) (sn : Int) (SF : Int → Int) (N : Int → Int) (y : Int) (hS : ScOk N ou mi bo ln LF sn SF) (hN : NOk0 N) (hv : -2147483648 ≤ y ∧ y < 2147483648) (hs : ¬ (0 ≤ y ∧ y < N 4)) (hst : l.stackTraces = false) : mX l yX8_bestWithout wsX8_bestWithout 7 103 K [.ref (ad 0), .int (iI y)] [gRLC K ad, gScn K (ad 3) (ad 14) (ad 15) (ad 16) (ad 17) ou mi bo ln LF sn SF] "java/lang/IndexOutOfBoundsException" (fun (u : Unit) => True) (fun (u : Unit) => [gRLC K ad, gScn K (ad 3) (ad 14) (ad 15) (ad 16) (ad 17) ou mi bo ln LF sn SF]) 1 6 := by
  refine mX_of cX8_bestWithout 6 (by decide) rfl (Nat.le_of_ble_eq_true rfl) ?_
  intro p e s m below meth c A ls Q S C hG hl hex hlk hin hQ
  have S : CallFix p m c cX8_bestWithout 6 s ([.ref (ad 0), .int (iI y)] : List Value).toArray wsX8_bestWithout RX8 := S
  have iX80 : ∀ w ∈ wsX80, w ∈ wsX8_bestWithout := fun _ h => List.mem_cons_of_mem _ (List.mem_append_left _ (List.mem_append_left _ (List.mem_append_left _ (List.mem_append_left _ (List.mem_append_right _ (h))))))
  have iX50 : ∀ w ∈ wsX50, w ∈ wsX8_bestWithout := fun _ h => List.mem_cons_of_mem _ (List.mem_append_left _ (List.mem_append_left _ (List.mem_append_left _ (List.mem_append_right _ (h)))))
  have iX70 : ∀ w ∈ wsX70, w ∈ wsX8_bestWithout := fun _ h => List.mem_cons_of_mem _ (List.mem_append_left _ (List.mem_append_left _ (List.mem_append_right _ (h))))
  have iX40 : ∀ w ∈ wsX40, w ∈ wsX8_bestWithout := fun _ h => List.mem_cons_of_mem _ (List.mem_append_left _ (List.mem_append_right _ (h)))
  have hl : lv_has ls 6 [(0, .ref (ad 0)), (1, .int (iI y))] := hl
  have hG : gW K A s.heap [gRLC K ad, gScn K (ad 3) (ad 14) (ad 15) (ad 16) (ad 17) ou mi bo ln LF sn SF] s.heap [] := hG
  obtain ⟨e0, e1, e2, e3, e4, e5, e6⟩ := id hS
  have n0 := hN.1
  have n3 := hN.2.2.2.1
  refine lv_aload_n S.1 S.2.1 dX8_bestWithout_0 rfl (lv_at hl 0 rfl) ?_
  refine lv_iload_n S.1 S.2.1 dX8_bestWithout_1 rfl (lv_at hl 1 rfl) ?_
  refine g_xV (E := "java/lang/IndexOutOfBoundsException") (As := [.int (iI y)]) (rest := []) (gs' := (fun u : Unit => [gRLC K ad, gScn K (ad 3) (ad 14) (ad 15) (ad 16) (ad 17) ou mi bo ln LF sn SF])) S C hG [0, 1] (x_checkShot l K ad ou mi bo ln LF sn SF N y hS hN hv hs hst) rfl rfl 0 rfl rfl (cwV 1 S.2.2.2.2 gX8_bestWithout_X8_checkShot rfl rfl rfl (by decide +kernel) ⟨Nat.le_of_ble_eq_true rfl, Nat.le_of_ble_eq_true rfl⟩) rfl hl.1 rfl (Nat.le_of_ble_eq_true rfl) dX8_bestWithout_2 ⟨Nat.le_of_ble_eq_true rfl, Nat.le_of_ble_eq_true rfl⟩ (fun _ => Nat.le_of_ble_eq_true rfl) (fun _ => rfl) (fun u q9 ce9 H locs hp hG hq9 hv9 hcl9 => ?_)
  have hG : gW K A s.heap [gRLC K ad, gScn K (ad 3) (ad 14) (ad 15) (ad 16) (ad 17) ou mi bo ln LF sn SF] _ _ := hG
  exact g_xout hQ hex hlk hq9 hv9 hcl9 (Nat.le_of_ble_eq_true rfl) (Nat.le_of_ble_eq_true rfl) (() : Unit) trivial hG

set_option maxHeartbeats 1000000 in
set_option maxRecDepth 100000 in
theorem c_X8_swapLayers (l : Launch) (K : KC) (ad : Nat → Nat) (ou : Int) (mi : Int) (bo : Int) (ln : Int) (LF : Int → Int) (sn : Int) (SF : Int → Int) (N : Int → Int) (nx : Int) (sz : Int) (o : Nat → Option SR) (ou_t : Int) (mi_t : Int) (bo_t : Int) (ln_t : Int) (LF_t : Int → Int) (sn_t : Int) (SF_t : Int → Int) (rs : Nat) (rv : RU) (XF : Int → Int) (y : Int) (x : Int) (hS : ScOk N ou mi bo ln LF sn SF) (hN : NOk0 N) (hnx : 0 ≤ nx ∧ nx < 6) (hsz : 0 ≤ sz ∧ sz ≤ 6) (hv : -2147483648 ≤ y ∧ y < 2147483648) (hx : -2147483648 ≤ x ∧ x < 2147483648) (hy : 0 ≤ y ∧ y < N 0) (hx2 : 0 ≤ x ∧ x < N 0) (hne : y ≠ x) : mG l yX8_swapLayers wsX8_swapLayers 5 124 K [.ref (ad 0), .int (iI y), .int (iI x)] [gRLC K ad, gScn K (ad 3) (ad 14) (ad 15) (ad 16) (ad 17) ou mi bo ln LF sn SF, gScn K (ad 4) (ad 18) (ad 19) (ad 20) (ad 21) ou_t mi_t bo_t ln_t LF_t sn_t SF_t, gHisC K (ad 5) (ad 22) nx sz, gQS K (ad 22) 6 (oP o), gRayU K (ad 7) (ad 23) (ad 24) (ad 25) (ad 26) rs rv XF, gSOs K o (List.range 6)] (fun (v : Value) (u : SR × (Int → Int) × Int × Int × Int × Int × (Int → Int) × Int × (Int → Int) × Nat × RU × (Int → Int)) => (v = .int (iI (cntB (fun i : Nat => decide (eS (swpLN N y x) (i : Int) ≠ eS N (i : Int))) (N 4).toNat))) ∧ (ScR N u.1) ∧ (ScOk (swpLN N y x) ou mi bo ln u.2.1 sn SF)) (fun (u : SR × (Int → Int) × Int × Int × Int × Int × (Int → Int) × Int × (Int → Int) × Nat × RU × (Int → Int)) => [gRLC K ad, gScn K (ad 3) (ad 14) (ad 15) (ad 16) (ad 17) ou mi bo ln u.2.1 sn SF, gScn K (ad 4) (ad 18) (ad 19) (ad 20) (ad 21) u.2.2.1 u.2.2.2.1 u.2.2.2.2.1 u.2.2.2.2.2.1 u.2.2.2.2.2.2.1 u.2.2.2.2.2.2.2.1 u.2.2.2.2.2.2.2.2.1, gHisC K (ad 5) (ad 22) ((nx + 1) % 6) (min (sz + 1) 6), gQS K (ad 22) 6 (oP (oup o nx.toNat u.1)), gRayU K (ad 7) (ad 23) (ad 24) (ad 25) (ad 26) u.2.2.2.2.2.2.2.2.2.1 u.2.2.2.2.2.2.2.2.2.2.1 u.2.2.2.2.2.2.2.2.2.2.2, gSOs K (oup o nx.toNat u.1) (List.range 6)]) 5 129 := by
  refine mG_of cX8_swapLayers 6 (by decide) rfl (Nat.le_of_ble_eq_true rfl) ?_
  intro p e s m below meth c A ls Q S C hG hl hr hlk hin hQ
  have S : CallFix p m c cX8_swapLayers 6 s ([.ref (ad 0), .int (iI y), .int (iI x)] : List Value).toArray wsX8_swapLayers RX8 := S
  have iX80 : ∀ w ∈ wsX80, w ∈ wsX8_swapLayers := fun _ h => List.mem_cons_of_mem _ (List.mem_append_left _ (List.mem_append_left _ (List.mem_append_left _ (List.mem_append_left _ (List.mem_append_left _ (List.mem_append_left _ (List.mem_append_right _ (h))))))))
  have iX50 : ∀ w ∈ wsX50, w ∈ wsX8_swapLayers := fun _ h => List.mem_cons_of_mem _ (List.mem_append_left _ (List.mem_append_left _ (List.mem_append_left _ (List.mem_append_left _ (List.mem_append_left _ (List.mem_append_right _ (h)))))))
  have iX70 : ∀ w ∈ wsX70, w ∈ wsX8_swapLayers := fun _ h => List.mem_cons_of_mem _ (List.mem_append_left _ (List.mem_append_left _ (List.mem_append_left _ (List.mem_append_left _ (List.mem_append_right _ (h))))))
  have iX40 : ∀ w ∈ wsX40, w ∈ wsX8_swapLayers := fun _ h => List.mem_cons_of_mem _ (List.mem_append_left _ (List.mem_append_left _ (List.mem_append_left _ (List.mem_append_right _ (h)))))
  have iX10 : ∀ w ∈ wsX10, w ∈ wsX8_swapLayers := fun _ h => List.mem_cons_of_mem _ (List.mem_append_left _ (List.mem_append_left _ (List.mem_append_right _ (h))))
  have hl : lv_has ls 6 [(0, .ref (ad 0)), (1, .int (iI y)), (2, .int (iI x))] := hl
  have hG : gW K A s.heap [gRLC K ad, gScn K (ad 3) (ad 14) (ad 15) (ad 16) (ad 17) ou mi bo ln LF sn SF, gScn K (ad 4) (ad 18) (ad 19) (ad 20) (ad 21) ou_t mi_t bo_t ln_t LF_t sn_t SF_t, gHisC K (ad 5) (ad 22) nx sz, gQS K (ad 22) 6 (oP o), gRayU K (ad 7) (ad 23) (ad 24) (ad 25) (ad 26) rs rv XF, gSOs K o (List.range 6)] s.heap [] := hG
  obtain ⟨e0, e1, e2, e3, e4, e5, e6⟩ := id hS
  have n0 := hN.1
  have n3 := hN.2.2.2.1
  have n2 := hN.2.2.1
  have hN2 := hN.swp hy hx2
  have h42 : swpLN N y x 4 = N 4 := by (simp only [swpLN] <;> rw [if_neg (by omega), if_neg (by omega)])
  refine lv_aload_n S.1 S.2.1 dX8_swapLayers_0 rfl (lv_at hl 0 rfl) ?_
  refine lv_iload_n S.1 S.2.1 dX8_swapLayers_1 rfl (lv_at hl 1 rfl) ?_
  refine g_invVv (As := [.int (iI y)]) (rest := []) (gs' := (fun u : Unit => [gRLC K ad, gScn K (ad 3) (ad 14) (ad 15) (ad 16) (ad 17) ou mi bo ln LF sn SF, gScn K (ad 4) (ad 18) (ad 19) (ad 20) (ad 21) ou_t mi_t bo_t ln_t LF_t sn_t SF_t, gHisC K (ad 5) (ad 22) nx sz, gQS K (ad 22) 6 (oP o), gRayU K (ad 7) (ad 23) (ad 24) (ad 25) (ad 26) rs rv XF, gSOs K o (List.range 6)])) S C hG [0, 1] (c_X8_checkLayer l K ad ou mi bo ln LF sn SF N y hS hN hv hy) rfl rfl 0 rfl rfl (cwV 1 S.2.2.2.2 gX8_swapLayers_X8_checkLayer rfl rfl rfl (by decide +kernel) ⟨Nat.le_of_ble_eq_true rfl, Nat.le_of_ble_eq_true rfl⟩) rfl hl.1 rfl (Nat.le_of_ble_eq_true rfl) dX8_swapLayers_2 ⟨Nat.le_of_ble_eq_true rfl, Nat.le_of_ble_eq_true rfl⟩ (fun _ => Nat.le_of_ble_eq_true rfl) (fun _ => rfl) (fun u H locs hp hG => ?_)
  refine lv_aload_n S.1 S.2.1 dX8_swapLayers_5 rfl (lv_at hl 0 rfl) ?_
  refine lv_iload_n S.1 S.2.1 dX8_swapLayers_6 rfl (lv_at hl 2 rfl) ?_
  refine g_invVv (As := [.int (iI x)]) (rest := []) (gs' := (fun u : Unit => [gRLC K ad, gScn K (ad 3) (ad 14) (ad 15) (ad 16) (ad 17) ou mi bo ln LF sn SF, gScn K (ad 4) (ad 18) (ad 19) (ad 20) (ad 21) ou_t mi_t bo_t ln_t LF_t sn_t SF_t, gHisC K (ad 5) (ad 22) nx sz, gQS K (ad 22) 6 (oP o), gRayU K (ad 7) (ad 23) (ad 24) (ad 25) (ad 26) rs rv XF, gSOs K o (List.range 6)])) S C hG [0, 1] (c_X8_checkLayer l K ad ou mi bo ln LF sn SF N x hS hN hx hx2) rfl rfl 0 rfl rfl (cwV 1 S.2.2.2.2 gX8_swapLayers_X8_checkLayer rfl rfl rfl (by decide +kernel) ⟨Nat.le_of_ble_eq_true rfl, Nat.le_of_ble_eq_true rfl⟩) rfl hl.1 rfl (Nat.le_of_ble_eq_true rfl) dX8_swapLayers_7 ⟨Nat.le_of_ble_eq_true rfl, Nat.le_of_ble_eq_true rfl⟩ (fun _ => Nat.le_of_ble_eq_true rfl) (fun _ => rfl) (fun u H locs hp hG => ?_)
  refine lv_iload_n S.1 S.2.1 dX8_swapLayers_10 rfl (lv_at hl 1 rfl) ?_
  refine lv_iload_n S.1 S.2.1 dX8_swapLayers_11 rfl (lv_at hl 2 rfl) ?_
  refine g_icmp_ne (tgt := 26) S dX8_swapLayers_12 (by decide) (by omega) (by omega) (fun q12 => ?_) (fun q12 => ?_)
  · skip
    refine lv_aload_n S.1 S.2.1 dX8_swapLayers_26 rfl (lv_at hl 0 rfl) ?_
    refine g_get S C hG iX80 0 rfl rfl 4 (by decide) (List.mem_of_getElem? (i := 3) rfl) rfl dX8_swapLayers_27 ?_
    refine lv_aload_n S.1 S.2.1 dX8_swapLayers_30 rfl (lv_at hl 0 rfl) ?_
    refine g_get S C hG iX80 0 rfl rfl 2 (by decide) (List.mem_of_getElem? (i := 4) rfl) rfl dX8_swapLayers_31 ?_
    refine g_invVv (As := [.ref (ad 3)]) (rest := []) (gs' := (fun u : SR => [gRLC K ad, gScn K (ad 3) (ad 14) (ad 15) (ad 16) (ad 17) ou mi bo ln LF sn SF, gScn K (ad 4) (ad 18) (ad 19) (ad 20) (ad 21) ou_t mi_t bo_t ln_t LF_t sn_t SF_t, gHisC K (ad 5) (ad 22) ((nx + 1) % 6) (min (sz + 1) 6), gQS K (ad 22) 6 (oP (oup o nx.toNat u)), gRayU K (ad 7) (ad 23) (ad 24) (ad 25) (ad 26) rs rv XF, gSOs K (oup o nx.toNat u) (List.range 6)])) S C hG [3, 4, 1, 6] (c_X1_remember l K (ad 5) (ad 22) nx sz o (ad 3) (ad 14) (ad 15) (ad 16) (ad 17) ou mi bo ln LF sn SF N hnx hsz hS hN) rfl rfl 0 rfl rfl (cwV 1 S.2.2.2.2 gX8_swapLayers_X1_remember rfl rfl rfl (by decide +kernel) ⟨Nat.le_of_ble_eq_true rfl, Nat.le_of_ble_eq_true rfl⟩) rfl hl.1 rfl (Nat.le_of_ble_eq_true rfl) dX8_swapLayers_34 ⟨Nat.le_of_ble_eq_true rfl, Nat.le_of_ble_eq_true rfl⟩ (fun _ => Nat.le_of_ble_eq_true rfl) (fun _ => rfl) (fun u H locs hp hG => ?_)
    obtain ⟨u9_34, rfl⟩ : ∃ z, z = u := ⟨_, rfl⟩
    have hr_34 := hp
    have hr_34 : ScR N u9_34 := hr_34
    have hG : gW K A s.heap [gRLC K ad, gScn K (ad 3) (ad 14) (ad 15) (ad 16) (ad 17) ou mi bo ln LF sn SF, gScn K (ad 4) (ad 18) (ad 19) (ad 20) (ad 21) ou_t mi_t bo_t ln_t LF_t sn_t SF_t, gHisC K (ad 5) (ad 22) ((nx + 1) % 6) (min (sz + 1) 6), gQS K (ad 22) 6 (oP (oup o nx.toNat u9_34)), gRayU K (ad 7) (ad 23) (ad 24) (ad 25) (ad 26) rs rv XF, gSOs K (oup o nx.toNat u9_34) (List.range 6)] _ _ := hG
    refine lv_aload_n S.1 S.2.1 dX8_swapLayers_37 rfl (lv_at hl 0 rfl) ?_
    refine g_get S C hG iX80 0 rfl rfl 3 (by decide) (List.mem_of_getElem? (i := 5) rfl) rfl dX8_swapLayers_38 ?_
    refine lv_aload_n S.1 S.2.1 dX8_swapLayers_41 rfl (lv_at hl 0 rfl) ?_
    refine g_get S C hG iX80 0 rfl rfl 2 (by decide) (List.mem_of_getElem? (i := 4) rfl) rfl dX8_swapLayers_42 ?_
    refine g_invVv (As := [.ref (ad 3)]) (rest := []) (gs' := (fun u : Unit => [gRLC K ad, gScn K (ad 3) (ad 14) (ad 15) (ad 16) (ad 17) ou mi bo ln LF sn SF, gScn K (ad 4) (ad 18) (ad 19) (ad 20) (ad 21) ou mi bo ln (cpyI LF LF_t 60) sn (cpyI SF SF_t 60), gHisC K (ad 5) (ad 22) ((nx + 1) % 6) (min (sz + 1) 6), gQS K (ad 22) 6 (oP (oup o nx.toNat u9_34)), gRayU K (ad 7) (ad 23) (ad 24) (ad 25) (ad 26) rs rv XF, gSOs K (oup o nx.toNat u9_34) (List.range 6)])) S C hG [2, 1] (c_X5_become l K (ad 4) (ad 18) (ad 19) (ad 20) (ad 21) ou_t mi_t bo_t ln_t LF_t sn_t SF_t (ad 3) (ad 14) (ad 15) (ad 16) (ad 17) ou mi bo ln LF sn SF (by omega)) rfl rfl 0 rfl rfl (cwV 1 S.2.2.2.2 gX8_swapLayers_X5_become rfl rfl rfl (by decide +kernel) ⟨Nat.le_of_ble_eq_true rfl, Nat.le_of_ble_eq_true rfl⟩) rfl hl.1 rfl (Nat.le_of_ble_eq_true rfl) dX8_swapLayers_45 ⟨Nat.le_of_ble_eq_true rfl, Nat.le_of_ble_eq_true rfl⟩ (fun _ => Nat.le_of_ble_eq_true rfl) (fun _ => rfl) (fun u H locs hp hG => ?_)
    refine lv_aload_n S.1 S.2.1 dX8_swapLayers_48 rfl (lv_at hl 0 rfl) ?_
    refine g_get S C hG iX80 0 rfl rfl 2 (by decide) (List.mem_of_getElem? (i := 4) rfl) rfl dX8_swapLayers_49 ?_
    refine g_get S C hG iX50 1 rfl rfl 0 (by decide) (List.mem_of_getElem? (i := 6) rfl) rfl dX8_swapLayers_52 ?_
    refine lv_iload_n S.1 S.2.1 dX8_swapLayers_55 rfl (lv_at hl 1 rfl) ?_
    refine lv_iload_n S.1 S.2.1 dX8_swapLayers_56 rfl (lv_at hl 2 rfl) ?_
    have hG : gW K A s.heap [gRLC K ad, gScC K (ad 3) (ad 14) (ad 16) ou mi bo, gTab K (ad 14) (ad 15) ln LF, gTabC K (ad 16) (ad 17) sn, gArr K 60 (ad 17) SF, gScn K (ad 4) (ad 18) (ad 19) (ad 20) (ad 21) ou mi bo ln (cpyI LF LF_t 60) sn (cpyI SF SF_t 60), gHisC K (ad 5) (ad 22) ((nx + 1) % 6) (min (sz + 1) 6), gQS K (ad 22) 6 (oP (oup o nx.toNat u9_34)), gRayU K (ad 7) (ad 23) (ad 24) (ad 25) (ad 26) rs rv XF, gSOs K (oup o nx.toNat u9_34) (List.range 6)] _ _ := hG
    refine g_invVv (As := [.int (iI y), .int (iI x)]) (rest := []) (gs' := (fun u : (Int → Int) => [gRLC K ad, gScC K (ad 3) (ad 14) (ad 16) ou mi bo, gTab K (ad 14) (ad 15) ln u, gTabC K (ad 16) (ad 17) sn, gArr K 60 (ad 17) SF, gScn K (ad 4) (ad 18) (ad 19) (ad 20) (ad 21) ou mi bo ln (cpyI LF LF_t 60) sn (cpyI SF SF_t 60), gHisC K (ad 5) (ad 22) ((nx + 1) % 6) (min (sz + 1) 6), gQS K (ad 22) 6 (oP (oup o nx.toNat u9_34)), gRayU K (ad 7) (ad 23) (ad 24) (ad 25) (ad 26) rs rv XF, gSOs K (oup o nx.toNat u9_34) (List.range 6)])) S C hG [2] (c_X7_swap l K (ad 14) (ad 15) ln LF y x (by omega) (by omega) hne) rfl rfl 0 rfl rfl (cwV 2 S.2.2.2.2 gX8_swapLayers_X7_swap rfl rfl rfl (by decide +kernel) ⟨Nat.le_of_ble_eq_true rfl, Nat.le_of_ble_eq_true rfl⟩) rfl hl.1 rfl (Nat.le_of_ble_eq_true rfl) dX8_swapLayers_57 ⟨Nat.le_of_ble_eq_true rfl, Nat.le_of_ble_eq_true rfl⟩ (fun _ => Nat.le_of_ble_eq_true rfl) (fun _ => rfl) (fun u H locs hp hG => ?_)
    obtain ⟨F2_57, rfl⟩ : ∃ z, z = u := ⟨_, rfl⟩
    have hF_57 := hp
    have hF_57 : ∀ r k : Int, 0 ≤ k → k < 3 → F2_57 (r * 3 + k) = if r = y then LF (x * 3 + k) else if r = x then LF (y * 3 + k) else LF (r * 3 + k) := hF_57
    have hG : gW K A s.heap [gRLC K ad, gScC K (ad 3) (ad 14) (ad 16) ou mi bo, gTab K (ad 14) (ad 15) ln F2_57, gTabC K (ad 16) (ad 17) sn, gArr K 60 (ad 17) SF, gScn K (ad 4) (ad 18) (ad 19) (ad 20) (ad 21) ou mi bo ln (cpyI LF LF_t 60) sn (cpyI SF SF_t 60), gHisC K (ad 5) (ad 22) ((nx + 1) % 6) (min (sz + 1) 6), gQS K (ad 22) 6 (oP (oup o nx.toNat u9_34)), gRayU K (ad 7) (ad 23) (ad 24) (ad 25) (ad 26) rs rv XF, gSOs K (oup o nx.toNat u9_34) (List.range 6)] _ _ := hG
    have hS2 := hS.swp hN hy hx2 hF_57
    refine g_iconst S dX8_swapLayers_60 ?_
    refine lv_istore_n (lv' := [(3, .int (iI 0)), (0, .ref (ad 0)), (1, .int (iI y)), (2, .int (iI x))]) S.1 S.2.1 dX8_swapLayers_61 rfl hl (by decide) rfl (fun ls hl => ?_)
    refine g_iconst S dX8_swapLayers_62 ?_
    refine lv_istore (lv' := [(4, .int (iI 0)), (3, .int (iI 0)), (0, .ref (ad 0)), (1, .int (iI y)), (2, .int (iI x))]) S.1 S.2.1 dX8_swapLayers_63 hl (by decide) rfl (fun ls hl => ?_)
    have L65 : ∀ (fu : Nat) (k : Nat) (w : Int) (f : Int) (rs1 : Nat) (rv1 : RU) (X1 : Int → Int) (H : Heap) (locs : List Loc) (ls : Array Slot), ((N 4 - w).toNat) < fu → (w = (k : Int) ∧ w ≤ N 4) → (f = cntB (fun i : Nat => decide (eS (swpLN N y x) (i : Int) ≠ eS N (i : Int))) k) → (0 ≤ f ∧ f ≤ w) → lv_has ls 6 [(0, .ref (ad 0)), (1, .int (iI y)), (2, .int (iI x)), (3, .int (iI f)), (4, .int (iI w))] → gW K A s.heap [gRLC K ad, gScn K (ad 3) (ad 14) (ad 15) (ad 16) (ad 17) ou mi bo ln F2_57 sn SF, gScn K (ad 4) (ad 18) (ad 19) (ad 20) (ad 21) ou mi bo ln (cpyI LF LF_t 60) sn (cpyI SF SF_t 60), gHisC K (ad 5) (ad 22) ((nx + 1) % 6) (min (sz + 1) 6), gQS K (ad 22) 6 (oP (oup o nx.toNat u9_34)), gRayU K (ad 7) (ad 23) (ad 24) (ad 25) (ad 26) rs1 rv1 X1, gSOs K (oup o nx.toNat u9_34) (List.range 6)] H locs → W p l e { frames := 5, cells := 5, slots := 129, locals := 124 } s m ([.ref (ad 0), .int (iI y), .int (iI x)] : List Value).toArray below meth c H locs (0 + 5) (0 + 129) Q (F0 m 65 ls []) := by
      intro fu
      induction fu with
      | zero => intro k w f rs1 rv1 X1 H locs ls hfu; exact absurd hfu (Nat.not_lt_zero _)
      | succ fu ih =>
        intro k w f rs1 rv1 X1 H locs ls hfu hw hb hf hl hG
        refine lv_iload S.1 S.2.1 dX8_swapLayers_65 (lv_at hl 4 rfl) ?_
        refine lv_aload_n S.1 S.2.1 dX8_swapLayers_67 rfl (lv_at hl 0 rfl) ?_
        refine g_get S C hG iX80 0 rfl rfl 2 (by decide) (List.mem_of_getElem? (i := 4) rfl) rfl dX8_swapLayers_68 ?_
        refine g_get S C hG iX50 1 rfl rfl 1 (by decide) (List.mem_of_getElem? (i := 7) rfl) rfl dX8_swapLayers_71 ?_
        refine g_get S C hG iX70 4 rfl rfl 1 (by decide) (List.mem_of_getElem? (i := 8) rfl) rfl dX8_swapLayers_74 ?_
        refine g_icmp_ge (tgt := 122) S dX8_swapLayers_77 (by decide) (by omega) (by omega) (fun q77 => ?_) (fun q77 => ?_)
        · skip
          refine lv_iload_n S.1 S.2.1 dX8_swapLayers_122 rfl (lv_at hl 3 rfl) ?_
          have hG : gW K A s.heap [gRLC K ad, gScn K (ad 3) (ad 14) (ad 15) (ad 16) (ad 17) ou mi bo ln F2_57 sn SF, gScn K (ad 4) (ad 18) (ad 19) (ad 20) (ad 21) ou mi bo ln (cpyI LF LF_t 60) sn (cpyI SF SF_t 60), gHisC K (ad 5) (ad 22) ((nx + 1) % 6) (min (sz + 1) 6), gQS K (ad 22) 6 (oP (oup o nx.toNat u9_34)), gRayU K (ad 7) (ad 23) (ad 24) (ad 25) (ad 26) rs1 rv1 X1, gSOs K (oup o nx.toNat u9_34) (List.range 6)] _ _ := hG
          exact g_iret S hr hlk hQ dX8_swapLayers_123 (Nat.le_of_ble_eq_true rfl) (Nat.le_of_ble_eq_true rfl) ((u9_34, F2_57, ou, mi, bo, ln, (cpyI LF LF_t 60), sn, (cpyI SF SF_t 60), rs1, rv1, X1) : SR × (Int → Int) × Int × Int × Int × Int × (Int → Int) × Int × (Int → Int) × Nat × RU × (Int → Int)) ⟨(congrArg (fun z : Int => Value.int (iI z)) (by rw [hb, show (N 4).toNat = k by omega])), hr_34, hS2⟩ hG
        · skip
          refine lv_aload_n S.1 S.2.1 dX8_swapLayers_80 rfl (lv_at hl 0 rfl) ?_
          refine lv_aload_n S.1 S.2.1 dX8_swapLayers_81 rfl (lv_at hl 0 rfl) ?_
          refine g_get S C hG iX80 0 rfl rfl 3 (by decide) (List.mem_of_getElem? (i := 5) rfl) rfl dX8_swapLayers_82 ?_
          refine lv_iload S.1 S.2.1 dX8_swapLayers_85 (lv_at hl 4 rfl) ?_
          refine g_invV (As := [.ref (ad 4), .int (iI w)]) (rest := []) (gs' := (fun u : RU × (Int → Int) => [gRLC K ad, gScn K (ad 3) (ad 14) (ad 15) (ad 16) (ad 17) ou mi bo ln F2_57 sn SF, gScn K (ad 4) (ad 18) (ad 19) (ad 20) (ad 21) ou mi bo ln (cpyI LF LF_t 60) sn (cpyI SF SF_t 60), gHisC K (ad 5) (ad 22) ((nx + 1) % 6) (min (sz + 1) 6), gQS K (ad 22) 6 (oP (oup o nx.toNat u9_34)), gRayU K (ad 7) (ad 23) (ad 24) (ad 25) (ad 26) (ad 4) u.1 u.2, gSOs K (oup o nx.toNat u9_34) (List.range 6)])) S C hG [0, 2, 5] (c_X8_runOf l K ad (ad 4) (ad 18) (ad 19) (ad 20) (ad 21) ou mi bo ln (cpyI LF LF_t 60) sn (cpyI SF SF_t 60) N rs1 rv1 X1 w (cpy_ok hS hN) hN ⟨by omega, by omega⟩) rfl rfl 0 rfl rfl (cwV 2 S.2.2.2.2 gX8_swapLayers_X8_runOf rfl rfl rfl (by decide +kernel) ⟨Nat.le_of_ble_eq_true rfl, Nat.le_of_ble_eq_true rfl⟩) rfl hl.1 rfl (Nat.le_of_ble_eq_true rfl) dX8_swapLayers_87 ⟨Nat.le_of_ble_eq_true rfl, Nat.le_of_ble_eq_true rfl⟩ (fun _ => Nat.le_of_ble_eq_true rfl) (fun _ => rfl) (fun v u H locs hp hG => ?_)
          obtain ⟨rv2_87, X2_87⟩ := u
          obtain ⟨rfl, hr_87⟩ := hp
          have hr_87 : ResU N (sP N w) (sY N w) (sD N w) rv2_87 := hr_87
          have hG : gW K A s.heap [gRLC K ad, gScn K (ad 3) (ad 14) (ad 15) (ad 16) (ad 17) ou mi bo ln F2_57 sn SF, gScn K (ad 4) (ad 18) (ad 19) (ad 20) (ad 21) ou mi bo ln (cpyI LF LF_t 60) sn (cpyI SF SF_t 60), gHisC K (ad 5) (ad 22) ((nx + 1) % 6) (min (sz + 1) 6), gQS K (ad 22) 6 (oP (oup o nx.toNat u9_34)), gRayU K (ad 7) (ad 23) (ad 24) (ad 25) (ad 26) (ad 4) rv2_87 X2_87, gSOs K (oup o nx.toNat u9_34) (List.range 6)] _ _ := hG
          refine g_get S C hG iX40 13 rfl rfl 9 (by decide) (List.mem_of_getElem? (i := 9) rfl) rfl dX8_swapLayers_90 ?_
          refine g_top (w := .int (iI (eS N (k : Int)))) (congrArg (fun z : Int => Value.int (iI z)) ((by rw [← hw.1] <;> exact hr_87.f.2.1))) ?_
          refine lv_istore (lv' := [(5, .int (iI (eS N (k : Int)))), (0, .ref (ad 0)), (1, .int (iI y)), (2, .int (iI x)), (3, .int (iI f)), (4, .int (iI w))]) S.1 S.2.1 dX8_swapLayers_93 hl (by decide) rfl (fun ls hl => ?_)
          refine lv_aload_n S.1 S.2.1 dX8_swapLayers_95 rfl (lv_at hl 1 rfl) ?_
          refine lv_aload_n S.1 S.2.1 dX8_swapLayers_96 rfl (lv_at hl 1 rfl) ?_
          refine g_get S C hG iX80 0 rfl rfl 2 (by decide) (List.mem_of_getElem? (i := 4) rfl) rfl dX8_swapLayers_97 ?_
          refine lv_iload S.1 S.2.1 dX8_swapLayers_100 (lv_at hl 5 rfl) ?_
          refine g_invV (As := [.ref (ad 3), .int (iI w)]) (rest := []) (gs' := (fun u : RU × (Int → Int) => [gRLC K ad, gScn K (ad 3) (ad 14) (ad 15) (ad 16) (ad 17) ou mi bo ln F2_57 sn SF, gScn K (ad 4) (ad 18) (ad 19) (ad 20) (ad 21) ou mi bo ln (cpyI LF LF_t 60) sn (cpyI SF SF_t 60), gHisC K (ad 5) (ad 22) ((nx + 1) % 6) (min (sz + 1) 6), gQS K (ad 22) 6 (oP (oup o nx.toNat u9_34)), gRayU K (ad 7) (ad 23) (ad 24) (ad 25) (ad 26) (ad 3) u.1 u.2, gSOs K (oup o nx.toNat u9_34) (List.range 6)])) S C hG [0, 1, 5] (c_X8_runOf l K ad (ad 3) (ad 14) (ad 15) (ad 16) (ad 17) ou mi bo ln F2_57 sn SF (swpLN N y x) (ad 4) rv2_87 X2_87 w hS2 hN2 ⟨by omega, by omega⟩) rfl rfl 0 rfl rfl (cwV 2 S.2.2.2.2 gX8_swapLayers_X8_runOf rfl rfl rfl (by decide +kernel) ⟨Nat.le_of_ble_eq_true rfl, Nat.le_of_ble_eq_true rfl⟩) rfl hl.1 rfl (Nat.le_of_ble_eq_true rfl) dX8_swapLayers_102 ⟨Nat.le_of_ble_eq_true rfl, Nat.le_of_ble_eq_true rfl⟩ (fun _ => Nat.le_of_ble_eq_true rfl) (fun _ => rfl) (fun v u H locs hp hG => ?_)
          obtain ⟨rv2_102, X2_102⟩ := u
          obtain ⟨rfl, hr_102⟩ := hp
          have hr_102 : ResU (swpLN N y x) (sP (swpLN N y x) w) (sY (swpLN N y x) w) (sD (swpLN N y x) w) rv2_102 := hr_102
          have hG : gW K A s.heap [gRLC K ad, gScn K (ad 3) (ad 14) (ad 15) (ad 16) (ad 17) ou mi bo ln F2_57 sn SF, gScn K (ad 4) (ad 18) (ad 19) (ad 20) (ad 21) ou mi bo ln (cpyI LF LF_t 60) sn (cpyI SF SF_t 60), gHisC K (ad 5) (ad 22) ((nx + 1) % 6) (min (sz + 1) 6), gQS K (ad 22) 6 (oP (oup o nx.toNat u9_34)), gRayU K (ad 7) (ad 23) (ad 24) (ad 25) (ad 26) (ad 3) rv2_102 X2_102, gSOs K (oup o nx.toNat u9_34) (List.range 6)] _ _ := hG
          refine g_get S C hG iX40 13 rfl rfl 9 (by decide) (List.mem_of_getElem? (i := 9) rfl) rfl dX8_swapLayers_105 ?_
          refine g_top (w := .int (iI (eS (swpLN N y x) (k : Int)))) (congrArg (fun z : Int => Value.int (iI z)) ((by rw [← hw.1] <;> exact hr_102.f.2.1))) ?_
          refine lv_iload S.1 S.2.1 dX8_swapLayers_108 (lv_at hl 0 rfl) ?_
          have ea : 0 ≤ eS N (k : Int) ∧ eS N (k : Int) ≤ 4 := enF_bd _ _ _ _
          have eb : 0 ≤ eS (swpLN N y x) (k : Int) ∧ eS (swpLN N y x) (k : Int) ≤ 4 := enF_bd _ _ _ _
          refine g_icmp_eq (tgt := 116) S dX8_swapLayers_110 (by decide) (by omega) (by omega) (fun q110 => ?_) (fun q110 => ?_)
          · skip
            refine lv_iinc (v := iI (w + 1)) (lv' := [(4, .int (iI (w + 1))), (5, .int (iI (eS N (k : Int)))), (0, .ref (ad 0)), (1, .int (iI y)), (2, .int (iI x)), (3, .int (iI f))]) S.1 S.2.1 dX8_swapLayers_116 hl (k := 5) rfl (g_iinc rfl) (by decide) rfl (fun ls hl => ?_)
            refine lv_goto (tgt := 65) S.1 S.2.1 dX8_swapLayers_119 (by decide) ?_
            exact ih (k + 1) (w + 1) f (ad 3) rv2_102 X2_102 _ _ _ (by omega) ⟨by omega, by omega⟩ (by simp only [cntB] <;> rw [← hb, if_neg (by simpa using q110)] <;> omega) (by omega) (lv_sub hl [2, 3, 4, 5, 0] rfl) hG
          · skip
            refine lv_iinc (v := iI (f + 1)) (lv' := [(3, .int (iI (f + 1))), (5, .int (iI (eS N (k : Int)))), (0, .ref (ad 0)), (1, .int (iI y)), (2, .int (iI x)), (4, .int (iI w))]) S.1 S.2.1 dX8_swapLayers_113 hl (k := 4) rfl (g_iinc rfl) (by decide) rfl (fun ls hl => ?_)
            refine lv_iinc (v := iI (w + 1)) (lv' := [(4, .int (iI (w + 1))), (3, .int (iI (f + 1))), (5, .int (iI (eS N (k : Int)))), (0, .ref (ad 0)), (1, .int (iI y)), (2, .int (iI x))]) S.1 S.2.1 dX8_swapLayers_116 hl (k := 5) rfl (g_iinc rfl) (by decide) rfl (fun ls hl => ?_)
            refine lv_goto (tgt := 65) S.1 S.2.1 dX8_swapLayers_119 (by decide) ?_
            exact ih (k + 1) (w + 1) (f + 1) (ad 3) rv2_102 X2_102 _ _ _ (by omega) ⟨by omega, by omega⟩ (by simp only [cntB] <;> rw [← hb, if_pos (by simpa using q110)]) (by omega) (lv_sub hl [3, 4, 5, 1, 0] rfl) hG
    have hG : gW K A s.heap [gRLC K ad, gScn K (ad 3) (ad 14) (ad 15) (ad 16) (ad 17) ou mi bo ln F2_57 sn SF, gScn K (ad 4) (ad 18) (ad 19) (ad 20) (ad 21) ou mi bo ln (cpyI LF LF_t 60) sn (cpyI SF SF_t 60), gHisC K (ad 5) (ad 22) ((nx + 1) % 6) (min (sz + 1) 6), gQS K (ad 22) 6 (oP (oup o nx.toNat u9_34)), gRayU K (ad 7) (ad 23) (ad 24) (ad 25) (ad 26) rs rv XF, gSOs K (oup o nx.toNat u9_34) (List.range 6)] _ _ := hG
    exact L65 (Nat.succ ((N 4 - 0).toNat)) 0 0 0 rs rv XF _ _ _ (Nat.lt_succ_self _) ⟨rfl, by omega⟩ rfl (by omega) (lv_sub hl [2, 3, 4, 1, 0] rfl) hG
  · skip
    omega

set_option maxHeartbeats 1000000 in
set_option maxRecDepth 100000 in
theorem x1_swapLayers (l : Launch) (K : KC) (ad : Nat → Nat) (ou : Int) (mi : Int) (bo : Int) (ln : Int) (LF : Int → Int) (sn : Int) (SF : Int → Int) (N : Int → Int) (y : Int) (x : Int) (hS : ScOk N ou mi bo ln LF sn SF) (hN : NOk0 N) (hv : -2147483648 ≤ y ∧ y < 2147483648) (hx : -2147483648 ≤ x ∧ x < 2147483648) (hy : ¬ (0 ≤ y ∧ y < N 0)) (hst : l.stackTraces = false) : mX l yX8_swapLayers wsX8_swapLayers 7 103 K [.ref (ad 0), .int (iI y), .int (iI x)] [gRLC K ad, gScn K (ad 3) (ad 14) (ad 15) (ad 16) (ad 17) ou mi bo ln LF sn SF] "java/lang/IndexOutOfBoundsException" (fun (u : Unit) => True) (fun (u : Unit) => [gRLC K ad, gScn K (ad 3) (ad 14) (ad 15) (ad 16) (ad 17) ou mi bo ln LF sn SF]) 1 6 := by
  refine mX_of cX8_swapLayers 6 (by decide) rfl (Nat.le_of_ble_eq_true rfl) ?_
  intro p e s m below meth c A ls Q S C hG hl hex hlk hin hQ
  have S : CallFix p m c cX8_swapLayers 6 s ([.ref (ad 0), .int (iI y), .int (iI x)] : List Value).toArray wsX8_swapLayers RX8 := S
  have iX80 : ∀ w ∈ wsX80, w ∈ wsX8_swapLayers := fun _ h => List.mem_cons_of_mem _ (List.mem_append_left _ (List.mem_append_left _ (List.mem_append_left _ (List.mem_append_left _ (List.mem_append_left _ (List.mem_append_left _ (List.mem_append_right _ (h))))))))
  have iX50 : ∀ w ∈ wsX50, w ∈ wsX8_swapLayers := fun _ h => List.mem_cons_of_mem _ (List.mem_append_left _ (List.mem_append_left _ (List.mem_append_left _ (List.mem_append_left _ (List.mem_append_left _ (List.mem_append_right _ (h)))))))
  have iX70 : ∀ w ∈ wsX70, w ∈ wsX8_swapLayers := fun _ h => List.mem_cons_of_mem _ (List.mem_append_left _ (List.mem_append_left _ (List.mem_append_left _ (List.mem_append_left _ (List.mem_append_right _ (h))))))
  have iX40 : ∀ w ∈ wsX40, w ∈ wsX8_swapLayers := fun _ h => List.mem_cons_of_mem _ (List.mem_append_left _ (List.mem_append_left _ (List.mem_append_left _ (List.mem_append_right _ (h)))))
  have iX10 : ∀ w ∈ wsX10, w ∈ wsX8_swapLayers := fun _ h => List.mem_cons_of_mem _ (List.mem_append_left _ (List.mem_append_left _ (List.mem_append_right _ (h))))
  have hl : lv_has ls 6 [(0, .ref (ad 0)), (1, .int (iI y)), (2, .int (iI x))] := hl
  have hG : gW K A s.heap [gRLC K ad, gScn K (ad 3) (ad 14) (ad 15) (ad 16) (ad 17) ou mi bo ln LF sn SF] s.heap [] := hG
  obtain ⟨e0, e1, e2, e3, e4, e5, e6⟩ := id hS
  have n0 := hN.1
  have n3 := hN.2.2.2.1
  refine lv_aload_n S.1 S.2.1 dX8_swapLayers_0 rfl (lv_at hl 0 rfl) ?_
  refine lv_iload_n S.1 S.2.1 dX8_swapLayers_1 rfl (lv_at hl 1 rfl) ?_
  refine g_xV (E := "java/lang/IndexOutOfBoundsException") (As := [.int (iI y)]) (rest := []) (gs' := (fun u : Unit => [gRLC K ad, gScn K (ad 3) (ad 14) (ad 15) (ad 16) (ad 17) ou mi bo ln LF sn SF])) S C hG [0, 1] (x_checkLayer l K ad ou mi bo ln LF sn SF N y hS hN hv hy hst) rfl rfl 0 rfl rfl (cwV 1 S.2.2.2.2 gX8_swapLayers_X8_checkLayer rfl rfl rfl (by decide +kernel) ⟨Nat.le_of_ble_eq_true rfl, Nat.le_of_ble_eq_true rfl⟩) rfl hl.1 rfl (Nat.le_of_ble_eq_true rfl) dX8_swapLayers_2 ⟨Nat.le_of_ble_eq_true rfl, Nat.le_of_ble_eq_true rfl⟩ (fun _ => Nat.le_of_ble_eq_true rfl) (fun _ => rfl) (fun u q9 ce9 H locs hp hG hq9 hv9 hcl9 => ?_)
  have hG : gW K A s.heap [gRLC K ad, gScn K (ad 3) (ad 14) (ad 15) (ad 16) (ad 17) ou mi bo ln LF sn SF] _ _ := hG
  exact g_xout hQ hex hlk hq9 hv9 hcl9 (Nat.le_of_ble_eq_true rfl) (Nat.le_of_ble_eq_true rfl) (() : Unit) trivial hG

set_option maxHeartbeats 1000000 in
set_option maxRecDepth 100000 in
theorem x2_swapLayers (l : Launch) (K : KC) (ad : Nat → Nat) (ou : Int) (mi : Int) (bo : Int) (ln : Int) (LF : Int → Int) (sn : Int) (SF : Int → Int) (N : Int → Int) (y : Int) (x : Int) (hS : ScOk N ou mi bo ln LF sn SF) (hN : NOk0 N) (hv : -2147483648 ≤ y ∧ y < 2147483648) (hx : -2147483648 ≤ x ∧ x < 2147483648) (hy : 0 ≤ y ∧ y < N 0) (hx2 : ¬ (0 ≤ x ∧ x < N 0)) (hst : l.stackTraces = false) : mX l yX8_swapLayers wsX8_swapLayers 7 103 K [.ref (ad 0), .int (iI y), .int (iI x)] [gRLC K ad, gScn K (ad 3) (ad 14) (ad 15) (ad 16) (ad 17) ou mi bo ln LF sn SF] "java/lang/IndexOutOfBoundsException" (fun (u : Unit) => True) (fun (u : Unit) => [gRLC K ad, gScn K (ad 3) (ad 14) (ad 15) (ad 16) (ad 17) ou mi bo ln LF sn SF]) 1 6 := by
  refine mX_of cX8_swapLayers 6 (by decide) rfl (Nat.le_of_ble_eq_true rfl) ?_
  intro p e s m below meth c A ls Q S C hG hl hex hlk hin hQ
  have S : CallFix p m c cX8_swapLayers 6 s ([.ref (ad 0), .int (iI y), .int (iI x)] : List Value).toArray wsX8_swapLayers RX8 := S
  have iX80 : ∀ w ∈ wsX80, w ∈ wsX8_swapLayers := fun _ h => List.mem_cons_of_mem _ (List.mem_append_left _ (List.mem_append_left _ (List.mem_append_left _ (List.mem_append_left _ (List.mem_append_left _ (List.mem_append_left _ (List.mem_append_right _ (h))))))))
  have iX50 : ∀ w ∈ wsX50, w ∈ wsX8_swapLayers := fun _ h => List.mem_cons_of_mem _ (List.mem_append_left _ (List.mem_append_left _ (List.mem_append_left _ (List.mem_append_left _ (List.mem_append_left _ (List.mem_append_right _ (h)))))))
  have iX70 : ∀ w ∈ wsX70, w ∈ wsX8_swapLayers := fun _ h => List.mem_cons_of_mem _ (List.mem_append_left _ (List.mem_append_left _ (List.mem_append_left _ (List.mem_append_left _ (List.mem_append_right _ (h))))))
  have iX40 : ∀ w ∈ wsX40, w ∈ wsX8_swapLayers := fun _ h => List.mem_cons_of_mem _ (List.mem_append_left _ (List.mem_append_left _ (List.mem_append_left _ (List.mem_append_right _ (h)))))
  have iX10 : ∀ w ∈ wsX10, w ∈ wsX8_swapLayers := fun _ h => List.mem_cons_of_mem _ (List.mem_append_left _ (List.mem_append_left _ (List.mem_append_right _ (h))))
  have hl : lv_has ls 6 [(0, .ref (ad 0)), (1, .int (iI y)), (2, .int (iI x))] := hl
  have hG : gW K A s.heap [gRLC K ad, gScn K (ad 3) (ad 14) (ad 15) (ad 16) (ad 17) ou mi bo ln LF sn SF] s.heap [] := hG
  obtain ⟨e0, e1, e2, e3, e4, e5, e6⟩ := id hS
  have n0 := hN.1
  have n3 := hN.2.2.2.1
  refine lv_aload_n S.1 S.2.1 dX8_swapLayers_0 rfl (lv_at hl 0 rfl) ?_
  refine lv_iload_n S.1 S.2.1 dX8_swapLayers_1 rfl (lv_at hl 1 rfl) ?_
  refine g_invVv (As := [.int (iI y)]) (rest := []) (gs' := (fun u : Unit => [gRLC K ad, gScn K (ad 3) (ad 14) (ad 15) (ad 16) (ad 17) ou mi bo ln LF sn SF])) S C hG [0, 1] (c_X8_checkLayer l K ad ou mi bo ln LF sn SF N y hS hN hv hy) rfl rfl 0 rfl rfl (cwV 1 S.2.2.2.2 gX8_swapLayers_X8_checkLayer rfl rfl rfl (by decide +kernel) ⟨Nat.le_of_ble_eq_true rfl, Nat.le_of_ble_eq_true rfl⟩) rfl hl.1 rfl (Nat.le_of_ble_eq_true rfl) dX8_swapLayers_2 ⟨Nat.le_of_ble_eq_true rfl, Nat.le_of_ble_eq_true rfl⟩ (fun _ => Nat.le_of_ble_eq_true rfl) (fun _ => rfl) (fun u H locs hp hG => ?_)
  refine lv_aload_n S.1 S.2.1 dX8_swapLayers_5 rfl (lv_at hl 0 rfl) ?_
  refine lv_iload_n S.1 S.2.1 dX8_swapLayers_6 rfl (lv_at hl 2 rfl) ?_
  refine g_xV (E := "java/lang/IndexOutOfBoundsException") (As := [.int (iI x)]) (rest := []) (gs' := (fun u : Unit => [gRLC K ad, gScn K (ad 3) (ad 14) (ad 15) (ad 16) (ad 17) ou mi bo ln LF sn SF])) S C hG [0, 1] (x_checkLayer l K ad ou mi bo ln LF sn SF N x hS hN hx hx2 hst) rfl rfl 0 rfl rfl (cwV 1 S.2.2.2.2 gX8_swapLayers_X8_checkLayer rfl rfl rfl (by decide +kernel) ⟨Nat.le_of_ble_eq_true rfl, Nat.le_of_ble_eq_true rfl⟩) rfl hl.1 rfl (Nat.le_of_ble_eq_true rfl) dX8_swapLayers_7 ⟨Nat.le_of_ble_eq_true rfl, Nat.le_of_ble_eq_true rfl⟩ (fun _ => Nat.le_of_ble_eq_true rfl) (fun _ => rfl) (fun u q9 ce9 H locs hp hG hq9 hv9 hcl9 => ?_)
  have hG : gW K A s.heap [gRLC K ad, gScn K (ad 3) (ad 14) (ad 15) (ad 16) (ad 17) ou mi bo ln LF sn SF] _ _ := hG
  exact g_xout hQ hex hlk hq9 hv9 hcl9 (Nat.le_of_ble_eq_true rfl) (Nat.le_of_ble_eq_true rfl) (() : Unit) trivial hG

set_option maxHeartbeats 1000000 in
set_option maxRecDepth 100000 in
theorem x3_swapLayers (l : Launch) (K : KC) (ad : Nat → Nat) (ou : Int) (mi : Int) (bo : Int) (ln : Int) (LF : Int → Int) (sn : Int) (SF : Int → Int) (N : Int → Int) (y : Int) (x : Int) (hS : ScOk N ou mi bo ln LF sn SF) (hN : NOk0 N) (hv : -2147483648 ≤ y ∧ y < 2147483648) (hx : -2147483648 ≤ x ∧ x < 2147483648) (hy : 0 ≤ y ∧ y < N 0) (hx2 : 0 ≤ x ∧ x < N 0) (hne : y = x) (hst : l.stackTraces = false) : mX l yX8_swapLayers wsX8_swapLayers 6 82 K [.ref (ad 0), .int (iI y), .int (iI x)] [gRLC K ad, gScn K (ad 3) (ad 14) (ad 15) (ad 16) (ad 17) ou mi bo ln LF sn SF] "java/lang/IllegalArgumentException" (fun (u : Unit) => True) (fun (u : Unit) => [gRLC K ad, gScn K (ad 3) (ad 14) (ad 15) (ad 16) (ad 17) ou mi bo ln LF sn SF]) 1 6 := by
  refine mX_of cX8_swapLayers 6 (by decide) rfl (Nat.le_of_ble_eq_true rfl) ?_
  intro p e s m below meth c A ls Q S C hG hl hex hlk hin hQ
  have S : CallFix p m c cX8_swapLayers 6 s ([.ref (ad 0), .int (iI y), .int (iI x)] : List Value).toArray wsX8_swapLayers RX8 := S
  have iX80 : ∀ w ∈ wsX80, w ∈ wsX8_swapLayers := fun _ h => List.mem_cons_of_mem _ (List.mem_append_left _ (List.mem_append_left _ (List.mem_append_left _ (List.mem_append_left _ (List.mem_append_left _ (List.mem_append_left _ (List.mem_append_right _ (h))))))))
  have iX50 : ∀ w ∈ wsX50, w ∈ wsX8_swapLayers := fun _ h => List.mem_cons_of_mem _ (List.mem_append_left _ (List.mem_append_left _ (List.mem_append_left _ (List.mem_append_left _ (List.mem_append_left _ (List.mem_append_right _ (h)))))))
  have iX70 : ∀ w ∈ wsX70, w ∈ wsX8_swapLayers := fun _ h => List.mem_cons_of_mem _ (List.mem_append_left _ (List.mem_append_left _ (List.mem_append_left _ (List.mem_append_left _ (List.mem_append_right _ (h))))))
  have iX40 : ∀ w ∈ wsX40, w ∈ wsX8_swapLayers := fun _ h => List.mem_cons_of_mem _ (List.mem_append_left _ (List.mem_append_left _ (List.mem_append_left _ (List.mem_append_right _ (h)))))
  have iX10 : ∀ w ∈ wsX10, w ∈ wsX8_swapLayers := fun _ h => List.mem_cons_of_mem _ (List.mem_append_left _ (List.mem_append_left _ (List.mem_append_right _ (h))))
  have hl : lv_has ls 6 [(0, .ref (ad 0)), (1, .int (iI y)), (2, .int (iI x))] := hl
  have hG : gW K A s.heap [gRLC K ad, gScn K (ad 3) (ad 14) (ad 15) (ad 16) (ad 17) ou mi bo ln LF sn SF] s.heap [] := hG
  obtain ⟨e0, e1, e2, e3, e4, e5, e6⟩ := id hS
  have n0 := hN.1
  have n3 := hN.2.2.2.1
  refine lv_aload_n S.1 S.2.1 dX8_swapLayers_0 rfl (lv_at hl 0 rfl) ?_
  refine lv_iload_n S.1 S.2.1 dX8_swapLayers_1 rfl (lv_at hl 1 rfl) ?_
  refine g_invVv (As := [.int (iI y)]) (rest := []) (gs' := (fun u : Unit => [gRLC K ad, gScn K (ad 3) (ad 14) (ad 15) (ad 16) (ad 17) ou mi bo ln LF sn SF])) S C hG [0, 1] (c_X8_checkLayer l K ad ou mi bo ln LF sn SF N y hS hN hv hy) rfl rfl 0 rfl rfl (cwV 1 S.2.2.2.2 gX8_swapLayers_X8_checkLayer rfl rfl rfl (by decide +kernel) ⟨Nat.le_of_ble_eq_true rfl, Nat.le_of_ble_eq_true rfl⟩) rfl hl.1 rfl (Nat.le_of_ble_eq_true rfl) dX8_swapLayers_2 ⟨Nat.le_of_ble_eq_true rfl, Nat.le_of_ble_eq_true rfl⟩ (fun _ => Nat.le_of_ble_eq_true rfl) (fun _ => rfl) (fun u H locs hp hG => ?_)
  refine lv_aload_n S.1 S.2.1 dX8_swapLayers_5 rfl (lv_at hl 0 rfl) ?_
  refine lv_iload_n S.1 S.2.1 dX8_swapLayers_6 rfl (lv_at hl 2 rfl) ?_
  refine g_invVv (As := [.int (iI x)]) (rest := []) (gs' := (fun u : Unit => [gRLC K ad, gScn K (ad 3) (ad 14) (ad 15) (ad 16) (ad 17) ou mi bo ln LF sn SF])) S C hG [0, 1] (c_X8_checkLayer l K ad ou mi bo ln LF sn SF N x hS hN hx hx2) rfl rfl 0 rfl rfl (cwV 1 S.2.2.2.2 gX8_swapLayers_X8_checkLayer rfl rfl rfl (by decide +kernel) ⟨Nat.le_of_ble_eq_true rfl, Nat.le_of_ble_eq_true rfl⟩) rfl hl.1 rfl (Nat.le_of_ble_eq_true rfl) dX8_swapLayers_7 ⟨Nat.le_of_ble_eq_true rfl, Nat.le_of_ble_eq_true rfl⟩ (fun _ => Nat.le_of_ble_eq_true rfl) (fun _ => rfl) (fun u H locs hp hG => ?_)
  refine lv_iload_n S.1 S.2.1 dX8_swapLayers_10 rfl (lv_at hl 1 rfl) ?_
  refine lv_iload_n S.1 S.2.1 dX8_swapLayers_11 rfl (lv_at hl 2 rfl) ?_
  refine g_icmp_ne (tgt := 26) S dX8_swapLayers_12 (by decide) (by omega) (by omega) (fun q12 => ?_) (fun q12 => ?_)
  · skip
    omega
  · skip
    have hG : gW K A s.heap [gRLC K ad, gScn K (ad 3) (ad 14) (ad 15) (ad 16) (ad 17) ou mi bo ln LF sn SF] _ _ := hG
    exact g_thrW S C hl.1 hst hQ hex hlk th_ex_144 th_ft_144 (List.mem_of_getElem? (i := 1) rfl) (List.mem_of_getElem? (i := 2) rfl) (List.mem_of_getElem? (l := strW) (i := 23) rfl) (fun w hw => List.mem_cons_of_mem _ (List.mem_append_left _ (List.mem_append_right _ (hw)))) th_ng_144 th_gd_144 dX8_swapLayers_15 dX8_swapLayers_18 dX8_swapLayers_19 dX8_swapLayers_22 dX8_swapLayers_25 ⟨Nat.le_of_ble_eq_true rfl, Nat.le_of_ble_eq_true rfl, Nat.le_of_ble_eq_true rfl, Nat.le_of_ble_eq_true rfl⟩ (Nat.le_of_ble_eq_true rfl) (Nat.le_of_ble_eq_true rfl) (() : Unit) trivial hG

set_option maxHeartbeats 1000000 in
set_option maxRecDepth 100000 in
theorem c_X8_undo (l : Launch) (K : KC) (ad : Nat → Nat) (ou : Int) (mi : Int) (bo : Int) (ln : Int) (LF : Int → Int) (sn : Int) (SF : Int → Int) (N : Int → Int) (nx : Int) (sz : Int) (o : Nat → Option SR) (r3 : SR) (M : Int → Int) (hS : ScOk N ou mi bo ln LF sn SF) (hN : NOk0 N) (hnx : 0 ≤ nx ∧ nx < 6) (hsz : 0 < sz ∧ sz ≤ 6) (ho : o ((nx + 6 - 1) % 6).toNat = some r3) (hM : ScR M r3) (hN2 : NOk0 M) : mG l yX8_undo wsX8_undo 4 124 K [.ref (ad 0)] [gRLC K ad, gScn K (ad 3) (ad 14) (ad 15) (ad 16) (ad 17) ou mi bo ln LF sn SF, gHisC K (ad 5) (ad 22) nx sz, gQS K (ad 22) 6 (oP o), gSOs K o (List.range 6)] (fun (v : Value) (u : Int × Int × Int × Int × (Int → Int) × Int × (Int → Int)) => (v = .int (iI (sz - 1))) ∧ (ScOk M u.1 u.2.1 u.2.2.1 u.2.2.2.1 u.2.2.2.2.1 u.2.2.2.2.2.1 u.2.2.2.2.2.2)) (fun (u : Int × Int × Int × Int × (Int → Int) × Int × (Int → Int)) => [gRLC K ad, gScn K (ad 3) (ad 14) (ad 15) (ad 16) (ad 17) u.1 u.2.1 u.2.2.1 u.2.2.2.1 u.2.2.2.2.1 u.2.2.2.2.2.1 u.2.2.2.2.2.2, gHisC K (ad 5) (ad 22) ((nx + 6 - 1) % 6) (sz - 1), gQS K (ad 22) 6 (oP o), gSOs K o (List.range 6)]) 0 0 := by
  refine mG_of cX8_undo 1 (by decide) rfl (Nat.le_of_ble_eq_true rfl) ?_
  intro p e s m below meth c A ls Q S C hG hl hr hlk hin hQ
  have S : CallFix p m c cX8_undo 1 s ([.ref (ad 0)] : List Value).toArray wsX8_undo RX8 := S
  have iX80 : ∀ w ∈ wsX80, w ∈ wsX8_undo := fun _ h => List.mem_cons_of_mem _ (List.mem_append_left _ (List.mem_append_left _ (List.mem_append_left _ (List.mem_append_left _ (List.mem_append_right _ (h))))))
  have iX10 : ∀ w ∈ wsX10, w ∈ wsX8_undo := fun _ h => List.mem_cons_of_mem _ (List.mem_append_left _ (List.mem_append_left _ (List.mem_append_left _ (List.mem_append_right _ (h)))))
  have iX50 : ∀ w ∈ wsX50, w ∈ wsX8_undo := fun _ h => List.mem_cons_of_mem _ (List.mem_append_left _ (List.mem_append_left _ (List.mem_append_right _ (h))))
  have iX70 : ∀ w ∈ wsX70, w ∈ wsX8_undo := fun _ h => List.mem_cons_of_mem _ (List.mem_append_left _ (List.mem_append_right _ (h)))
  have hl : lv_has ls 1 [(0, .ref (ad 0))] := hl
  have hG : gW K A s.heap [gRLC K ad, gScn K (ad 3) (ad 14) (ad 15) (ad 16) (ad 17) ou mi bo ln LF sn SF, gHisC K (ad 5) (ad 22) nx sz, gQS K (ad 22) 6 (oP o), gSOs K o (List.range 6)] s.heap [] := hG
  obtain ⟨e0, e1, e2, e3, e4, e5, e6⟩ := id hS
  have n0 := hN.1
  have n3 := hN.2.2.2.1
  refine lv_aload_n S.1 S.2.1 dX8_undo_0 rfl (lv_at hl 0 rfl) ?_
  refine g_get S C hG iX80 0 rfl rfl 4 (by decide) (List.mem_of_getElem? (i := 3) rfl) rfl dX8_undo_1 ?_
  refine g_get S C hG iX10 6 rfl rfl 2 (by decide) (List.mem_of_getElem? (i := 4) rfl) rfl dX8_undo_4 ?_
  refine g_if_ne (tgt := 21) S dX8_undo_7 (by decide) (by omega) (fun q7 => ?_) (fun q7 => ?_)
  · skip
    refine lv_aload_n S.1 S.2.1 dX8_undo_21 rfl (lv_at hl 0 rfl) ?_
    refine g_get S C hG iX80 0 rfl rfl 4 (by decide) (List.mem_of_getElem? (i := 3) rfl) rfl dX8_undo_22 ?_
    refine lv_aload_n S.1 S.2.1 dX8_undo_25 rfl (lv_at hl 0 rfl) ?_
    refine g_get S C hG iX80 0 rfl rfl 2 (by decide) (List.mem_of_getElem? (i := 5) rfl) rfl dX8_undo_26 ?_
    refine g_invVv (As := [.ref (ad 3)]) (rest := []) (gs' := (fun u : Int × Int × Int × Int × (Int → Int) × Int × (Int → Int) => [gRLC K ad, gScn K (ad 3) (ad 14) (ad 15) (ad 16) (ad 17) u.1 u.2.1 u.2.2.1 u.2.2.2.1 u.2.2.2.2.1 u.2.2.2.2.2.1 u.2.2.2.2.2.2, gHisC K (ad 5) (ad 22) ((nx + 6 - 1) % 6) (sz - 1), gQS K (ad 22) 6 (oP o), gSOs K o (List.range 6)])) S C hG [2, 3, 1, 4] (c_X1_recall l K (ad 5) (ad 22) nx sz o (ad 3) (ad 14) (ad 15) (ad 16) (ad 17) ou mi bo ln LF sn SF M hnx hsz r3 ho hM hN2) rfl rfl 0 rfl rfl (cwV 1 S.2.2.2.2 gX8_undo_X1_recall rfl rfl rfl (by decide +kernel) ⟨Nat.le_of_ble_eq_true rfl, Nat.le_of_ble_eq_true rfl⟩) rfl hl.1 rfl (Nat.le_of_ble_eq_true rfl) dX8_undo_29 ⟨Nat.le_of_ble_eq_true rfl, Nat.le_of_ble_eq_true rfl⟩ (fun _ => Nat.le_of_ble_eq_true rfl) (fun _ => rfl) (fun u H locs hp hG => ?_)
    obtain ⟨ou9_29, mi9_29, bo9_29, ln9_29, LF9_29, sn9_29, SF9_29⟩ := u
    have hr_29 := hp
    have hr_29 : ScOk M ou9_29 mi9_29 bo9_29 ln9_29 LF9_29 sn9_29 SF9_29 := hr_29
    have hG : gW K A s.heap [gRLC K ad, gScn K (ad 3) (ad 14) (ad 15) (ad 16) (ad 17) ou9_29 mi9_29 bo9_29 ln9_29 LF9_29 sn9_29 SF9_29, gHisC K (ad 5) (ad 22) ((nx + 6 - 1) % 6) (sz - 1), gQS K (ad 22) 6 (oP o), gSOs K o (List.range 6)] _ _ := hG
    refine lv_aload_n S.1 S.2.1 dX8_undo_32 rfl (lv_at hl 0 rfl) ?_
    refine g_get S C hG iX80 0 rfl rfl 4 (by decide) (List.mem_of_getElem? (i := 3) rfl) rfl dX8_undo_33 ?_
    refine g_get S C hG iX10 6 rfl rfl 2 (by decide) (List.mem_of_getElem? (i := 4) rfl) rfl dX8_undo_36 ?_
    have hG : gW K A s.heap [gRLC K ad, gScn K (ad 3) (ad 14) (ad 15) (ad 16) (ad 17) ou9_29 mi9_29 bo9_29 ln9_29 LF9_29 sn9_29 SF9_29, gHisC K (ad 5) (ad 22) ((nx + 6 - 1) % 6) (sz - 1), gQS K (ad 22) 6 (oP o), gSOs K o (List.range 6)] _ _ := hG
    exact g_iret S hr hlk hQ dX8_undo_39 (Nat.le_of_ble_eq_true rfl) (Nat.le_of_ble_eq_true rfl) ((ou9_29, mi9_29, bo9_29, ln9_29, LF9_29, sn9_29, SF9_29) : Int × Int × Int × Int × (Int → Int) × Int × (Int → Int)) ⟨rfl, hr_29⟩ hG
  · skip
    omega

set_option maxHeartbeats 1000000 in
set_option maxRecDepth 100000 in
theorem x1_undo (l : Launch) (K : KC) (ad : Nat → Nat) (nx : Int) (sz : Int) (h0 : sz = 0) (hst : l.stackTraces = false) : mX l yX8_undo wsX8_undo 6 82 K [.ref (ad 0)] [gRLC K ad, gHisC K (ad 5) (ad 22) nx sz] "java/lang/IllegalStateException" (fun (u : Unit) => True) (fun (u : Unit) => [gRLC K ad, gHisC K (ad 5) (ad 22) nx sz]) 1 6 := by
  refine mX_of cX8_undo 1 (by decide) rfl (Nat.le_of_ble_eq_true rfl) ?_
  intro p e s m below meth c A ls Q S C hG hl hex hlk hin hQ
  have S : CallFix p m c cX8_undo 1 s ([.ref (ad 0)] : List Value).toArray wsX8_undo RX8 := S
  have iX80 : ∀ w ∈ wsX80, w ∈ wsX8_undo := fun _ h => List.mem_cons_of_mem _ (List.mem_append_left _ (List.mem_append_left _ (List.mem_append_left _ (List.mem_append_left _ (List.mem_append_right _ (h))))))
  have iX10 : ∀ w ∈ wsX10, w ∈ wsX8_undo := fun _ h => List.mem_cons_of_mem _ (List.mem_append_left _ (List.mem_append_left _ (List.mem_append_left _ (List.mem_append_right _ (h)))))
  have iX50 : ∀ w ∈ wsX50, w ∈ wsX8_undo := fun _ h => List.mem_cons_of_mem _ (List.mem_append_left _ (List.mem_append_left _ (List.mem_append_right _ (h))))
  have iX70 : ∀ w ∈ wsX70, w ∈ wsX8_undo := fun _ h => List.mem_cons_of_mem _ (List.mem_append_left _ (List.mem_append_right _ (h)))
  have hl : lv_has ls 1 [(0, .ref (ad 0))] := hl
  have hG : gW K A s.heap [gRLC K ad, gHisC K (ad 5) (ad 22) nx sz] s.heap [] := hG
  refine lv_aload_n S.1 S.2.1 dX8_undo_0 rfl (lv_at hl 0 rfl) ?_
  refine g_get S C hG iX80 0 rfl rfl 4 (by decide) (List.mem_of_getElem? (i := 3) rfl) rfl dX8_undo_1 ?_
  refine g_get S C hG iX10 1 rfl rfl 2 (by decide) (List.mem_of_getElem? (i := 4) rfl) rfl dX8_undo_4 ?_
  refine g_if_ne (tgt := 21) S dX8_undo_7 (by decide) (by omega) (fun q7 => ?_) (fun q7 => ?_)
  · skip
    omega
  · skip
    have hG : gW K A s.heap [gRLC K ad, gHisC K (ad 5) (ad 22) nx sz] _ _ := hG
    exact g_thrW S C hl.1 hst hQ hex hlk th_ex_93 th_ft_93 (List.mem_of_getElem? (i := 1) rfl) (List.mem_of_getElem? (i := 2) rfl) (List.mem_of_getElem? (l := strW) (i := 27) rfl) (fun w hw => List.mem_cons_of_mem _ (List.mem_append_right _ (hw))) th_ng_93 th_gd_93 dX8_undo_10 dX8_undo_13 dX8_undo_14 dX8_undo_17 dX8_undo_20 ⟨Nat.le_of_ble_eq_true rfl, Nat.le_of_ble_eq_true rfl, Nat.le_of_ble_eq_true rfl, Nat.le_of_ble_eq_true rfl⟩ (Nat.le_of_ble_eq_true rfl) (Nat.le_of_ble_eq_true rfl) (() : Unit) trivial hG
