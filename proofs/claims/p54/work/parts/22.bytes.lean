set_option maxHeartbeats 1000000 in
set_option maxRecDepth 100000 in
theorem c_X0_get (l : Launch) (K : KC) (a : Nat) (b : Nat) (n : Int) (F : Int → Int) (i : Int) (h0 : 0 ≤ n ∧ n ≤ 400) (h1 : -2147483648 ≤ i ∧ i < 2147483648) : mG l yX0_get wsX0_get 0 0 K [.ref a, .int (iI i)] [gBuf K a b n F] (fun (v : Value) (u : Unit) => (v = .int (iI (bget F n i)))) (fun (u : Unit) => [gBuf K a b n F]) 0 0 := by
  refine mG_of cX0_get 2 (by decide) rfl (Nat.le_of_ble_eq_true rfl) ?_
  intro p e s m below meth c A ls Q S C hG hl hr hlk hin hQ
  have S : CallFix p m c cX0_get 2 s ([.ref a, .int (iI i)] : List Value).toArray wsX0_get RX0 := S
  have iX00 : ∀ w ∈ wsX00, w ∈ wsX0_get := fun _ h => List.mem_cons_of_mem _ (List.mem_append_right _ (h))
  have hl : lv_has ls 2 [(0, .ref a), (1, .int (iI i))] := hl
  have hG : gW K A s.heap [gBuf K a b n F] s.heap [] := hG
  refine lv_iload_n S.1 S.2.1 dX0_get_0 rfl (lv_at hl 1 rfl) ?_
  refine g_if_lt (tgt := 34) S dX0_get_1 (by decide) (by omega) (fun q1 => ?_) (fun q1 => ?_)
  · skip
    refine g_iconst S dX0_get_34 ?_
    have hG : gW K A s.heap [gBuf K a b n F] _ _ := hG
    exact g_iret S hr hlk hQ dX0_get_35 (Nat.le_of_ble_eq_true rfl) (Nat.le_of_ble_eq_true rfl) (() : Unit) (congrArg (fun z : Int => Value.int (iI z)) (by first | exact (bget_in (by omega)).symm | exact (bget_out (by omega)).symm)) hG
  · skip
    refine lv_iload_n S.1 S.2.1 dX0_get_4 rfl (lv_at hl 1 rfl) ?_
    refine lv_aload_n S.1 S.2.1 dX0_get_5 rfl (lv_at hl 0 rfl) ?_
    refine g_get S C hG iX00 0 rfl rfl 1 (by decide) (List.mem_of_getElem? (i := 1) rfl) rfl dX0_get_6 ?_
    refine g_icmp_ge (tgt := 34) S dX0_get_9 (by decide) (by omega) (by omega) (fun q9 => ?_) (fun q9 => ?_)
    · skip
      refine g_iconst S dX0_get_34 ?_
      have hG : gW K A s.heap [gBuf K a b n F] _ _ := hG
      exact g_iret S hr hlk hQ dX0_get_35 (Nat.le_of_ble_eq_true rfl) (Nat.le_of_ble_eq_true rfl) (() : Unit) (congrArg (fun z : Int => Value.int (iI z)) (by first | exact (bget_in (by omega)).symm | exact (bget_out (by omega)).symm)) hG
    · skip
      refine lv_iload_n S.1 S.2.1 dX0_get_12 rfl (lv_at hl 1 rfl) ?_
      refine lv_aload_n S.1 S.2.1 dX0_get_13 rfl (lv_at hl 0 rfl) ?_
      refine g_get S C hG iX00 0 rfl rfl 0 (by decide) (List.mem_of_getElem? (i := 2) rfl) rfl dX0_get_14 ?_
      refine g_alen (z := 400) S C hG 1 1 rfl rfl rfl dX0_get_17 ?_
      refine g_icmp_ge (tgt := 34) S dX0_get_18 (by decide) (by omega) (by omega) (fun q18 => ?_) (fun q18 => ?_)
      · skip
        omega
      · skip
        refine lv_aload_n S.1 S.2.1 dX0_get_21 rfl (lv_at hl 0 rfl) ?_
        refine g_get S C hG iX00 0 rfl rfl 0 (by decide) (List.mem_of_getElem? (i := 2) rfl) rfl dX0_get_22 ?_
        refine lv_iload_n S.1 S.2.1 dX0_get_25 rfl (lv_at hl 1 rfl) ?_
        refine g_bald S C hG 1 rfl (by omega) (by omega) (by omega) dX0_get_26 ?_
        refine g_sipush S dX0_get_27 (by decide) ?_
        refine g_b255 S dX0_get_30 ?_
        refine lv_goto (tgt := 35) S.1 S.2.1 dX0_get_31 (by decide) ?_
        have hG : gW K A s.heap [gBuf K a b n F] _ _ := hG
        exact g_iret S hr hlk hQ dX0_get_35 (Nat.le_of_ble_eq_true rfl) (Nat.le_of_ble_eq_true rfl) (() : Unit) (congrArg (fun z : Int => Value.int (iI z)) (by first | exact (bget_in (by omega)).symm | exact (bget_out (by omega)).symm)) hG
set_option maxHeartbeats 1000000 in
set_option maxRecDepth 100000 in
theorem c_X0_add (l : Launch) (K : KC) (a : Nat) (b : Nat) (n : Int) (F : Int → Int) (x : Int) (h0 : 0 ≤ n ∧ n < 400) : mV l yX0_add wsX0_add 0 0 K [.ref a, .int (iI x)] [gBuf K a b n F] (fun (u : Unit) => True) (fun (u : Unit) => [gBuf K a b (n + 1) (upI F n x)]) 0 0 := by
  refine mV_of cX0_add 2 (by decide) rfl (Nat.le_of_ble_eq_true rfl) ?_
  intro p e s m below meth c A ls Q S C hG hl hr hlk hin hQ
  have S : CallFix p m c cX0_add 2 s ([.ref a, .int (iI x)] : List Value).toArray wsX0_add RX0 := S
  have iX00 : ∀ w ∈ wsX00, w ∈ wsX0_add := fun _ h => List.mem_cons_of_mem _ (List.mem_append_right _ (h))
  have hl : lv_has ls 2 [(0, .ref a), (1, .int (iI x))] := hl
  have hG : gW K A s.heap [gBuf K a b n F] s.heap [] := hG
  refine lv_aload_n S.1 S.2.1 dX0_add_0 rfl (lv_at hl 0 rfl) ?_
  refine g_get S C hG iX00 0 rfl rfl 1 (by decide) (List.mem_of_getElem? (i := 1) rfl) rfl dX0_add_1 ?_
  refine g_if_lt (tgt := 40) S dX0_add_4 (by decide) (by omega) (fun q4 => ?_) (fun q4 => ?_)
  · skip
    omega
  · skip
    refine lv_aload_n S.1 S.2.1 dX0_add_7 rfl (lv_at hl 0 rfl) ?_
    refine g_get S C hG iX00 0 rfl rfl 1 (by decide) (List.mem_of_getElem? (i := 1) rfl) rfl dX0_add_8 ?_
    refine lv_aload_n S.1 S.2.1 dX0_add_11 rfl (lv_at hl 0 rfl) ?_
    refine g_get S C hG iX00 0 rfl rfl 0 (by decide) (List.mem_of_getElem? (i := 2) rfl) rfl dX0_add_12 ?_
    refine g_alen (z := 400) S C hG 1 1 rfl rfl rfl dX0_add_15 ?_
    refine g_icmp_ge (tgt := 40) S dX0_add_16 (by decide) (by omega) (by omega) (fun q16 => ?_) (fun q16 => ?_)
    · skip
      omega
    · skip
      refine lv_aload_n S.1 S.2.1 dX0_add_19 rfl (lv_at hl 0 rfl) ?_
      refine g_get S C hG iX00 0 rfl rfl 0 (by decide) (List.mem_of_getElem? (i := 2) rfl) rfl dX0_add_20 ?_
      refine lv_aload_n S.1 S.2.1 dX0_add_23 rfl (lv_at hl 0 rfl) ?_
      refine g_get S C hG iX00 0 rfl rfl 1 (by decide) (List.mem_of_getElem? (i := 1) rfl) rfl dX0_add_24 ?_
      refine lv_iload_n S.1 S.2.1 dX0_add_27 rfl (lv_at hl 1 rfl) ?_
      refine g_i2b S dX0_add_28 ?_
      refine g_bastB (gs' := [gBuf K a b n (upI F n x)]) S C hG 1 rfl (by omega) (by omega) (by omega) rfl dX0_add_29 (fun H locs hG => ?_)
      refine lv_aload_n S.1 S.2.1 dX0_add_30 rfl (lv_at hl 0 rfl) ?_
      refine lv_dup S.1 S.2.1 dX0_add_31 rfl ?_
      refine g_get S C hG iX00 0 rfl rfl 1 (by decide) (List.mem_of_getElem? (i := 1) rfl) rfl dX0_add_32 ?_
      refine g_iconst S dX0_add_35 ?_
      refine g_iadd S dX0_add_36 rfl ?_
      refine g_put (gs' := [gBuf K a b (n + 1) (upI F n x)]) S C hG iX00 tyX0 tyX0_ok nmX0 0 rfl rfl 1 (by decide) (List.mem_of_getElem? (i := 1) rfl) rfl rfl rfl (Nat.le_of_ble_eq_true rfl) rfl dX0_add_37 (fun H locs hG => ?_)
      have hG : gW K A s.heap [gBuf K a b (n + 1) (upI F n x)] _ _ := hG
      exact g_vret S hr hlk hQ dX0_add_40 (Nat.le_of_ble_eq_true rfl) (Nat.le_of_ble_eq_true rfl) (() : Unit) trivial hG
set_option maxHeartbeats 1000000 in
set_option maxRecDepth 100000 in
theorem c_X0_addFour (l : Launch) (K : KC) (a : Nat) (b : Nat) (n : Int) (F : Int → Int) (x : Int) (h0 : 0 ≤ n ∧ n ≤ 396) (h1 : -2147483648 ≤ x ∧ x < 2147483648) : mV l yX0_addFour wsX0_addFour 1 21 K [.ref a, .int (iI x)] [gBuf K a b n F] (fun (u : Unit) => True) (fun (u : Unit) => [gBuf K a b (n + 4) (upI (upI (upI (upI F n (x / 16777216)) (n + 1) (x / 65536)) (n + 1 + 1) (x / 256)) (n + 1 + 1 + 1) (x / 1))]) 0 0 := by
  refine mV_of cX0_addFour 3 (by decide) rfl (Nat.le_of_ble_eq_true rfl) ?_
  intro p e s m below meth c A ls Q S C hG hl hr hlk hin hQ
  have S : CallFix p m c cX0_addFour 3 s ([.ref a, .int (iI x)] : List Value).toArray wsX0_addFour RX0 := S
  have iX00 : ∀ w ∈ wsX00, w ∈ wsX0_addFour := fun _ h => List.mem_cons_of_mem _ (List.mem_append_right _ (h))
  have hl : lv_has ls 3 [(0, .ref a), (1, .int (iI x))] := hl
  have hG : gW K A s.heap [gBuf K a b n F] s.heap [] := hG
  refine g_bipush S dX0_addFour_0 (by decide) ?_
  refine lv_istore_n (lv' := [(2, .int (iI 24)), (0, .ref a), (1, .int (iI x))]) S.1 S.2.1 dX0_addFour_2 rfl hl (by decide) rfl (fun ls hl => ?_)
  refine lv_iload_n S.1 S.2.1 dX0_addFour_3 rfl (lv_at hl 0 rfl) ?_
  refine g_if_lt (tgt := 20) S dX0_addFour_4 (by decide) (by omega) (fun q4 => ?_) (fun q4 => ?_)
  · skip
    exact absurd q4 (by decide)
  · skip
    refine lv_aload_n S.1 S.2.1 dX0_addFour_7 rfl (lv_at hl 1 rfl) ?_
    refine lv_iload_n S.1 S.2.1 dX0_addFour_8 rfl (lv_at hl 2 rfl) ?_
    refine lv_iload_n S.1 S.2.1 dX0_addFour_9 rfl (lv_at hl 0 rfl) ?_
    refine g_ishr S 24 16777216 dX0_addFour_10 (by omega) (by decide) (by decide) (by omega) ?_
    refine g_invVv (As := [.int (iI (x / 16777216))]) (rest := []) (gs' := (fun u : Unit => [gBuf K a b (n + 1) (upI F n (x / 16777216))])) S C hG [0] (c_X0_add l K a b n F (x / 16777216) (by omega)) rfl rfl 0 rfl rfl (cwV 1 S.2.2.2.2 gX0_addFour_X0_add rfl rfl rfl (by decide +kernel) ⟨Nat.le_of_ble_eq_true rfl, Nat.le_of_ble_eq_true rfl⟩) rfl hl.1 rfl (Nat.le_of_ble_eq_true rfl) dX0_addFour_11 ⟨Nat.le_of_ble_eq_true rfl, Nat.le_of_ble_eq_true rfl⟩ (fun _ => Nat.le_of_ble_eq_true rfl) (fun _ => rfl) (fun u H locs hp hG => ?_)
    refine lv_iinc (v := iI 16) (lv' := [(2, .int (iI 16)), (0, .ref a), (1, .int (iI x))]) S.1 S.2.1 dX0_addFour_14 hl (k := 0) rfl (g_iinc (by decide)) (by decide) rfl (fun ls hl => ?_)
    refine lv_goto (tgt := 3) S.1 S.2.1 dX0_addFour_17 (by decide) ?_
    refine lv_iload_n S.1 S.2.1 dX0_addFour_3 rfl (lv_at hl 0 rfl) ?_
    refine g_if_lt (tgt := 20) S dX0_addFour_4 (by decide) (by omega) (fun q4 => ?_) (fun q4 => ?_)
    · skip
      exact absurd q4 (by decide)
    · skip
      refine lv_aload_n S.1 S.2.1 dX0_addFour_7 rfl (lv_at hl 1 rfl) ?_
      refine lv_iload_n S.1 S.2.1 dX0_addFour_8 rfl (lv_at hl 2 rfl) ?_
      refine lv_iload_n S.1 S.2.1 dX0_addFour_9 rfl (lv_at hl 0 rfl) ?_
      refine g_ishr S 16 65536 dX0_addFour_10 (by omega) (by decide) (by decide) (by omega) ?_
      refine g_invVv (As := [.int (iI (x / 65536))]) (rest := []) (gs' := (fun u : Unit => [gBuf K a b ((n + 1) + 1) (upI (upI F n (x / 16777216)) (n + 1) (x / 65536))])) S C hG [0] (c_X0_add l K a b (n + 1) (upI F n (x / 16777216)) (x / 65536) (by omega)) rfl rfl 0 rfl rfl (cwV 1 S.2.2.2.2 gX0_addFour_X0_add rfl rfl rfl (by decide +kernel) ⟨Nat.le_of_ble_eq_true rfl, Nat.le_of_ble_eq_true rfl⟩) rfl hl.1 rfl (Nat.le_of_ble_eq_true rfl) dX0_addFour_11 ⟨Nat.le_of_ble_eq_true rfl, Nat.le_of_ble_eq_true rfl⟩ (fun _ => Nat.le_of_ble_eq_true rfl) (fun _ => rfl) (fun u H locs hp hG => ?_)
      refine lv_iinc (v := iI 8) (lv' := [(2, .int (iI 8)), (0, .ref a), (1, .int (iI x))]) S.1 S.2.1 dX0_addFour_14 hl (k := 0) rfl (g_iinc (by decide)) (by decide) rfl (fun ls hl => ?_)
      refine lv_goto (tgt := 3) S.1 S.2.1 dX0_addFour_17 (by decide) ?_
      refine lv_iload_n S.1 S.2.1 dX0_addFour_3 rfl (lv_at hl 0 rfl) ?_
      refine g_if_lt (tgt := 20) S dX0_addFour_4 (by decide) (by omega) (fun q4 => ?_) (fun q4 => ?_)
      · skip
        exact absurd q4 (by decide)
      · skip
        refine lv_aload_n S.1 S.2.1 dX0_addFour_7 rfl (lv_at hl 1 rfl) ?_
        refine lv_iload_n S.1 S.2.1 dX0_addFour_8 rfl (lv_at hl 2 rfl) ?_
        refine lv_iload_n S.1 S.2.1 dX0_addFour_9 rfl (lv_at hl 0 rfl) ?_
        refine g_ishr S 8 256 dX0_addFour_10 (by omega) (by decide) (by decide) (by omega) ?_
        refine g_invVv (As := [.int (iI (x / 256))]) (rest := []) (gs' := (fun u : Unit => [gBuf K a b (((n + 1) + 1) + 1) (upI (upI (upI F n (x / 16777216)) (n + 1) (x / 65536)) ((n + 1) + 1) (x / 256))])) S C hG [0] (c_X0_add l K a b ((n + 1) + 1) (upI (upI F n (x / 16777216)) (n + 1) (x / 65536)) (x / 256) (by omega)) rfl rfl 0 rfl rfl (cwV 1 S.2.2.2.2 gX0_addFour_X0_add rfl rfl rfl (by decide +kernel) ⟨Nat.le_of_ble_eq_true rfl, Nat.le_of_ble_eq_true rfl⟩) rfl hl.1 rfl (Nat.le_of_ble_eq_true rfl) dX0_addFour_11 ⟨Nat.le_of_ble_eq_true rfl, Nat.le_of_ble_eq_true rfl⟩ (fun _ => Nat.le_of_ble_eq_true rfl) (fun _ => rfl) (fun u H locs hp hG => ?_)
        refine lv_iinc (v := iI 0) (lv' := [(2, .int (iI 0)), (0, .ref a), (1, .int (iI x))]) S.1 S.2.1 dX0_addFour_14 hl (k := 0) rfl (g_iinc (by decide)) (by decide) rfl (fun ls hl => ?_)
        refine lv_goto (tgt := 3) S.1 S.2.1 dX0_addFour_17 (by decide) ?_
        refine lv_iload_n S.1 S.2.1 dX0_addFour_3 rfl (lv_at hl 0 rfl) ?_
        refine g_if_lt (tgt := 20) S dX0_addFour_4 (by decide) (by omega) (fun q4 => ?_) (fun q4 => ?_)
        · skip
          exact absurd q4 (by decide)
        · skip
          refine lv_aload_n S.1 S.2.1 dX0_addFour_7 rfl (lv_at hl 1 rfl) ?_
          refine lv_iload_n S.1 S.2.1 dX0_addFour_8 rfl (lv_at hl 2 rfl) ?_
          refine lv_iload_n S.1 S.2.1 dX0_addFour_9 rfl (lv_at hl 0 rfl) ?_
          refine g_ishr S 0 1 dX0_addFour_10 (by omega) (by decide) (by decide) (by omega) ?_
          refine g_invVv (As := [.int (iI (x / 1))]) (rest := []) (gs' := (fun u : Unit => [gBuf K a b ((((n + 1) + 1) + 1) + 1) (upI (upI (upI (upI F n (x / 16777216)) (n + 1) (x / 65536)) ((n + 1) + 1) (x / 256)) (((n + 1) + 1) + 1) (x / 1))])) S C hG [0] (c_X0_add l K a b (((n + 1) + 1) + 1) (upI (upI (upI F n (x / 16777216)) (n + 1) (x / 65536)) ((n + 1) + 1) (x / 256)) (x / 1) (by omega)) rfl rfl 0 rfl rfl (cwV 1 S.2.2.2.2 gX0_addFour_X0_add rfl rfl rfl (by decide +kernel) ⟨Nat.le_of_ble_eq_true rfl, Nat.le_of_ble_eq_true rfl⟩) rfl hl.1 rfl (Nat.le_of_ble_eq_true rfl) dX0_addFour_11 ⟨Nat.le_of_ble_eq_true rfl, Nat.le_of_ble_eq_true rfl⟩ (fun _ => Nat.le_of_ble_eq_true rfl) (fun _ => rfl) (fun u H locs hp hG => ?_)
          refine lv_iinc (v := iI (-8)) (lv' := [(2, .int (iI (-8))), (0, .ref a), (1, .int (iI x))]) S.1 S.2.1 dX0_addFour_14 hl (k := 0) rfl (g_iinc (by decide)) (by decide) rfl (fun ls hl => ?_)
          refine lv_goto (tgt := 3) S.1 S.2.1 dX0_addFour_17 (by decide) ?_
          refine lv_iload_n S.1 S.2.1 dX0_addFour_3 rfl (lv_at hl 0 rfl) ?_
          refine g_if_lt (tgt := 20) S dX0_addFour_4 (by decide) (by omega) (fun q4 => ?_) (fun q4 => ?_)
          · skip
            have hG : gW K A s.heap [gBuf K a b (n + 4) (upI (upI (upI (upI F n (x / 16777216)) (n + 1) (x / 65536)) (n + 1 + 1) (x / 256)) (n + 1 + 1 + 1) (x / 1))] _ _ := (by rw [show n + 4 = n + 1 + 1 + 1 + 1 by omega]; exact hG)
            exact g_vret S hr hlk hQ dX0_addFour_20 (Nat.le_of_ble_eq_true rfl) (Nat.le_of_ble_eq_true rfl) (() : Unit) trivial hG
          · skip
            exact absurd q4 (by decide)
