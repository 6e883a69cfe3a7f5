set_option maxHeartbeats 1000000 in
set_option maxRecDepth 100000 in
theorem c_X9_write (l : Launch) (K : KC) (am : Nat → Nat) (th : Int) (rw : Nat) (lg : Int) (mr : Int) (en : Int) (pw : Int) (sl : Int) (ly : Int) (dn : Int) (iz : Int) (tz : Int) (nx : Int) (st : Int) (tk : Int) (vl : Int) (ef : Int) (ep : Int) (hO : Int) (hB : Int) (ol : Int) (rm : Int) (oz : Int) (OF : Int → Int) (x : Int) (h0 : 0 ≤ oz ∧ oz < 200) : mV l yX9_write wsX9_write 0 0 K [.ref (am 0), .int (iI x)] [gMdl K am th rw lg mr en pw sl ly dn iz tz nx st tk vl ef ep hO hB ol rm oz, gArrB K 200 (am 19) OF] (fun (u : Unit) => True) (fun (u : Unit) => [gMdl K am th rw lg mr en pw sl ly dn iz tz nx st tk vl ef ep hO hB ol rm (oz + 1), gArrB K 200 (am 19) (upI OF oz x)]) 0 0 := by
  refine mV_of cX9_write 2 (by decide) rfl (Nat.le_of_ble_eq_true rfl) ?_
  intro p e s m below meth c A ls Q S C hG hl hr hlk hin hQ
  have S : CallFix p m c cX9_write 2 s ([.ref (am 0), .int (iI x)] : List Value).toArray wsX9_write RX9 := S
  have iX90 : ∀ w ∈ wsX90, w ∈ wsX9_write := fun _ h => List.mem_cons_of_mem _ (List.mem_append_right _ (h))
  have hl : lv_has ls 2 [(0, .ref (am 0)), (1, .int (iI x))] := hl
  have hG : gW K A s.heap [gMdl K am th rw lg mr en pw sl ly dn iz tz nx st tk vl ef ep hO hB ol rm oz, gArrB K 200 (am 19) OF] s.heap [] := hG
  refine lv_aload_n S.1 S.2.1 dX9_write_0 rfl (lv_at hl 0 rfl) ?_
  refine g_get S C hG iX90 0 rfl rfl 39 (by decide) (List.mem_of_getElem? (i := 1) rfl) rfl dX9_write_1 ?_
  refine lv_aload_n S.1 S.2.1 dX9_write_4 rfl (lv_at hl 0 rfl) ?_
  refine g_get S C hG iX90 0 rfl rfl 40 (by decide) (List.mem_of_getElem? (i := 2) rfl) rfl dX9_write_5 ?_
  refine lv_iload_n S.1 S.2.1 dX9_write_8 rfl (lv_at hl 1 rfl) ?_
  refine g_i2b S dX9_write_9 ?_
  refine g_bastB (gs' := [gMdl K am th rw lg mr en pw sl ly dn iz tz nx st tk vl ef ep hO hB ol rm oz, gArrB K 200 (am 19) (upI OF oz x)]) S C hG 1 rfl (by omega) (by omega) (by omega) rfl dX9_write_10 (fun H locs hG => ?_)
  refine lv_aload_n S.1 S.2.1 dX9_write_11 rfl (lv_at hl 0 rfl) ?_
  refine lv_dup S.1 S.2.1 dX9_write_12 rfl ?_
  refine g_get S C hG iX90 0 rfl rfl 40 (by decide) (List.mem_of_getElem? (i := 2) rfl) rfl dX9_write_13 ?_
  refine g_iconst S dX9_write_16 ?_
  refine g_iadd S dX9_write_17 rfl ?_
  refine g_put (gs' := [gMdl K am th rw lg mr en pw sl ly dn iz tz nx st tk vl ef ep hO hB ol rm (oz + 1), gArrB K 200 (am 19) (upI OF oz x)]) S C hG iX90 tyX9 tyX9_ok nmX9 0 rfl rfl 40 (by decide) (List.mem_of_getElem? (i := 2) rfl) rfl rfl rfl (Nat.le_of_ble_eq_true rfl) rfl dX9_write_18 (fun H locs hG => ?_)
  have hG : gW K A s.heap [gMdl K am th rw lg mr en pw sl ly dn iz tz nx st tk vl ef ep hO hB ol rm (oz + 1), gArrB K 200 (am 19) (upI OF oz x)] _ _ := hG
  exact g_vret S hr hlk hQ dX9_write_21 (Nat.le_of_ble_eq_true rfl) (Nat.le_of_ble_eq_true rfl) (() : Unit) trivial hG

set_option maxHeartbeats 1000000 in
set_option maxRecDepth 100000 in
theorem c_X9_writeInt (l : Launch) (K : KC) (am : Nat → Nat) (th : Int) (rw : Nat) (lg : Int) (mr : Int) (en : Int) (pw : Int) (sl : Int) (ly : Int) (dn : Int) (iz : Int) (tz : Int) (nx : Int) (st : Int) (tk : Int) (vl : Int) (ef : Int) (ep : Int) (hO : Int) (hB : Int) (ol : Int) (rm : Int) (oz : Int) (OF : Int → Int) (x : Int) (h0 : 0 ≤ oz ∧ oz ≤ 196) (h1 : 0 ≤ x ∧ x ≤ 9999) : mV l yX9_writeInt wsX9_writeInt 1 21 K [.ref (am 0), .int (iI x)] [gMdl K am th rw lg mr en pw sl ly dn iz tz nx st tk vl ef ep hO hB ol rm oz, gArrB K 200 (am 19) OF] (fun (u : (Int → Int) × Int) => (∀ j : Int, u.1 j = if oz ≤ j ∧ j < oz + dgs x then dgt x (j - oz) else OF j) ∧ (u.2 = oz + dgs x)) (fun (u : (Int → Int) × Int) => [gMdl K am th rw lg mr en pw sl ly dn iz tz nx st tk vl ef ep hO hB ol rm u.2, gArrB K 200 (am 19) u.1]) 0 0 := by
  refine mV_of cX9_writeInt 4 (by decide) rfl (Nat.le_of_ble_eq_true rfl) ?_
  intro p e s m below meth c A ls Q S C hG hl hr hlk hin hQ
  have S : CallFix p m c cX9_writeInt 4 s ([.ref (am 0), .int (iI x)] : List Value).toArray wsX9_writeInt RX9 := S
  have iX90 : ∀ w ∈ wsX90, w ∈ wsX9_writeInt := fun _ h => List.mem_cons_of_mem _ (List.mem_append_right _ (h))
  have hl : lv_has ls 4 [(0, .ref (am 0)), (1, .int (iI x))] := hl
  have hG : gW K A s.heap [gMdl K am th rw lg mr en pw sl ly dn iz tz nx st tk vl ef ep hO hB ol rm oz, gArrB K 200 (am 19) OF] s.heap [] := hG
  refine g_iconst S dX9_writeInt_0 ?_
  refine lv_istore_n (lv' := [(2, .int (iI 1)), (0, .ref (am 0)), (1, .int (iI x))]) S.1 S.2.1 dX9_writeInt_1 rfl hl (by decide) rfl (fun ls hl => ?_)
  refine lv_iload_n S.1 S.2.1 dX9_writeInt_2 rfl (lv_at hl 2 rfl) ?_
  refine lv_iload_n S.1 S.2.1 dX9_writeInt_3 rfl (lv_at hl 0 rfl) ?_
  refine g_idiv S dX9_writeInt_4 (by omega) (by omega) rfl ?_
  refine g_bipush S dX9_writeInt_5 (by decide) ?_
  refine g_icmp_lt (tgt := 18) S dX9_writeInt_7 (by decide) (by omega) (by omega) (fun q7 => ?_) (fun q7 => ?_)
  · skip
    refine lv_iload_n S.1 S.2.1 dX9_writeInt_18 rfl (lv_at hl 0 rfl) ?_
    refine lv_istore_n (lv' := [(3, .int (iI 1)), (2, .int (iI 1)), (0, .ref (am 0)), (1, .int (iI x))]) S.1 S.2.1 dX9_writeInt_19 rfl hl (by decide) rfl (fun ls hl => ?_)
    refine lv_iload_n S.1 S.2.1 dX9_writeInt_20 rfl (lv_at hl 0 rfl) ?_
    refine g_if_le (tgt := 45) S dX9_writeInt_21 (by decide) (by omega) (fun q21 => ?_) (fun q21 => ?_)
    · skip
      exact absurd q21 (by decide)
    · skip
      refine lv_aload_n S.1 S.2.1 dX9_writeInt_24 rfl (lv_at hl 2 rfl) ?_
      refine g_bipush S dX9_writeInt_25 (by decide) ?_
      refine lv_iload_n S.1 S.2.1 dX9_writeInt_27 rfl (lv_at hl 3 rfl) ?_
      refine lv_iload_n S.1 S.2.1 dX9_writeInt_28 rfl (lv_at hl 0 rfl) ?_
      refine g_idiv S dX9_writeInt_29 (by omega) (by omega) rfl ?_
      refine g_bipush S dX9_writeInt_30 (by decide) ?_
      refine g_irem S dX9_writeInt_32 (by omega) (by omega) rfl ?_
      refine g_iadd S dX9_writeInt_33 rfl ?_
      refine g_invVv (As := [.int (iI (48 + ((x / 1) % 10)))]) (rest := []) (gs' := (fun u : Unit => [gMdl K am th rw lg mr en pw sl ly dn iz tz nx st tk vl ef ep hO hB ol rm (oz + 1), gArrB K 200 (am 19) (upI OF oz (48 + ((x / 1) % 10)))])) S C hG [0, 1] (c_X9_write l K am th rw lg mr en pw sl ly dn iz tz nx st tk vl ef ep hO hB ol rm oz OF (48 + ((x / 1) % 10)) (by omega)) rfl rfl 0 rfl rfl (cwV 1 S.2.2.2.2 gX9_writeInt_X9_write rfl rfl rfl (by decide +kernel) ⟨Nat.le_of_ble_eq_true rfl, Nat.le_of_ble_eq_true rfl⟩) rfl hl.1 rfl (Nat.le_of_ble_eq_true rfl) dX9_writeInt_34 ⟨Nat.le_of_ble_eq_true rfl, Nat.le_of_ble_eq_true rfl⟩ (fun _ => Nat.le_of_ble_eq_true rfl) (fun _ => rfl) (fun u H locs hp hG => ?_)
      refine lv_iload_n S.1 S.2.1 dX9_writeInt_37 rfl (lv_at hl 0 rfl) ?_
      refine g_bipush S dX9_writeInt_38 (by decide) ?_
      refine g_idiv (z := 0) S dX9_writeInt_40 (by omega) (by omega) (by decide) ?_
      refine lv_istore_n (lv' := [(3, .int (iI 0)), (2, .int (iI 1)), (0, .ref (am 0)), (1, .int (iI x))]) S.1 S.2.1 dX9_writeInt_41 rfl hl (by decide) rfl (fun ls hl => ?_)
      refine lv_goto (tgt := 20) S.1 S.2.1 dX9_writeInt_42 (by decide) ?_
      refine lv_iload_n S.1 S.2.1 dX9_writeInt_20 rfl (lv_at hl 0 rfl) ?_
      refine g_if_le (tgt := 45) S dX9_writeInt_21 (by decide) (by omega) (fun q21 => ?_) (fun q21 => ?_)
      · skip
        have hG : gW K A s.heap [gMdl K am th rw lg mr en pw sl ly dn iz tz nx st tk vl ef ep hO hB ol rm (oz + 1), gArrB K 200 (am 19) (upI OF oz (48 + ((x / 1) % 10)))] _ _ := hG
        exact g_vret S hr hlk hQ dX9_writeInt_45 (Nat.le_of_ble_eq_true rfl) (Nat.le_of_ble_eq_true rfl) ((upI OF oz (48 + ((x / 1) % 10)), oz + 1) : (Int → Int) × Int) ⟨(by show ∀ j : Int, _ = _; intro j; simp only [upI, dgs, dgt]; (repeat' split) <;> first | rfl | omega), (by show _ = _ <;> unfold dgs <;> (repeat' split) <;> omega)⟩ hG
      · skip
        exact absurd q21 (by decide)
  · skip
    refine lv_iload_n S.1 S.2.1 dX9_writeInt_10 rfl (lv_at hl 0 rfl) ?_
    refine g_bipush S dX9_writeInt_11 (by decide) ?_
    refine g_imul (z := 10) S dX9_writeInt_13 (by decide) ?_
    refine lv_istore_n (lv' := [(2, .int (iI 10)), (0, .ref (am 0)), (1, .int (iI x))]) S.1 S.2.1 dX9_writeInt_14 rfl hl (by decide) rfl (fun ls hl => ?_)
    refine lv_goto (tgt := 2) S.1 S.2.1 dX9_writeInt_15 (by decide) ?_
    refine lv_iload_n S.1 S.2.1 dX9_writeInt_2 rfl (lv_at hl 2 rfl) ?_
    refine lv_iload_n S.1 S.2.1 dX9_writeInt_3 rfl (lv_at hl 0 rfl) ?_
    refine g_idiv S dX9_writeInt_4 (by omega) (by omega) rfl ?_
    refine g_bipush S dX9_writeInt_5 (by decide) ?_
    refine g_icmp_lt (tgt := 18) S dX9_writeInt_7 (by decide) (by omega) (by omega) (fun q7 => ?_) (fun q7 => ?_)
    · skip
      refine lv_iload_n S.1 S.2.1 dX9_writeInt_18 rfl (lv_at hl 0 rfl) ?_
      refine lv_istore_n (lv' := [(3, .int (iI 10)), (2, .int (iI 10)), (0, .ref (am 0)), (1, .int (iI x))]) S.1 S.2.1 dX9_writeInt_19 rfl hl (by decide) rfl (fun ls hl => ?_)
      refine lv_iload_n S.1 S.2.1 dX9_writeInt_20 rfl (lv_at hl 0 rfl) ?_
      refine g_if_le (tgt := 45) S dX9_writeInt_21 (by decide) (by omega) (fun q21 => ?_) (fun q21 => ?_)
      · skip
        exact absurd q21 (by decide)
      · skip
        refine lv_aload_n S.1 S.2.1 dX9_writeInt_24 rfl (lv_at hl 2 rfl) ?_
        refine g_bipush S dX9_writeInt_25 (by decide) ?_
        refine lv_iload_n S.1 S.2.1 dX9_writeInt_27 rfl (lv_at hl 3 rfl) ?_
        refine lv_iload_n S.1 S.2.1 dX9_writeInt_28 rfl (lv_at hl 0 rfl) ?_
        refine g_idiv S dX9_writeInt_29 (by omega) (by omega) rfl ?_
        refine g_bipush S dX9_writeInt_30 (by decide) ?_
        refine g_irem S dX9_writeInt_32 (by omega) (by omega) rfl ?_
        refine g_iadd S dX9_writeInt_33 rfl ?_
        refine g_invVv (As := [.int (iI (48 + ((x / 10) % 10)))]) (rest := []) (gs' := (fun u : Unit => [gMdl K am th rw lg mr en pw sl ly dn iz tz nx st tk vl ef ep hO hB ol rm (oz + 1), gArrB K 200 (am 19) (upI OF oz (48 + ((x / 10) % 10)))])) S C hG [0, 1] (c_X9_write l K am th rw lg mr en pw sl ly dn iz tz nx st tk vl ef ep hO hB ol rm oz OF (48 + ((x / 10) % 10)) (by omega)) rfl rfl 0 rfl rfl (cwV 1 S.2.2.2.2 gX9_writeInt_X9_write rfl rfl rfl (by decide +kernel) ⟨Nat.le_of_ble_eq_true rfl, Nat.le_of_ble_eq_true rfl⟩) rfl hl.1 rfl (Nat.le_of_ble_eq_true rfl) dX9_writeInt_34 ⟨Nat.le_of_ble_eq_true rfl, Nat.le_of_ble_eq_true rfl⟩ (fun _ => Nat.le_of_ble_eq_true rfl) (fun _ => rfl) (fun u H locs hp hG => ?_)
        refine lv_iload_n S.1 S.2.1 dX9_writeInt_37 rfl (lv_at hl 0 rfl) ?_
        refine g_bipush S dX9_writeInt_38 (by decide) ?_
        refine g_idiv (z := 1) S dX9_writeInt_40 (by omega) (by omega) (by decide) ?_
        refine lv_istore_n (lv' := [(3, .int (iI 1)), (2, .int (iI 10)), (0, .ref (am 0)), (1, .int (iI x))]) S.1 S.2.1 dX9_writeInt_41 rfl hl (by decide) rfl (fun ls hl => ?_)
        refine lv_goto (tgt := 20) S.1 S.2.1 dX9_writeInt_42 (by decide) ?_
        refine lv_iload_n S.1 S.2.1 dX9_writeInt_20 rfl (lv_at hl 0 rfl) ?_
        refine g_if_le (tgt := 45) S dX9_writeInt_21 (by decide) (by omega) (fun q21 => ?_) (fun q21 => ?_)
        · skip
          exact absurd q21 (by decide)
        · skip
          refine lv_aload_n S.1 S.2.1 dX9_writeInt_24 rfl (lv_at hl 2 rfl) ?_
          refine g_bipush S dX9_writeInt_25 (by decide) ?_
          refine lv_iload_n S.1 S.2.1 dX9_writeInt_27 rfl (lv_at hl 3 rfl) ?_
          refine lv_iload_n S.1 S.2.1 dX9_writeInt_28 rfl (lv_at hl 0 rfl) ?_
          refine g_idiv S dX9_writeInt_29 (by omega) (by omega) rfl ?_
          refine g_bipush S dX9_writeInt_30 (by decide) ?_
          refine g_irem S dX9_writeInt_32 (by omega) (by omega) rfl ?_
          refine g_iadd S dX9_writeInt_33 rfl ?_
          refine g_invVv (As := [.int (iI (48 + ((x / 1) % 10)))]) (rest := []) (gs' := (fun u : Unit => [gMdl K am th rw lg mr en pw sl ly dn iz tz nx st tk vl ef ep hO hB ol rm ((oz + 1) + 1), gArrB K 200 (am 19) (upI (upI OF oz (48 + ((x / 10) % 10))) (oz + 1) (48 + ((x / 1) % 10)))])) S C hG [0, 1] (c_X9_write l K am th rw lg mr en pw sl ly dn iz tz nx st tk vl ef ep hO hB ol rm (oz + 1) (upI OF oz (48 + ((x / 10) % 10))) (48 + ((x / 1) % 10)) (by omega)) rfl rfl 0 rfl rfl (cwV 1 S.2.2.2.2 gX9_writeInt_X9_write rfl rfl rfl (by decide +kernel) ⟨Nat.le_of_ble_eq_true rfl, Nat.le_of_ble_eq_true rfl⟩) rfl hl.1 rfl (Nat.le_of_ble_eq_true rfl) dX9_writeInt_34 ⟨Nat.le_of_ble_eq_true rfl, Nat.le_of_ble_eq_true rfl⟩ (fun _ => Nat.le_of_ble_eq_true rfl) (fun _ => rfl) (fun u H locs hp hG => ?_)
          refine lv_iload_n S.1 S.2.1 dX9_writeInt_37 rfl (lv_at hl 0 rfl) ?_
          refine g_bipush S dX9_writeInt_38 (by decide) ?_
          refine g_idiv (z := 0) S dX9_writeInt_40 (by omega) (by omega) (by decide) ?_
          refine lv_istore_n (lv' := [(3, .int (iI 0)), (2, .int (iI 10)), (0, .ref (am 0)), (1, .int (iI x))]) S.1 S.2.1 dX9_writeInt_41 rfl hl (by decide) rfl (fun ls hl => ?_)
          refine lv_goto (tgt := 20) S.1 S.2.1 dX9_writeInt_42 (by decide) ?_
          refine lv_iload_n S.1 S.2.1 dX9_writeInt_20 rfl (lv_at hl 0 rfl) ?_
          refine g_if_le (tgt := 45) S dX9_writeInt_21 (by decide) (by omega) (fun q21 => ?_) (fun q21 => ?_)
          · skip
            have hG : gW K A s.heap [gMdl K am th rw lg mr en pw sl ly dn iz tz nx st tk vl ef ep hO hB ol rm ((oz + 1) + 1), gArrB K 200 (am 19) (upI (upI OF oz (48 + ((x / 10) % 10))) (oz + 1) (48 + ((x / 1) % 10)))] _ _ := hG
            exact g_vret S hr hlk hQ dX9_writeInt_45 (Nat.le_of_ble_eq_true rfl) (Nat.le_of_ble_eq_true rfl) ((upI (upI OF oz (48 + ((x / 10) % 10))) (oz + 1) (48 + ((x / 1) % 10)), (oz + 1) + 1) : (Int → Int) × Int) ⟨(by show ∀ j : Int, _ = _; intro j; simp only [upI, dgs, dgt]; (repeat' split) <;> first | rfl | omega), (by show _ = _ <;> unfold dgs <;> (repeat' split) <;> omega)⟩ hG
          · skip
            exact absurd q21 (by decide)
    · skip
      refine lv_iload_n S.1 S.2.1 dX9_writeInt_10 rfl (lv_at hl 0 rfl) ?_
      refine g_bipush S dX9_writeInt_11 (by decide) ?_
      refine g_imul (z := 100) S dX9_writeInt_13 (by decide) ?_
      refine lv_istore_n (lv' := [(2, .int (iI 100)), (0, .ref (am 0)), (1, .int (iI x))]) S.1 S.2.1 dX9_writeInt_14 rfl hl (by decide) rfl (fun ls hl => ?_)
      refine lv_goto (tgt := 2) S.1 S.2.1 dX9_writeInt_15 (by decide) ?_
      refine lv_iload_n S.1 S.2.1 dX9_writeInt_2 rfl (lv_at hl 2 rfl) ?_
      refine lv_iload_n S.1 S.2.1 dX9_writeInt_3 rfl (lv_at hl 0 rfl) ?_
      refine g_idiv S dX9_writeInt_4 (by omega) (by omega) rfl ?_
      refine g_bipush S dX9_writeInt_5 (by decide) ?_
      refine g_icmp_lt (tgt := 18) S dX9_writeInt_7 (by decide) (by omega) (by omega) (fun q7 => ?_) (fun q7 => ?_)
      · skip
        refine lv_iload_n S.1 S.2.1 dX9_writeInt_18 rfl (lv_at hl 0 rfl) ?_
        refine lv_istore_n (lv' := [(3, .int (iI 100)), (2, .int (iI 100)), (0, .ref (am 0)), (1, .int (iI x))]) S.1 S.2.1 dX9_writeInt_19 rfl hl (by decide) rfl (fun ls hl => ?_)
        refine lv_iload_n S.1 S.2.1 dX9_writeInt_20 rfl (lv_at hl 0 rfl) ?_
        refine g_if_le (tgt := 45) S dX9_writeInt_21 (by decide) (by omega) (fun q21 => ?_) (fun q21 => ?_)
        · skip
          exact absurd q21 (by decide)
        · skip
          refine lv_aload_n S.1 S.2.1 dX9_writeInt_24 rfl (lv_at hl 2 rfl) ?_
          refine g_bipush S dX9_writeInt_25 (by decide) ?_
          refine lv_iload_n S.1 S.2.1 dX9_writeInt_27 rfl (lv_at hl 3 rfl) ?_
          refine lv_iload_n S.1 S.2.1 dX9_writeInt_28 rfl (lv_at hl 0 rfl) ?_
          refine g_idiv S dX9_writeInt_29 (by omega) (by omega) rfl ?_
          refine g_bipush S dX9_writeInt_30 (by decide) ?_
          refine g_irem S dX9_writeInt_32 (by omega) (by omega) rfl ?_
          refine g_iadd S dX9_writeInt_33 rfl ?_
          refine g_invVv (As := [.int (iI (48 + ((x / 100) % 10)))]) (rest := []) (gs' := (fun u : Unit => [gMdl K am th rw lg mr en pw sl ly dn iz tz nx st tk vl ef ep hO hB ol rm (oz + 1), gArrB K 200 (am 19) (upI OF oz (48 + ((x / 100) % 10)))])) S C hG [0, 1] (c_X9_write l K am th rw lg mr en pw sl ly dn iz tz nx st tk vl ef ep hO hB ol rm oz OF (48 + ((x / 100) % 10)) (by omega)) rfl rfl 0 rfl rfl (cwV 1 S.2.2.2.2 gX9_writeInt_X9_write rfl rfl rfl (by decide +kernel) ⟨Nat.le_of_ble_eq_true rfl, Nat.le_of_ble_eq_true rfl⟩) rfl hl.1 rfl (Nat.le_of_ble_eq_true rfl) dX9_writeInt_34 ⟨Nat.le_of_ble_eq_true rfl, Nat.le_of_ble_eq_true rfl⟩ (fun _ => Nat.le_of_ble_eq_true rfl) (fun _ => rfl) (fun u H locs hp hG => ?_)
          refine lv_iload_n S.1 S.2.1 dX9_writeInt_37 rfl (lv_at hl 0 rfl) ?_
          refine g_bipush S dX9_writeInt_38 (by decide) ?_
          refine g_idiv (z := 10) S dX9_writeInt_40 (by omega) (by omega) (by decide) ?_
          refine lv_istore_n (lv' := [(3, .int (iI 10)), (2, .int (iI 100)), (0, .ref (am 0)), (1, .int (iI x))]) S.1 S.2.1 dX9_writeInt_41 rfl hl (by decide) rfl (fun ls hl => ?_)
          refine lv_goto (tgt := 20) S.1 S.2.1 dX9_writeInt_42 (by decide) ?_
          refine lv_iload_n S.1 S.2.1 dX9_writeInt_20 rfl (lv_at hl 0 rfl) ?_
          refine g_if_le (tgt := 45) S dX9_writeInt_21 (by decide) (by omega) (fun q21 => ?_) (fun q21 => ?_)
          · skip
            exact absurd q21 (by decide)
          · skip
            refine lv_aload_n S.1 S.2.1 dX9_writeInt_24 rfl (lv_at hl 2 rfl) ?_
            refine g_bipush S dX9_writeInt_25 (by decide) ?_
            refine lv_iload_n S.1 S.2.1 dX9_writeInt_27 rfl (lv_at hl 3 rfl) ?_
            refine lv_iload_n S.1 S.2.1 dX9_writeInt_28 rfl (lv_at hl 0 rfl) ?_
            refine g_idiv S dX9_writeInt_29 (by omega) (by omega) rfl ?_
            refine g_bipush S dX9_writeInt_30 (by decide) ?_
            refine g_irem S dX9_writeInt_32 (by omega) (by omega) rfl ?_
            refine g_iadd S dX9_writeInt_33 rfl ?_
            refine g_invVv (As := [.int (iI (48 + ((x / 10) % 10)))]) (rest := []) (gs' := (fun u : Unit => [gMdl K am th rw lg mr en pw sl ly dn iz tz nx st tk vl ef ep hO hB ol rm ((oz + 1) + 1), gArrB K 200 (am 19) (upI (upI OF oz (48 + ((x / 100) % 10))) (oz + 1) (48 + ((x / 10) % 10)))])) S C hG [0, 1] (c_X9_write l K am th rw lg mr en pw sl ly dn iz tz nx st tk vl ef ep hO hB ol rm (oz + 1) (upI OF oz (48 + ((x / 100) % 10))) (48 + ((x / 10) % 10)) (by omega)) rfl rfl 0 rfl rfl (cwV 1 S.2.2.2.2 gX9_writeInt_X9_write rfl rfl rfl (by decide +kernel) ⟨Nat.le_of_ble_eq_true rfl, Nat.le_of_ble_eq_true rfl⟩) rfl hl.1 rfl (Nat.le_of_ble_eq_true rfl) dX9_writeInt_34 ⟨Nat.le_of_ble_eq_true rfl, Nat.le_of_ble_eq_true rfl⟩ (fun _ => Nat.le_of_ble_eq_true rfl) (fun _ => rfl) (fun u H locs hp hG => ?_)
            refine lv_iload_n S.1 S.2.1 dX9_writeInt_37 rfl (lv_at hl 0 rfl) ?_
            refine g_bipush S dX9_writeInt_38 (by decide) ?_
            refine g_idiv (z := 1) S dX9_writeInt_40 (by omega) (by omega) (by decide) ?_
            refine lv_istore_n (lv' := [(3, .int (iI 1)), (2, .int (iI 100)), (0, .ref (am 0)), (1, .int (iI x))]) S.1 S.2.1 dX9_writeInt_41 rfl hl (by decide) rfl (fun ls hl => ?_)
            refine lv_goto (tgt := 20) S.1 S.2.1 dX9_writeInt_42 (by decide) ?_
            refine lv_iload_n S.1 S.2.1 dX9_writeInt_20 rfl (lv_at hl 0 rfl) ?_
            refine g_if_le (tgt := 45) S dX9_writeInt_21 (by decide) (by omega) (fun q21 => ?_) (fun q21 => ?_)
            · skip
              exact absurd q21 (by decide)
            · skip
              refine lv_aload_n S.1 S.2.1 dX9_writeInt_24 rfl (lv_at hl 2 rfl) ?_
              refine g_bipush S dX9_writeInt_25 (by decide) ?_
              refine lv_iload_n S.1 S.2.1 dX9_writeInt_27 rfl (lv_at hl 3 rfl) ?_
              refine lv_iload_n S.1 S.2.1 dX9_writeInt_28 rfl (lv_at hl 0 rfl) ?_
              refine g_idiv S dX9_writeInt_29 (by omega) (by omega) rfl ?_
              refine g_bipush S dX9_writeInt_30 (by decide) ?_
              refine g_irem S dX9_writeInt_32 (by omega) (by omega) rfl ?_
              refine g_iadd S dX9_writeInt_33 rfl ?_
              refine g_invVv (As := [.int (iI (48 + ((x / 1) % 10)))]) (rest := []) (gs' := (fun u : Unit => [gMdl K am th rw lg mr en pw sl ly dn iz tz nx st tk vl ef ep hO hB ol rm (((oz + 1) + 1) + 1), gArrB K 200 (am 19) (upI (upI (upI OF oz (48 + ((x / 100) % 10))) (oz + 1) (48 + ((x / 10) % 10))) ((oz + 1) + 1) (48 + ((x / 1) % 10)))])) S C hG [0, 1] (c_X9_write l K am th rw lg mr en pw sl ly dn iz tz nx st tk vl ef ep hO hB ol rm ((oz + 1) + 1) (upI (upI OF oz (48 + ((x / 100) % 10))) (oz + 1) (48 + ((x / 10) % 10))) (48 + ((x / 1) % 10)) (by omega)) rfl rfl 0 rfl rfl (cwV 1 S.2.2.2.2 gX9_writeInt_X9_write rfl rfl rfl (by decide +kernel) ⟨Nat.le_of_ble_eq_true rfl, Nat.le_of_ble_eq_true rfl⟩) rfl hl.1 rfl (Nat.le_of_ble_eq_true rfl) dX9_writeInt_34 ⟨Nat.le_of_ble_eq_true rfl, Nat.le_of_ble_eq_true rfl⟩ (fun _ => Nat.le_of_ble_eq_true rfl) (fun _ => rfl) (fun u H locs hp hG => ?_)
              refine lv_iload_n S.1 S.2.1 dX9_writeInt_37 rfl (lv_at hl 0 rfl) ?_
              refine g_bipush S dX9_writeInt_38 (by decide) ?_
              refine g_idiv (z := 0) S dX9_writeInt_40 (by omega) (by omega) (by decide) ?_
              refine lv_istore_n (lv' := [(3, .int (iI 0)), (2, .int (iI 100)), (0, .ref (am 0)), (1, .int (iI x))]) S.1 S.2.1 dX9_writeInt_41 rfl hl (by decide) rfl (fun ls hl => ?_)
              refine lv_goto (tgt := 20) S.1 S.2.1 dX9_writeInt_42 (by decide) ?_
              refine lv_iload_n S.1 S.2.1 dX9_writeInt_20 rfl (lv_at hl 0 rfl) ?_
              refine g_if_le (tgt := 45) S dX9_writeInt_21 (by decide) (by omega) (fun q21 => ?_) (fun q21 => ?_)
              · skip
                have hG : gW K A s.heap [gMdl K am th rw lg mr en pw sl ly dn iz tz nx st tk vl ef ep hO hB ol rm (((oz + 1) + 1) + 1), gArrB K 200 (am 19) (upI (upI (upI OF oz (48 + ((x / 100) % 10))) (oz + 1) (48 + ((x / 10) % 10))) ((oz + 1) + 1) (48 + ((x / 1) % 10)))] _ _ := hG
                exact g_vret S hr hlk hQ dX9_writeInt_45 (Nat.le_of_ble_eq_true rfl) (Nat.le_of_ble_eq_true rfl) ((upI (upI (upI OF oz (48 + ((x / 100) % 10))) (oz + 1) (48 + ((x / 10) % 10))) ((oz + 1) + 1) (48 + ((x / 1) % 10)), ((oz + 1) + 1) + 1) : (Int → Int) × Int) ⟨(by show ∀ j : Int, _ = _; intro j; simp only [upI, dgs, dgt]; (repeat' split) <;> first | rfl | omega), (by show _ = _ <;> unfold dgs <;> (repeat' split) <;> omega)⟩ hG
              · skip
                exact absurd q21 (by decide)
      · skip
        refine lv_iload_n S.1 S.2.1 dX9_writeInt_10 rfl (lv_at hl 0 rfl) ?_
        refine g_bipush S dX9_writeInt_11 (by decide) ?_
        refine g_imul (z := 1000) S dX9_writeInt_13 (by decide) ?_
        refine lv_istore_n (lv' := [(2, .int (iI 1000)), (0, .ref (am 0)), (1, .int (iI x))]) S.1 S.2.1 dX9_writeInt_14 rfl hl (by decide) rfl (fun ls hl => ?_)
        refine lv_goto (tgt := 2) S.1 S.2.1 dX9_writeInt_15 (by decide) ?_
        refine lv_iload_n S.1 S.2.1 dX9_writeInt_2 rfl (lv_at hl 2 rfl) ?_
        refine lv_iload_n S.1 S.2.1 dX9_writeInt_3 rfl (lv_at hl 0 rfl) ?_
        refine g_idiv S dX9_writeInt_4 (by omega) (by omega) rfl ?_
        refine g_bipush S dX9_writeInt_5 (by decide) ?_
        refine g_icmp_lt (tgt := 18) S dX9_writeInt_7 (by decide) (by omega) (by omega) (fun q7 => ?_) (fun q7 => ?_)
        · skip
          refine lv_iload_n S.1 S.2.1 dX9_writeInt_18 rfl (lv_at hl 0 rfl) ?_
          refine lv_istore_n (lv' := [(3, .int (iI 1000)), (2, .int (iI 1000)), (0, .ref (am 0)), (1, .int (iI x))]) S.1 S.2.1 dX9_writeInt_19 rfl hl (by decide) rfl (fun ls hl => ?_)
          refine lv_iload_n S.1 S.2.1 dX9_writeInt_20 rfl (lv_at hl 0 rfl) ?_
          refine g_if_le (tgt := 45) S dX9_writeInt_21 (by decide) (by omega) (fun q21 => ?_) (fun q21 => ?_)
          · skip
            exact absurd q21 (by decide)
          · skip
            refine lv_aload_n S.1 S.2.1 dX9_writeInt_24 rfl (lv_at hl 2 rfl) ?_
            refine g_bipush S dX9_writeInt_25 (by decide) ?_
            refine lv_iload_n S.1 S.2.1 dX9_writeInt_27 rfl (lv_at hl 3 rfl) ?_
            refine lv_iload_n S.1 S.2.1 dX9_writeInt_28 rfl (lv_at hl 0 rfl) ?_
            refine g_idiv S dX9_writeInt_29 (by omega) (by omega) rfl ?_
            refine g_bipush S dX9_writeInt_30 (by decide) ?_
            refine g_irem S dX9_writeInt_32 (by omega) (by omega) rfl ?_
            refine g_iadd S dX9_writeInt_33 rfl ?_
            refine g_invVv (As := [.int (iI (48 + ((x / 1000) % 10)))]) (rest := []) (gs' := (fun u : Unit => [gMdl K am th rw lg mr en pw sl ly dn iz tz nx st tk vl ef ep hO hB ol rm (oz + 1), gArrB K 200 (am 19) (upI OF oz (48 + ((x / 1000) % 10)))])) S C hG [0, 1] (c_X9_write l K am th rw lg mr en pw sl ly dn iz tz nx st tk vl ef ep hO hB ol rm oz OF (48 + ((x / 1000) % 10)) (by omega)) rfl rfl 0 rfl rfl (cwV 1 S.2.2.2.2 gX9_writeInt_X9_write rfl rfl rfl (by decide +kernel) ⟨Nat.le_of_ble_eq_true rfl, Nat.le_of_ble_eq_true rfl⟩) rfl hl.1 rfl (Nat.le_of_ble_eq_true rfl) dX9_writeInt_34 ⟨Nat.le_of_ble_eq_true rfl, Nat.le_of_ble_eq_true rfl⟩ (fun _ => Nat.le_of_ble_eq_true rfl) (fun _ => rfl) (fun u H locs hp hG => ?_)
            refine lv_iload_n S.1 S.2.1 dX9_writeInt_37 rfl (lv_at hl 0 rfl) ?_
            refine g_bipush S dX9_writeInt_38 (by decide) ?_
            refine g_idiv (z := 100) S dX9_writeInt_40 (by omega) (by omega) (by decide) ?_
            refine lv_istore_n (lv' := [(3, .int (iI 100)), (2, .int (iI 1000)), (0, .ref (am 0)), (1, .int (iI x))]) S.1 S.2.1 dX9_writeInt_41 rfl hl (by decide) rfl (fun ls hl => ?_)
            refine lv_goto (tgt := 20) S.1 S.2.1 dX9_writeInt_42 (by decide) ?_
            refine lv_iload_n S.1 S.2.1 dX9_writeInt_20 rfl (lv_at hl 0 rfl) ?_
            refine g_if_le (tgt := 45) S dX9_writeInt_21 (by decide) (by omega) (fun q21 => ?_) (fun q21 => ?_)
            · skip
              exact absurd q21 (by decide)
            · skip
              refine lv_aload_n S.1 S.2.1 dX9_writeInt_24 rfl (lv_at hl 2 rfl) ?_
              refine g_bipush S dX9_writeInt_25 (by decide) ?_
              refine lv_iload_n S.1 S.2.1 dX9_writeInt_27 rfl (lv_at hl 3 rfl) ?_
              refine lv_iload_n S.1 S.2.1 dX9_writeInt_28 rfl (lv_at hl 0 rfl) ?_
              refine g_idiv S dX9_writeInt_29 (by omega) (by omega) rfl ?_
              refine g_bipush S dX9_writeInt_30 (by decide) ?_
              refine g_irem S dX9_writeInt_32 (by omega) (by omega) rfl ?_
              refine g_iadd S dX9_writeInt_33 rfl ?_
              refine g_invVv (As := [.int (iI (48 + ((x / 100) % 10)))]) (rest := []) (gs' := (fun u : Unit => [gMdl K am th rw lg mr en pw sl ly dn iz tz nx st tk vl ef ep hO hB ol rm ((oz + 1) + 1), gArrB K 200 (am 19) (upI (upI OF oz (48 + ((x / 1000) % 10))) (oz + 1) (48 + ((x / 100) % 10)))])) S C hG [0, 1] (c_X9_write l K am th rw lg mr en pw sl ly dn iz tz nx st tk vl ef ep hO hB ol rm (oz + 1) (upI OF oz (48 + ((x / 1000) % 10))) (48 + ((x / 100) % 10)) (by omega)) rfl rfl 0 rfl rfl (cwV 1 S.2.2.2.2 gX9_writeInt_X9_write rfl rfl rfl (by decide +kernel) ⟨Nat.le_of_ble_eq_true rfl, Nat.le_of_ble_eq_true rfl⟩) rfl hl.1 rfl (Nat.le_of_ble_eq_true rfl) dX9_writeInt_34 ⟨Nat.le_of_ble_eq_true rfl, Nat.le_of_ble_eq_true rfl⟩ (fun _ => Nat.le_of_ble_eq_true rfl) (fun _ => rfl) (fun u H locs hp hG => ?_)
              refine lv_iload_n S.1 S.2.1 dX9_writeInt_37 rfl (lv_at hl 0 rfl) ?_
              refine g_bipush S dX9_writeInt_38 (by decide) ?_
              refine g_idiv (z := 10) S dX9_writeInt_40 (by omega) (by omega) (by decide) ?_
              refine lv_istore_n (lv' := [(3, .int (iI 10)), (2, .int (iI 1000)), (0, .ref (am 0)), (1, .int (iI x))]) S.1 S.2.1 dX9_writeInt_41 rfl hl (by decide) rfl (fun ls hl => ?_)
              refine lv_goto (tgt := 20) S.1 S.2.1 dX9_writeInt_42 (by decide) ?_
              refine lv_iload_n S.1 S.2.1 dX9_writeInt_20 rfl (lv_at hl 0 rfl) ?_
              refine g_if_le (tgt := 45) S dX9_writeInt_21 (by decide) (by omega) (fun q21 => ?_) (fun q21 => ?_)
              · skip
                exact absurd q21 (by decide)
              · skip
                refine lv_aload_n S.1 S.2.1 dX9_writeInt_24 rfl (lv_at hl 2 rfl) ?_
                refine g_bipush S dX9_writeInt_25 (by decide) ?_
                refine lv_iload_n S.1 S.2.1 dX9_writeInt_27 rfl (lv_at hl 3 rfl) ?_
                refine lv_iload_n S.1 S.2.1 dX9_writeInt_28 rfl (lv_at hl 0 rfl) ?_
                refine g_idiv S dX9_writeInt_29 (by omega) (by omega) rfl ?_
                refine g_bipush S dX9_writeInt_30 (by decide) ?_
                refine g_irem S dX9_writeInt_32 (by omega) (by omega) rfl ?_
                refine g_iadd S dX9_writeInt_33 rfl ?_
                refine g_invVv (As := [.int (iI (48 + ((x / 10) % 10)))]) (rest := []) (gs' := (fun u : Unit => [gMdl K am th rw lg mr en pw sl ly dn iz tz nx st tk vl ef ep hO hB ol rm (((oz + 1) + 1) + 1), gArrB K 200 (am 19) (upI (upI (upI OF oz (48 + ((x / 1000) % 10))) (oz + 1) (48 + ((x / 100) % 10))) ((oz + 1) + 1) (48 + ((x / 10) % 10)))])) S C hG [0, 1] (c_X9_write l K am th rw lg mr en pw sl ly dn iz tz nx st tk vl ef ep hO hB ol rm ((oz + 1) + 1) (upI (upI OF oz (48 + ((x / 1000) % 10))) (oz + 1) (48 + ((x / 100) % 10))) (48 + ((x / 10) % 10)) (by omega)) rfl rfl 0 rfl rfl (cwV 1 S.2.2.2.2 gX9_writeInt_X9_write rfl rfl rfl (by decide +kernel) ⟨Nat.le_of_ble_eq_true rfl, Nat.le_of_ble_eq_true rfl⟩) rfl hl.1 rfl (Nat.le_of_ble_eq_true rfl) dX9_writeInt_34 ⟨Nat.le_of_ble_eq_true rfl, Nat.le_of_ble_eq_true rfl⟩ (fun _ => Nat.le_of_ble_eq_true rfl) (fun _ => rfl) (fun u H locs hp hG => ?_)
                refine lv_iload_n S.1 S.2.1 dX9_writeInt_37 rfl (lv_at hl 0 rfl) ?_
                refine g_bipush S dX9_writeInt_38 (by decide) ?_
                refine g_idiv (z := 1) S dX9_writeInt_40 (by omega) (by omega) (by decide) ?_
                refine lv_istore_n (lv' := [(3, .int (iI 1)), (2, .int (iI 1000)), (0, .ref (am 0)), (1, .int (iI x))]) S.1 S.2.1 dX9_writeInt_41 rfl hl (by decide) rfl (fun ls hl => ?_)
                refine lv_goto (tgt := 20) S.1 S.2.1 dX9_writeInt_42 (by decide) ?_
                refine lv_iload_n S.1 S.2.1 dX9_writeInt_20 rfl (lv_at hl 0 rfl) ?_
                refine g_if_le (tgt := 45) S dX9_writeInt_21 (by decide) (by omega) (fun q21 => ?_) (fun q21 => ?_)
                · skip
                  exact absurd q21 (by decide)
                · skip
                  refine lv_aload_n S.1 S.2.1 dX9_writeInt_24 rfl (lv_at hl 2 rfl) ?_
                  refine g_bipush S dX9_writeInt_25 (by decide) ?_
                  refine lv_iload_n S.1 S.2.1 dX9_writeInt_27 rfl (lv_at hl 3 rfl) ?_
                  refine lv_iload_n S.1 S.2.1 dX9_writeInt_28 rfl (lv_at hl 0 rfl) ?_
                  refine g_idiv S dX9_writeInt_29 (by omega) (by omega) rfl ?_
                  refine g_bipush S dX9_writeInt_30 (by decide) ?_
                  refine g_irem S dX9_writeInt_32 (by omega) (by omega) rfl ?_
                  refine g_iadd S dX9_writeInt_33 rfl ?_
                  refine g_invVv (As := [.int (iI (48 + ((x / 1) % 10)))]) (rest := []) (gs' := (fun u : Unit => [gMdl K am th rw lg mr en pw sl ly dn iz tz nx st tk vl ef ep hO hB ol rm ((((oz + 1) + 1) + 1) + 1), gArrB K 200 (am 19) (upI (upI (upI (upI OF oz (48 + ((x / 1000) % 10))) (oz + 1) (48 + ((x / 100) % 10))) ((oz + 1) + 1) (48 + ((x / 10) % 10))) (((oz + 1) + 1) + 1) (48 + ((x / 1) % 10)))])) S C hG [0, 1] (c_X9_write l K am th rw lg mr en pw sl ly dn iz tz nx st tk vl ef ep hO hB ol rm (((oz + 1) + 1) + 1) (upI (upI (upI OF oz (48 + ((x / 1000) % 10))) (oz + 1) (48 + ((x / 100) % 10))) ((oz + 1) + 1) (48 + ((x / 10) % 10))) (48 + ((x / 1) % 10)) (by omega)) rfl rfl 0 rfl rfl (cwV 1 S.2.2.2.2 gX9_writeInt_X9_write rfl rfl rfl (by decide +kernel) ⟨Nat.le_of_ble_eq_true rfl, Nat.le_of_ble_eq_true rfl⟩) rfl hl.1 rfl (Nat.le_of_ble_eq_true rfl) dX9_writeInt_34 ⟨Nat.le_of_ble_eq_true rfl, Nat.le_of_ble_eq_true rfl⟩ (fun _ => Nat.le_of_ble_eq_true rfl) (fun _ => rfl) (fun u H locs hp hG => ?_)
                  refine lv_iload_n S.1 S.2.1 dX9_writeInt_37 rfl (lv_at hl 0 rfl) ?_
                  refine g_bipush S dX9_writeInt_38 (by decide) ?_
                  refine g_idiv (z := 0) S dX9_writeInt_40 (by omega) (by omega) (by decide) ?_
                  refine lv_istore_n (lv' := [(3, .int (iI 0)), (2, .int (iI 1000)), (0, .ref (am 0)), (1, .int (iI x))]) S.1 S.2.1 dX9_writeInt_41 rfl hl (by decide) rfl (fun ls hl => ?_)
                  refine lv_goto (tgt := 20) S.1 S.2.1 dX9_writeInt_42 (by decide) ?_
                  refine lv_iload_n S.1 S.2.1 dX9_writeInt_20 rfl (lv_at hl 0 rfl) ?_
                  refine g_if_le (tgt := 45) S dX9_writeInt_21 (by decide) (by omega) (fun q21 => ?_) (fun q21 => ?_)
                  · skip
                    have hG : gW K A s.heap [gMdl K am th rw lg mr en pw sl ly dn iz tz nx st tk vl ef ep hO hB ol rm ((((oz + 1) + 1) + 1) + 1), gArrB K 200 (am 19) (upI (upI (upI (upI OF oz (48 + ((x / 1000) % 10))) (oz + 1) (48 + ((x / 100) % 10))) ((oz + 1) + 1) (48 + ((x / 10) % 10))) (((oz + 1) + 1) + 1) (48 + ((x / 1) % 10)))] _ _ := hG
                    exact g_vret S hr hlk hQ dX9_writeInt_45 (Nat.le_of_ble_eq_true rfl) (Nat.le_of_ble_eq_true rfl) ((upI (upI (upI (upI OF oz (48 + ((x / 1000) % 10))) (oz + 1) (48 + ((x / 100) % 10))) ((oz + 1) + 1) (48 + ((x / 10) % 10))) (((oz + 1) + 1) + 1) (48 + ((x / 1) % 10)), (((oz + 1) + 1) + 1) + 1) : (Int → Int) × Int) ⟨(by show ∀ j : Int, _ = _; intro j; simp only [upI, dgs, dgt]; (repeat' split) <;> first | rfl | omega), (by show _ = _ <;> unfold dgs <;> (repeat' split) <;> omega)⟩ hG
                  · skip
                    exact absurd q21 (by decide)
        · skip
          omega
