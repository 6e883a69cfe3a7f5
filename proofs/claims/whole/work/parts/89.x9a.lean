set_option maxHeartbeats 1000000 in
set_option maxRecDepth 100000 in
theorem c_X9_thrown (l : Launch) (K : KC) (am : Nat → Nat) (th : Int) (rw : Nat) (lg : Int) (mr : Int) (en : Int) (pw : Int) (sl : Int) (ly : Int) (dn : Int) (iz : Int) (tz : Int) (nx : Int) (st : Int) (tk : Int) (vl : Int) (ef : Int) (ep : Int) (hO : Int) (hB : Int) (ol : Int) (rm : Int) (oz : Int) : mG l yX9_thrown wsX9_thrown 0 0 K [.ref (am 0)] [gMdl K am th rw lg mr en pw sl ly dn iz tz nx st tk vl ef ep hO hB ol rm oz] (fun (v : Value) (u : Unit) => (v = .int (iI th))) (fun (u : Unit) => [gMdl K am th rw lg mr en pw sl ly dn iz tz nx st tk vl ef ep hO hB ol rm oz]) 0 0 := by
  refine mG_of cX9_thrown 1 (by decide) rfl (Nat.le_of_ble_eq_true rfl) ?_
  intro p e s m below meth c A ls Q S C hG hl hr hlk hin hQ
  have S : CallFix p m c cX9_thrown 1 s ([.ref (am 0)] : List Value).toArray wsX9_thrown RX9 := S
  have iX90 : ∀ w ∈ wsX90, w ∈ wsX9_thrown := fun _ h => List.mem_cons_of_mem _ (List.mem_append_right _ (h))
  have hl : lv_has ls 1 [(0, .ref (am 0))] := hl
  have hG : gW K A s.heap [gMdl K am th rw lg mr en pw sl ly dn iz tz nx st tk vl ef ep hO hB ol rm oz] s.heap [] := hG
  refine lv_aload_n S.1 S.2.1 dX9_thrown_0 rfl (lv_at hl 0 rfl) ?_
  refine g_get S C hG iX90 0 rfl rfl 0 (by decide) (List.mem_of_getElem? (i := 1) rfl) rfl dX9_thrown_1 ?_
  have hG : gW K A s.heap [gMdl K am th rw lg mr en pw sl ly dn iz tz nx st tk vl ef ep hO hB ol rm oz] _ _ := hG
  exact g_iret S hr hlk hQ dX9_thrown_4 (Nat.le_of_ble_eq_true rfl) (Nat.le_of_ble_eq_true rfl) (() : Unit) rfl hG

set_option maxHeartbeats 1000000 in
set_option maxRecDepth 100000 in
theorem c_X9_in (l : Launch) (K : KC) (z : Int) (zlo : Int) (zhi : Int) (hv : -4611686018427387904 ≤ z ∧ z ≤ 4611686018427387904) (hv0 : -4611686018427387904 ≤ zlo ∧ zlo ≤ 4611686018427387904) (hv1 : -4611686018427387904 ≤ zhi ∧ zhi ≤ 4611686018427387904) : mG l yX9_in wsX9_in 0 0 K [.long (iL z), .long (iL zlo), .long (iL zhi)] [] (fun (v : Value) (u : Unit) => (v = .int (iI (bI (zlo ≤ z ∧ z ≤ zhi))))) (fun (u : Unit) => []) 0 0 := by
  refine mG_of cX9_in 6 (by decide) rfl (Nat.le_of_ble_eq_true rfl) ?_
  intro p e s m below meth c A ls Q S C hG hl hr hlk hin hQ
  have S : CallFix p m c cX9_in 6 s ([.long (iL z), .long (iL zlo), .long (iL zhi)] : List Value).toArray wsX9_in RX9 := S
  have hl : lv_has ls 6 [(0, .long (iL z)), (2, .long (iL zlo)), (4, .long (iL zhi))] := hl
  have hG : gW K A s.heap [] s.heap [] := hG
  refine lv_lload_n S.1 S.2.1 dX9_in_0 rfl (lv_at hl 0 rfl) ?_
  refine lv_lload_n S.1 S.2.1 dX9_in_1 rfl (lv_at hl 1 rfl) ?_
  refine g_lcmp S dX9_in_2 (by omega) (by omega) ?_
  refine g_if_lt (tgt := 17) S dX9_in_3 (by decide) (by omega) (fun q3 => ?_) (fun q3 => ?_)
  · skip
    refine g_iconst S dX9_in_17 ?_
    have hG : gW K A s.heap [] _ _ := hG
    exact g_zret S hr hlk hQ (Or.inl rfl) dX9_in_18 (Nat.le_of_ble_eq_true rfl) (Nat.le_of_ble_eq_true rfl) (() : Unit) (congrArg (fun z : Int => Value.int (iI z)) (bI_f (by omega)).symm) hG
  · skip
    refine lv_lload_n S.1 S.2.1 dX9_in_6 rfl (lv_at hl 0 rfl) ?_
    refine lv_lload S.1 S.2.1 dX9_in_7 (lv_at hl 2 rfl) ?_
    refine g_lcmp S dX9_in_9 (by omega) (by omega) ?_
    refine g_if_gt (tgt := 17) S dX9_in_10 (by decide) (by omega) (fun q10 => ?_) (fun q10 => ?_)
    · skip
      refine g_iconst S dX9_in_17 ?_
      have hG : gW K A s.heap [] _ _ := hG
      exact g_zret S hr hlk hQ (Or.inl rfl) dX9_in_18 (Nat.le_of_ble_eq_true rfl) (Nat.le_of_ble_eq_true rfl) (() : Unit) (congrArg (fun z : Int => Value.int (iI z)) (bI_f (by omega)).symm) hG
    · skip
      refine g_iconst S dX9_in_13 ?_
      refine lv_goto (tgt := 18) S.1 S.2.1 dX9_in_14 (by decide) ?_
      have hG : gW K A s.heap [] _ _ := hG
      exact g_zret S hr hlk hQ (Or.inr rfl) dX9_in_18 (Nat.le_of_ble_eq_true rfl) (Nat.le_of_ble_eq_true rfl) (() : Unit) (congrArg (fun z : Int => Value.int (iI z)) (bI_t (by omega)).symm) hG

set_option maxHeartbeats 1000000 in
set_option maxRecDepth 100000 in
theorem c_X9_passes3 (l : Launch) (K : KC) (am : Nat → Nat) (th : Int) (rw : Nat) (lg : Int) (mr : Int) (en : Int) (pw : Int) (sl : Int) (ly : Int) (dn : Int) (iz : Int) (tz : Int) (nx : Int) (st : Int) (tk : Int) (vl : Int) (ef : Int) (ep : Int) (hO : Int) (hB : Int) (ol : Int) (rm : Int) (oz : Int) (b1 : Int) (b2 : Int) (b3 : Int) (hb1 : b1 = 0 ∨ b1 = 1) (hb2 : b2 = 0 ∨ b2 = 1) (hb3 : b3 = 0 ∨ b3 = 1) : mG l yX9_passes3 wsX9_passes3 0 0 K [.ref (am 0), .int (iI b1), .int (iI b2), .int (iI b3)] [gMdl K am th rw lg mr en pw sl ly dn iz tz nx st tk vl ef ep hO hB ol rm oz] (fun (v : Value) (u : Unit) => (v = .int (iI (bI (b1 = 1 ∧ b2 = 1 ∧ b3 = 1))))) (fun (u : Unit) => [gMdl K am (thr b1 b2 b3) rw lg mr en pw sl ly dn iz tz nx st tk vl ef ep hO hB ol rm oz]) 0 0 := by
  refine mG_of cX9_passes3 4 (by decide) rfl (Nat.le_of_ble_eq_true rfl) ?_
  intro p e s m below meth c A ls Q S C hG hl hr hlk hin hQ
  have S : CallFix p m c cX9_passes3 4 s ([.ref (am 0), .int (iI b1), .int (iI b2), .int (iI b3)] : List Value).toArray wsX9_passes3 RX9 := S
  have iX90 : ∀ w ∈ wsX90, w ∈ wsX9_passes3 := fun _ h => List.mem_cons_of_mem _ (List.mem_append_right _ (h))
  have hl : lv_has ls 4 [(0, .ref (am 0)), (1, .int (iI b1)), (2, .int (iI b2)), (3, .int (iI b3))] := hl
  have hG : gW K A s.heap [gMdl K am th rw lg mr en pw sl ly dn iz tz nx st tk vl ef ep hO hB ol rm oz] s.heap [] := hG
  refine lv_aload_n S.1 S.2.1 dX9_passes3_0 rfl (lv_at hl 0 rfl) ?_
  refine lv_iload_n S.1 S.2.1 dX9_passes3_1 rfl (lv_at hl 1 rfl) ?_
  refine g_if_ne (tgt := 9) S dX9_passes3_2 (by decide) (by omega) (fun q2 => ?_) (fun q2 => ?_)
  · skip
    refine lv_iload_n S.1 S.2.1 dX9_passes3_9 rfl (lv_at hl 2 rfl) ?_
    refine g_if_ne (tgt := 17) S dX9_passes3_10 (by decide) (by omega) (fun q10 => ?_) (fun q10 => ?_)
    · skip
      refine lv_iload_n S.1 S.2.1 dX9_passes3_17 rfl (lv_at hl 3 rfl) ?_
      refine g_if_ne (tgt := 25) S dX9_passes3_18 (by decide) (by omega) (fun q18 => ?_) (fun q18 => ?_)
      · skip
        refine g_iconst S dX9_passes3_25 ?_
        refine g_put (gs' := [gMdl K am 0 rw lg mr en pw sl ly dn iz tz nx st tk vl ef ep hO hB ol rm oz]) S C hG iX90 tyX9 tyX9_ok nmX9 0 rfl rfl 0 (by decide) (List.mem_of_getElem? (i := 1) rfl) rfl rfl rfl (Nat.le_of_ble_eq_true rfl) rfl dX9_passes3_26 (fun H locs hG => ?_)
        refine lv_aload_n S.1 S.2.1 dX9_passes3_29 rfl (lv_at hl 0 rfl) ?_
        refine g_get S C hG iX90 0 rfl rfl 0 (by decide) (List.mem_of_getElem? (i := 1) rfl) rfl dX9_passes3_30 ?_
        refine g_if_ne (tgt := 40) S dX9_passes3_33 (by decide) (by omega) (fun q33 => ?_) (fun q33 => ?_)
        · skip
          exact absurd q33 (by decide)
        · skip
          refine g_iconst S dX9_passes3_36 ?_
          refine lv_goto (tgt := 41) S.1 S.2.1 dX9_passes3_37 (by decide) ?_
          have hG : gW K A s.heap [gMdl K am (thr b1 b2 b3) rw lg mr en pw sl ly dn iz tz nx st tk vl ef ep hO hB ol rm oz] _ _ := (by rw [show thr b1 b2 b3 = 0 by (unfold thr <;> (repeat' split) <;> omega)] <;> exact hG)
          exact g_zret S hr hlk hQ (Or.inr rfl) dX9_passes3_41 (Nat.le_of_ble_eq_true rfl) (Nat.le_of_ble_eq_true rfl) (() : Unit) (congrArg (fun z : Int => Value.int (iI z)) (bI_t (by omega)).symm) hG
      · skip
        refine g_iconst S dX9_passes3_21 ?_
        refine lv_goto (tgt := 26) S.1 S.2.1 dX9_passes3_22 (by decide) ?_
        refine g_put (gs' := [gMdl K am 3 rw lg mr en pw sl ly dn iz tz nx st tk vl ef ep hO hB ol rm oz]) S C hG iX90 tyX9 tyX9_ok nmX9 0 rfl rfl 0 (by decide) (List.mem_of_getElem? (i := 1) rfl) rfl rfl rfl (Nat.le_of_ble_eq_true rfl) rfl dX9_passes3_26 (fun H locs hG => ?_)
        refine lv_aload_n S.1 S.2.1 dX9_passes3_29 rfl (lv_at hl 0 rfl) ?_
        refine g_get S C hG iX90 0 rfl rfl 0 (by decide) (List.mem_of_getElem? (i := 1) rfl) rfl dX9_passes3_30 ?_
        refine g_if_ne (tgt := 40) S dX9_passes3_33 (by decide) (by omega) (fun q33 => ?_) (fun q33 => ?_)
        · skip
          refine g_iconst S dX9_passes3_40 ?_
          have hG : gW K A s.heap [gMdl K am (thr b1 b2 b3) rw lg mr en pw sl ly dn iz tz nx st tk vl ef ep hO hB ol rm oz] _ _ := (by rw [show thr b1 b2 b3 = 3 by (unfold thr <;> (repeat' split) <;> omega)] <;> exact hG)
          exact g_zret S hr hlk hQ (Or.inl rfl) dX9_passes3_41 (Nat.le_of_ble_eq_true rfl) (Nat.le_of_ble_eq_true rfl) (() : Unit) (congrArg (fun z : Int => Value.int (iI z)) (bI_f (by omega)).symm) hG
        · skip
          exact absurd q33 (by decide)
    · skip
      refine g_iconst S dX9_passes3_13 ?_
      refine lv_goto (tgt := 26) S.1 S.2.1 dX9_passes3_14 (by decide) ?_
      refine g_put (gs' := [gMdl K am 2 rw lg mr en pw sl ly dn iz tz nx st tk vl ef ep hO hB ol rm oz]) S C hG iX90 tyX9 tyX9_ok nmX9 0 rfl rfl 0 (by decide) (List.mem_of_getElem? (i := 1) rfl) rfl rfl rfl (Nat.le_of_ble_eq_true rfl) rfl dX9_passes3_26 (fun H locs hG => ?_)
      refine lv_aload_n S.1 S.2.1 dX9_passes3_29 rfl (lv_at hl 0 rfl) ?_
      refine g_get S C hG iX90 0 rfl rfl 0 (by decide) (List.mem_of_getElem? (i := 1) rfl) rfl dX9_passes3_30 ?_
      refine g_if_ne (tgt := 40) S dX9_passes3_33 (by decide) (by omega) (fun q33 => ?_) (fun q33 => ?_)
      · skip
        refine g_iconst S dX9_passes3_40 ?_
        have hG : gW K A s.heap [gMdl K am (thr b1 b2 b3) rw lg mr en pw sl ly dn iz tz nx st tk vl ef ep hO hB ol rm oz] _ _ := (by rw [show thr b1 b2 b3 = 2 by (unfold thr <;> (repeat' split) <;> omega)] <;> exact hG)
        exact g_zret S hr hlk hQ (Or.inl rfl) dX9_passes3_41 (Nat.le_of_ble_eq_true rfl) (Nat.le_of_ble_eq_true rfl) (() : Unit) (congrArg (fun z : Int => Value.int (iI z)) (bI_f (by omega)).symm) hG
      · skip
        exact absurd q33 (by decide)
  · skip
    refine g_iconst S dX9_passes3_5 ?_
    refine lv_goto (tgt := 26) S.1 S.2.1 dX9_passes3_6 (by decide) ?_
    refine g_put (gs' := [gMdl K am 1 rw lg mr en pw sl ly dn iz tz nx st tk vl ef ep hO hB ol rm oz]) S C hG iX90 tyX9 tyX9_ok nmX9 0 rfl rfl 0 (by decide) (List.mem_of_getElem? (i := 1) rfl) rfl rfl rfl (Nat.le_of_ble_eq_true rfl) rfl dX9_passes3_26 (fun H locs hG => ?_)
    refine lv_aload_n S.1 S.2.1 dX9_passes3_29 rfl (lv_at hl 0 rfl) ?_
    refine g_get S C hG iX90 0 rfl rfl 0 (by decide) (List.mem_of_getElem? (i := 1) rfl) rfl dX9_passes3_30 ?_
    refine g_if_ne (tgt := 40) S dX9_passes3_33 (by decide) (by omega) (fun q33 => ?_) (fun q33 => ?_)
    · skip
      refine g_iconst S dX9_passes3_40 ?_
      have hG : gW K A s.heap [gMdl K am (thr b1 b2 b3) rw lg mr en pw sl ly dn iz tz nx st tk vl ef ep hO hB ol rm oz] _ _ := (by rw [show thr b1 b2 b3 = 1 by (unfold thr <;> (repeat' split) <;> omega)] <;> exact hG)
      exact g_zret S hr hlk hQ (Or.inl rfl) dX9_passes3_41 (Nat.le_of_ble_eq_true rfl) (Nat.le_of_ble_eq_true rfl) (() : Unit) (congrArg (fun z : Int => Value.int (iI z)) (bI_f (by omega)).symm) hG
    · skip
      exact absurd q33 (by decide)

set_option maxHeartbeats 1000000 in
set_option maxRecDepth 100000 in
theorem c_X9_passes2 (l : Launch) (K : KC) (am : Nat → Nat) (th : Int) (rw : Nat) (lg : Int) (mr : Int) (en : Int) (pw : Int) (sl : Int) (ly : Int) (dn : Int) (iz : Int) (tz : Int) (nx : Int) (st : Int) (tk : Int) (vl : Int) (ef : Int) (ep : Int) (hO : Int) (hB : Int) (ol : Int) (rm : Int) (oz : Int) (b1 : Int) (b2 : Int) (hb1 : b1 = 0 ∨ b1 = 1) (hb2 : b2 = 0 ∨ b2 = 1) : mG l yX9_passes2 wsX9_passes2 1 23 K [.ref (am 0), .int (iI b1), .int (iI b2)] [gMdl K am th rw lg mr en pw sl ly dn iz tz nx st tk vl ef ep hO hB ol rm oz] (fun (v : Value) (u : Unit) => (v = .int (iI (bI (b1 = 1 ∧ b2 = 1))))) (fun (u : Unit) => [gMdl K am (thr b1 b2 1) rw lg mr en pw sl ly dn iz tz nx st tk vl ef ep hO hB ol rm oz]) 0 0 := by
  refine mG_of cX9_passes2 3 (by decide) rfl (Nat.le_of_ble_eq_true rfl) ?_
  intro p e s m below meth c A ls Q S C hG hl hr hlk hin hQ
  have S : CallFix p m c cX9_passes2 3 s ([.ref (am 0), .int (iI b1), .int (iI b2)] : List Value).toArray wsX9_passes2 RX9 := S
  have iX90 : ∀ w ∈ wsX90, w ∈ wsX9_passes2 := fun _ h => List.mem_cons_of_mem _ (List.mem_append_right _ (h))
  have hl : lv_has ls 3 [(0, .ref (am 0)), (1, .int (iI b1)), (2, .int (iI b2))] := hl
  have hG : gW K A s.heap [gMdl K am th rw lg mr en pw sl ly dn iz tz nx st tk vl ef ep hO hB ol rm oz] s.heap [] := hG
  refine lv_aload_n S.1 S.2.1 dX9_passes2_0 rfl (lv_at hl 0 rfl) ?_
  refine lv_iload_n S.1 S.2.1 dX9_passes2_1 rfl (lv_at hl 1 rfl) ?_
  refine lv_iload_n S.1 S.2.1 dX9_passes2_2 rfl (lv_at hl 2 rfl) ?_
  refine g_iconst S dX9_passes2_3 ?_
  refine g_invV (As := [.int (iI b1), .int (iI b2), .int (iI 1)]) (rest := []) (gs' := (fun u : Unit => [gMdl K am (thr b1 b2 1) rw lg mr en pw sl ly dn iz tz nx st tk vl ef ep hO hB ol rm oz])) S C hG [0] (c_X9_passes3 l K am th rw lg mr en pw sl ly dn iz tz nx st tk vl ef ep hO hB ol rm oz b1 b2 1 hb1 hb2 (Or.inr rfl)) rfl rfl 0 rfl rfl (cwV 3 S.2.2.2.2 gX9_passes2_X9_passes3 rfl rfl rfl (by decide +kernel) ⟨Nat.le_of_ble_eq_true rfl, Nat.le_of_ble_eq_true rfl⟩) rfl hl.1 rfl (Nat.le_of_ble_eq_true rfl) dX9_passes2_4 ⟨Nat.le_of_ble_eq_true rfl, Nat.le_of_ble_eq_true rfl⟩ (fun _ => Nat.le_of_ble_eq_true rfl) (fun _ => rfl) (fun v u H locs hp hG => ?_)
  subst hp
  refine g_top (w := .int (iI (bI (b1 = 1 ∧ b2 = 1)))) (congrArg (fun z : Int => Value.int (iI z)) ((bI_iff (by omega)))) ?_
  have hG : gW K A s.heap [gMdl K am (thr b1 b2 1) rw lg mr en pw sl ly dn iz tz nx st tk vl ef ep hO hB ol rm oz] _ _ := hG
  exact g_zret S hr hlk hQ (bI_01 _) dX9_passes2_7 (Nat.le_of_ble_eq_true rfl) (Nat.le_of_ble_eq_true rfl) (() : Unit) rfl hG

set_option maxHeartbeats 1000000 in
set_option maxRecDepth 100000 in
theorem c_X9_passes (l : Launch) (K : KC) (am : Nat → Nat) (th : Int) (rw : Nat) (lg : Int) (mr : Int) (en : Int) (pw : Int) (sl : Int) (ly : Int) (dn : Int) (iz : Int) (tz : Int) (nx : Int) (st : Int) (tk : Int) (vl : Int) (ef : Int) (ep : Int) (hO : Int) (hB : Int) (ol : Int) (rm : Int) (oz : Int) (b1 : Int) (hb1 : b1 = 0 ∨ b1 = 1) : mG l yX9_passes wsX9_passes 1 23 K [.ref (am 0), .int (iI b1)] [gMdl K am th rw lg mr en pw sl ly dn iz tz nx st tk vl ef ep hO hB ol rm oz] (fun (v : Value) (u : Unit) => (v = .int (iI (bI (b1 = 1))))) (fun (u : Unit) => [gMdl K am (thr b1 1 1) rw lg mr en pw sl ly dn iz tz nx st tk vl ef ep hO hB ol rm oz]) 0 0 := by
  refine mG_of cX9_passes 2 (by decide) rfl (Nat.le_of_ble_eq_true rfl) ?_
  intro p e s m below meth c A ls Q S C hG hl hr hlk hin hQ
  have S : CallFix p m c cX9_passes 2 s ([.ref (am 0), .int (iI b1)] : List Value).toArray wsX9_passes RX9 := S
  have iX90 : ∀ w ∈ wsX90, w ∈ wsX9_passes := fun _ h => List.mem_cons_of_mem _ (List.mem_append_right _ (h))
  have hl : lv_has ls 2 [(0, .ref (am 0)), (1, .int (iI b1))] := hl
  have hG : gW K A s.heap [gMdl K am th rw lg mr en pw sl ly dn iz tz nx st tk vl ef ep hO hB ol rm oz] s.heap [] := hG
  refine lv_aload_n S.1 S.2.1 dX9_passes_0 rfl (lv_at hl 0 rfl) ?_
  refine lv_iload_n S.1 S.2.1 dX9_passes_1 rfl (lv_at hl 1 rfl) ?_
  refine g_iconst S dX9_passes_2 ?_
  refine g_iconst S dX9_passes_3 ?_
  refine g_invV (As := [.int (iI b1), .int (iI 1), .int (iI 1)]) (rest := []) (gs' := (fun u : Unit => [gMdl K am (thr b1 1 1) rw lg mr en pw sl ly dn iz tz nx st tk vl ef ep hO hB ol rm oz])) S C hG [0] (c_X9_passes3 l K am th rw lg mr en pw sl ly dn iz tz nx st tk vl ef ep hO hB ol rm oz b1 1 1 hb1 (Or.inr rfl) (Or.inr rfl)) rfl rfl 0 rfl rfl (cwV 3 S.2.2.2.2 gX9_passes_X9_passes3 rfl rfl rfl (by decide +kernel) ⟨Nat.le_of_ble_eq_true rfl, Nat.le_of_ble_eq_true rfl⟩) rfl hl.1 rfl (Nat.le_of_ble_eq_true rfl) dX9_passes_4 ⟨Nat.le_of_ble_eq_true rfl, Nat.le_of_ble_eq_true rfl⟩ (fun _ => Nat.le_of_ble_eq_true rfl) (fun _ => rfl) (fun v u H locs hp hG => ?_)
  subst hp
  refine g_top (w := .int (iI (bI (b1 = 1)))) (congrArg (fun z : Int => Value.int (iI z)) ((bI_iff (by omega)))) ?_
  have hG : gW K A s.heap [gMdl K am (thr b1 1 1) rw lg mr en pw sl ly dn iz tz nx st tk vl ef ep hO hB ol rm oz] _ _ := hG
  exact g_zret S hr hlk hQ (bI_01 _) dX9_passes_7 (Nat.le_of_ble_eq_true rfl) (Nat.le_of_ble_eq_true rfl) (() : Unit) rfl hG

set_option maxHeartbeats 1000000 in
set_option maxRecDepth 100000 in
theorem c_X9_layPlain (l : Launch) (K : KC) (am : Nat → Nat) (th : Int) (rw : Nat) (lg : Int) (mr : Int) (en : Int) (pw : Int) (sl : Int) (ly : Int) (dn : Int) (iz : Int) (tz : Int) (nx : Int) (st : Int) (tk : Int) (vl : Int) (ef : Int) (ep : Int) (hO : Int) (hB : Int) (ol : Int) (rm : Int) (oz : Int) (NF : Int → Int) : mV l yX9_layPlain wsX9_layPlain 0 0 K [.ref (am 0)] [gMdl K am th rw lg mr en pw sl ly dn iz tz nx st tk vl ef ep hO hB ol rm oz, gArr K 95 rw NF] (fun (u : (Int → Int)) => (∀ j : Int, 0 ≤ j → j < 95 → u j = eN0 j)) (fun (u : (Int → Int)) => [gMdl K am th rw lg mr en pw sl ly dn iz tz nx st tk vl ef ep hO hB ol rm oz, gArr K 95 rw u]) 0 0 := by
  refine mV_of cX9_layPlain 2 (by decide) rfl (Nat.le_of_ble_eq_true rfl) ?_
  intro p e s m below meth c A ls Q S C hG hl hr hlk hin hQ
  have S : CallFix p m c cX9_layPlain 2 s ([.ref (am 0)] : List Value).toArray wsX9_layPlain RX9 := S
  have iX90 : ∀ w ∈ wsX90, w ∈ wsX9_layPlain := fun _ h => List.mem_cons_of_mem _ (List.mem_append_right _ (h))
  have hl : lv_has ls 2 [(0, .ref (am 0))] := hl
  have hG : gW K A s.heap [gMdl K am th rw lg mr en pw sl ly dn iz tz nx st tk vl ef ep hO hB ol rm oz, gArr K 95 rw NF] s.heap [] := hG
  refine g_iconst S dX9_layPlain_0 ?_
  refine lv_istore_n (lv' := [(1, .int (iI 0)), (0, .ref (am 0))]) S.1 S.2.1 dX9_layPlain_1 rfl hl (by decide) rfl (fun ls hl => ?_)
  have L2 : ∀ (fu : Nat) (w : Int) (F1 : Int → Int) (H : Heap) (locs : List Loc) (ls : Array Slot), (((95 : Int) - w).toNat) < fu → (0 ≤ w ∧ w ≤ 95) → (∀ j : Int, 0 ≤ j → j < w → F1 j = 0) → lv_has ls 2 [(0, .ref (am 0)), (1, .int (iI w))] → gW K A s.heap [gMdl K am th rw lg mr en pw sl ly dn iz tz nx st tk vl ef ep hO hB ol rm oz, gArr K 95 rw F1] H locs → W p l e { frames := 0, cells := 0, slots := 0, locals := 0 } s m ([.ref (am 0)] : List Value).toArray below meth c H locs 0 0 Q (F0 m 2 ls []) := by
    intro fu
    induction fu with
    | zero => intro w F1 H locs ls hfu; exact absurd hfu (Nat.not_lt_zero _)
    | succ fu ih =>
      intro w F1 H locs ls hfu hw hz hl hG
      refine lv_iload_n S.1 S.2.1 dX9_layPlain_2 rfl (lv_at hl 1 rfl) ?_
      refine g_bipush S dX9_layPlain_3 (by decide) ?_
      refine g_icmp_ge (tgt := 21) S dX9_layPlain_5 (by decide) (by omega) (by omega) (fun q5 => ?_) (fun q5 => ?_)
      · skip
        refine lv_aload_n S.1 S.2.1 dX9_layPlain_21 rfl (lv_at hl 0 rfl) ?_
        refine g_get S C hG iX90 0 rfl rfl 3 (by decide) (List.mem_of_getElem? (i := 1) rfl) rfl dX9_layPlain_22 ?_
        refine g_iconst S dX9_layPlain_25 ?_
        refine g_sipush S dX9_layPlain_26 (by decide) ?_
        refine g_iast (gs' := [gMdl K am th rw lg mr en pw sl ly dn iz tz nx st tk vl ef ep hO hB ol rm oz, gArr K 95 rw (upI F1 1 1000)]) S C hG 1 rfl (by omega) (by omega) (by omega) rfl dX9_layPlain_29 (fun H locs hG => ?_)
        refine lv_aload_n S.1 S.2.1 dX9_layPlain_30 rfl (lv_at hl 0 rfl) ?_
        refine g_get S C hG iX90 0 rfl rfl 3 (by decide) (List.mem_of_getElem? (i := 1) rfl) rfl dX9_layPlain_31 ?_
        refine g_iconst S dX9_layPlain_34 ?_
        refine g_sipush S dX9_layPlain_35 (by decide) ?_
        refine g_iast (gs' := [gMdl K am th rw lg mr en pw sl ly dn iz tz nx st tk vl ef ep hO hB ol rm oz, gArr K 95 rw (upI (upI F1 1 1000) 3 1000)]) S C hG 1 rfl (by omega) (by omega) (by omega) rfl dX9_layPlain_38 (fun H locs hG => ?_)
        have hG : gW K A s.heap [gMdl K am th rw lg mr en pw sl ly dn iz tz nx st tk vl ef ep hO hB ol rm oz, gArr K 95 rw (upI (upI F1 1 1000) 3 1000)] _ _ := hG
        exact g_vret S hr hlk hQ dX9_layPlain_39 (Nat.le_of_ble_eq_true rfl) (Nat.le_of_ble_eq_true rfl) ((upI (upI F1 1 1000) 3 1000) : (Int → Int)) (fun j a b => by (simp only [upI, eN0] <;> (repeat' split) <;> first | rfl | omega | exact hz j a (by omega))) hG
      · skip
        refine lv_aload_n S.1 S.2.1 dX9_layPlain_8 rfl (lv_at hl 0 rfl) ?_
        refine g_get S C hG iX90 0 rfl rfl 3 (by decide) (List.mem_of_getElem? (i := 1) rfl) rfl dX9_layPlain_9 ?_
        refine lv_iload_n S.1 S.2.1 dX9_layPlain_12 rfl (lv_at hl 1 rfl) ?_
        refine g_iconst S dX9_layPlain_13 ?_
        refine g_iast (gs' := [gMdl K am th rw lg mr en pw sl ly dn iz tz nx st tk vl ef ep hO hB ol rm oz, gArr K 95 rw (upI F1 w 0)]) S C hG 1 rfl (by omega) (by omega) (by omega) rfl dX9_layPlain_14 (fun H locs hG => ?_)
        refine lv_iinc (v := iI (w + 1)) (lv' := [(1, .int (iI (w + 1))), (0, .ref (am 0))]) S.1 S.2.1 dX9_layPlain_15 hl (k := 1) rfl (g_iinc rfl) (by decide) rfl (fun ls hl => ?_)
        refine lv_goto (tgt := 2) S.1 S.2.1 dX9_layPlain_18 (by decide) ?_
        exact ih (w + 1) (upI F1 w 0) _ _ _ (by omega) (by omega) (fun j a b => by (unfold upI <;> split <;> first | rfl | exact hz j a (by omega))) (lv_sub hl [1, 0] rfl) hG
  exact L2 (Nat.succ (((95 : Int) - 0).toNat)) 0 NF _ _ _ (Nat.lt_succ_self _) (by omega) (fun j a b => by omega) (lv_sub hl [1, 0] rfl) hG

set_option maxHeartbeats 1000000 in
set_option maxRecDepth 100000 in
theorem c_X9_layers (l : Launch) (K : KC) (am : Nat → Nat) (th : Int) (rw : Nat) (lg : Int) (mr : Int) (en : Int) (pw : Int) (sl : Int) (ly : Int) (dn : Int) (iz : Int) (tz : Int) (nx : Int) (st : Int) (tk : Int) (vl : Int) (ef : Int) (ep : Int) (hO : Int) (hB : Int) (ol : Int) (rm : Int) (oz : Int) (NF : Int → Int) : mG l yX9_layers wsX9_layers 0 0 K [.ref (am 0)] [gMdl K am th rw lg mr en pw sl ly dn iz tz nx st tk vl ef ep hO hB ol rm oz, gArr K 95 rw NF] (fun (v : Value) (u : Unit) => (v = .int (iI (NF 0)))) (fun (u : Unit) => [gMdl K am th rw lg mr en pw sl ly dn iz tz nx st tk vl ef ep hO hB ol rm oz, gArr K 95 rw NF]) 0 0 := by
  refine mG_of cX9_layers 1 (by decide) rfl (Nat.le_of_ble_eq_true rfl) ?_
  intro p e s m below meth c A ls Q S C hG hl hr hlk hin hQ
  have S : CallFix p m c cX9_layers 1 s ([.ref (am 0)] : List Value).toArray wsX9_layers RX9 := S
  have iX90 : ∀ w ∈ wsX90, w ∈ wsX9_layers := fun _ h => List.mem_cons_of_mem _ (List.mem_append_right _ (h))
  have hl : lv_has ls 1 [(0, .ref (am 0))] := hl
  have hG : gW K A s.heap [gMdl K am th rw lg mr en pw sl ly dn iz tz nx st tk vl ef ep hO hB ol rm oz, gArr K 95 rw NF] s.heap [] := hG
  refine lv_aload_n S.1 S.2.1 dX9_layers_0 rfl (lv_at hl 0 rfl) ?_
  refine g_get S C hG iX90 0 rfl rfl 3 (by decide) (List.mem_of_getElem? (i := 1) rfl) rfl dX9_layers_1 ?_
  refine g_iconst S dX9_layers_4 ?_
  refine g_iald S C hG 1 rfl (by omega) (by omega) (by omega) dX9_layers_5 ?_
  have hG : gW K A s.heap [gMdl K am th rw lg mr en pw sl ly dn iz tz nx st tk vl ef ep hO hB ol rm oz, gArr K 95 rw NF] _ _ := hG
  exact g_iret S hr hlk hQ dX9_layers_6 (Nat.le_of_ble_eq_true rfl) (Nat.le_of_ble_eq_true rfl) (() : Unit) rfl hG

set_option maxHeartbeats 1000000 in
set_option maxRecDepth 100000 in
theorem c_X9_shots (l : Launch) (K : KC) (am : Nat → Nat) (th : Int) (rw : Nat) (lg : Int) (mr : Int) (en : Int) (pw : Int) (sl : Int) (ly : Int) (dn : Int) (iz : Int) (tz : Int) (nx : Int) (st : Int) (tk : Int) (vl : Int) (ef : Int) (ep : Int) (hO : Int) (hB : Int) (ol : Int) (rm : Int) (oz : Int) (NF : Int → Int) : mG l yX9_shots wsX9_shots 0 0 K [.ref (am 0)] [gMdl K am th rw lg mr en pw sl ly dn iz tz nx st tk vl ef ep hO hB ol rm oz, gArr K 95 rw NF] (fun (v : Value) (u : Unit) => (v = .int (iI (NF 4)))) (fun (u : Unit) => [gMdl K am th rw lg mr en pw sl ly dn iz tz nx st tk vl ef ep hO hB ol rm oz, gArr K 95 rw NF]) 0 0 := by
  refine mG_of cX9_shots 1 (by decide) rfl (Nat.le_of_ble_eq_true rfl) ?_
  intro p e s m below meth c A ls Q S C hG hl hr hlk hin hQ
  have S : CallFix p m c cX9_shots 1 s ([.ref (am 0)] : List Value).toArray wsX9_shots RX9 := S
  have iX90 : ∀ w ∈ wsX90, w ∈ wsX9_shots := fun _ h => List.mem_cons_of_mem _ (List.mem_append_right _ (h))
  have hl : lv_has ls 1 [(0, .ref (am 0))] := hl
  have hG : gW K A s.heap [gMdl K am th rw lg mr en pw sl ly dn iz tz nx st tk vl ef ep hO hB ol rm oz, gArr K 95 rw NF] s.heap [] := hG
  refine lv_aload_n S.1 S.2.1 dX9_shots_0 rfl (lv_at hl 0 rfl) ?_
  refine g_get S C hG iX90 0 rfl rfl 3 (by decide) (List.mem_of_getElem? (i := 1) rfl) rfl dX9_shots_1 ?_
  refine g_iconst S dX9_shots_4 ?_
  refine g_iald S C hG 1 rfl (by omega) (by omega) (by omega) dX9_shots_5 ?_
  have hG : gW K A s.heap [gMdl K am th rw lg mr en pw sl ly dn iz tz nx st tk vl ef ep hO hB ol rm oz, gArr K 95 rw NF] _ _ := hG
  exact g_iret S hr hlk hQ dX9_shots_6 (Nat.le_of_ble_eq_true rfl) (Nat.le_of_ble_eq_true rfl) (() : Unit) rfl hG

set_option maxHeartbeats 1000000 in
set_option maxRecDepth 100000 in
theorem c_X9_ofLayer (l : Launch) (K : KC) (am : Nat → Nat) (th : Int) (rw : Nat) (lg : Int) (mr : Int) (en : Int) (pw : Int) (sl : Int) (ly : Int) (dn : Int) (iz : Int) (tz : Int) (nx : Int) (st : Int) (tk : Int) (vl : Int) (ef : Int) (ep : Int) (hO : Int) (hB : Int) (ol : Int) (rm : Int) (oz : Int) (NF : Int → Int) (y : Int) (k : Int) (h0 : 0 ≤ y ∧ y < 10) (h1 : 0 ≤ k ∧ k < 3) : mG l yX9_ofLayer wsX9_ofLayer 0 0 K [.ref (am 0), .int (iI y), .int (iI k)] [gMdl K am th rw lg mr en pw sl ly dn iz tz nx st tk vl ef ep hO hB ol rm oz, gArr K 95 rw NF] (fun (v : Value) (u : Unit) => (v = .int (iI (NF (5 + 3 * y + k))))) (fun (u : Unit) => [gMdl K am th rw lg mr en pw sl ly dn iz tz nx st tk vl ef ep hO hB ol rm oz, gArr K 95 rw NF]) 0 0 := by
  refine mG_of cX9_ofLayer 3 (by decide) rfl (Nat.le_of_ble_eq_true rfl) ?_
  intro p e s m below meth c A ls Q S C hG hl hr hlk hin hQ
  have S : CallFix p m c cX9_ofLayer 3 s ([.ref (am 0), .int (iI y), .int (iI k)] : List Value).toArray wsX9_ofLayer RX9 := S
  have iX90 : ∀ w ∈ wsX90, w ∈ wsX9_ofLayer := fun _ h => List.mem_cons_of_mem _ (List.mem_append_right _ (h))
  have hl : lv_has ls 3 [(0, .ref (am 0)), (1, .int (iI y)), (2, .int (iI k))] := hl
  have hG : gW K A s.heap [gMdl K am th rw lg mr en pw sl ly dn iz tz nx st tk vl ef ep hO hB ol rm oz, gArr K 95 rw NF] s.heap [] := hG
  refine lv_aload_n S.1 S.2.1 dX9_ofLayer_0 rfl (lv_at hl 0 rfl) ?_
  refine g_get S C hG iX90 0 rfl rfl 3 (by decide) (List.mem_of_getElem? (i := 1) rfl) rfl dX9_ofLayer_1 ?_
  refine g_iconst S dX9_ofLayer_4 ?_
  refine g_iconst S dX9_ofLayer_5 ?_
  refine lv_iload_n S.1 S.2.1 dX9_ofLayer_6 rfl (lv_at hl 1 rfl) ?_
  refine g_imul S dX9_ofLayer_7 rfl ?_
  refine g_iadd S dX9_ofLayer_8 rfl ?_
  refine lv_iload_n S.1 S.2.1 dX9_ofLayer_9 rfl (lv_at hl 2 rfl) ?_
  refine g_iadd S dX9_ofLayer_10 rfl ?_
  refine g_iald S C hG 1 rfl (by omega) (by omega) (by omega) dX9_ofLayer_11 ?_
  have hG : gW K A s.heap [gMdl K am th rw lg mr en pw sl ly dn iz tz nx st tk vl ef ep hO hB ol rm oz, gArr K 95 rw NF] _ _ := hG
  exact g_iret S hr hlk hQ dX9_ofLayer_12 (Nat.le_of_ble_eq_true rfl) (Nat.le_of_ble_eq_true rfl) (() : Unit) (congrArg (fun z : Int => Value.int (iI z)) (by first | rfl | omega)) hG

set_option maxHeartbeats 1000000 in
set_option maxRecDepth 100000 in
theorem c_X9_ofShot (l : Launch) (K : KC) (am : Nat → Nat) (th : Int) (rw : Nat) (lg : Int) (mr : Int) (en : Int) (pw : Int) (sl : Int) (ly : Int) (dn : Int) (iz : Int) (tz : Int) (nx : Int) (st : Int) (tk : Int) (vl : Int) (ef : Int) (ep : Int) (hO : Int) (hB : Int) (ol : Int) (rm : Int) (oz : Int) (NF : Int → Int) (y : Int) (k : Int) (h0 : 0 ≤ y ∧ y < 20) (h1 : 0 ≤ k ∧ k < 3) : mG l yX9_ofShot wsX9_ofShot 0 0 K [.ref (am 0), .int (iI y), .int (iI k)] [gMdl K am th rw lg mr en pw sl ly dn iz tz nx st tk vl ef ep hO hB ol rm oz, gArr K 95 rw NF] (fun (v : Value) (u : Unit) => (v = .int (iI (NF (35 + 3 * y + k))))) (fun (u : Unit) => [gMdl K am th rw lg mr en pw sl ly dn iz tz nx st tk vl ef ep hO hB ol rm oz, gArr K 95 rw NF]) 0 0 := by
  refine mG_of cX9_ofShot 3 (by decide) rfl (Nat.le_of_ble_eq_true rfl) ?_
  intro p e s m below meth c A ls Q S C hG hl hr hlk hin hQ
  have S : CallFix p m c cX9_ofShot 3 s ([.ref (am 0), .int (iI y), .int (iI k)] : List Value).toArray wsX9_ofShot RX9 := S
  have iX90 : ∀ w ∈ wsX90, w ∈ wsX9_ofShot := fun _ h => List.mem_cons_of_mem _ (List.mem_append_right _ (h))
  have hl : lv_has ls 3 [(0, .ref (am 0)), (1, .int (iI y)), (2, .int (iI k))] := hl
  have hG : gW K A s.heap [gMdl K am th rw lg mr en pw sl ly dn iz tz nx st tk vl ef ep hO hB ol rm oz, gArr K 95 rw NF] s.heap [] := hG
  refine lv_aload_n S.1 S.2.1 dX9_ofShot_0 rfl (lv_at hl 0 rfl) ?_
  refine g_get S C hG iX90 0 rfl rfl 3 (by decide) (List.mem_of_getElem? (i := 1) rfl) rfl dX9_ofShot_1 ?_
  refine g_bipush S dX9_ofShot_4 (by decide) ?_
  refine g_iconst S dX9_ofShot_6 ?_
  refine lv_iload_n S.1 S.2.1 dX9_ofShot_7 rfl (lv_at hl 1 rfl) ?_
  refine g_imul S dX9_ofShot_8 rfl ?_
  refine g_iadd S dX9_ofShot_9 rfl ?_
  refine lv_iload_n S.1 S.2.1 dX9_ofShot_10 rfl (lv_at hl 2 rfl) ?_
  refine g_iadd S dX9_ofShot_11 rfl ?_
  refine g_iald S C hG 1 rfl (by omega) (by omega) (by omega) dX9_ofShot_12 ?_
  have hG : gW K A s.heap [gMdl K am th rw lg mr en pw sl ly dn iz tz nx st tk vl ef ep hO hB ol rm oz, gArr K 95 rw NF] _ _ := hG
  exact g_iret S hr hlk hQ dX9_ofShot_13 (Nat.le_of_ble_eq_true rfl) (Nat.le_of_ble_eq_true rfl) (() : Unit) (congrArg (fun z : Int => Value.int (iI z)) (by first | rfl | omega)) hG

set_option maxHeartbeats 1000000 in
set_option maxRecDepth 100000 in
theorem c_X9_isLayer (l : Launch) (K : KC) (am : Nat → Nat) (th : Int) (rw : Nat) (lg : Int) (mr : Int) (en : Int) (pw : Int) (sl : Int) (ly : Int) (dn : Int) (iz : Int) (tz : Int) (nx : Int) (st : Int) (tk : Int) (vl : Int) (ef : Int) (ep : Int) (hO : Int) (hB : Int) (ol : Int) (rm : Int) (oz : Int) (NF : Int → Int) (y : Int) (hN : NOk0 NF) (hv : -2147483648 ≤ y ∧ y < 2147483648) : mG l yX9_isLayer wsX9_isLayer 1 25 K [.ref (am 0), .int (iI y)] [gMdl K am th rw lg mr en pw sl ly dn iz tz nx st tk vl ef ep hO hB ol rm oz, gArr K 95 rw NF] (fun (v : Value) (u : Unit) => (v = .int (iI (bI (0 ≤ y ∧ y < NF 0))))) (fun (u : Unit) => [gMdl K am th rw lg mr en pw sl ly dn iz tz nx st tk vl ef ep hO hB ol rm oz, gArr K 95 rw NF]) 0 0 := by
  refine mG_of cX9_isLayer 2 (by decide) rfl (Nat.le_of_ble_eq_true rfl) ?_
  intro p e s m below meth c A ls Q S C hG hl hr hlk hin hQ
  have S : CallFix p m c cX9_isLayer 2 s ([.ref (am 0), .int (iI y)] : List Value).toArray wsX9_isLayer RX9 := S
  have iX90 : ∀ w ∈ wsX90, w ∈ wsX9_isLayer := fun _ h => List.mem_cons_of_mem _ (List.mem_append_right _ (h))
  have hl : lv_has ls 2 [(0, .ref (am 0)), (1, .int (iI y))] := hl
  have hG : gW K A s.heap [gMdl K am th rw lg mr en pw sl ly dn iz tz nx st tk vl ef ep hO hB ol rm oz, gArr K 95 rw NF] s.heap [] := hG
  have n0 := hN.1
  have n3 := hN.2.2.2.1
  refine lv_iload_n S.1 S.2.1 dX9_isLayer_0 rfl (lv_at hl 1 rfl) ?_
  refine g_i2l S dX9_isLayer_1 (by omega) ?_
  refine g_lconst (z := 0) S dX9_isLayer_2 rfl ?_
  refine lv_aload_n S.1 S.2.1 dX9_isLayer_3 rfl (lv_at hl 0 rfl) ?_
  refine g_invV (As := []) (rest := [.long (iL 0), .long (iL y)]) (gs' := (fun u : Unit => [gMdl K am th rw lg mr en pw sl ly dn iz tz nx st tk vl ef ep hO hB ol rm oz, gArr K 95 rw NF])) S C hG [0, 1] (c_X9_layers l K am th rw lg mr en pw sl ly dn iz tz nx st tk vl ef ep hO hB ol rm oz NF) rfl rfl 0 rfl rfl (cwV 0 S.2.2.2.2 gX9_isLayer_X9_layers rfl rfl rfl (by decide +kernel) ⟨Nat.le_of_ble_eq_true rfl, Nat.le_of_ble_eq_true rfl⟩) rfl hl.1 rfl (Nat.le_of_ble_eq_true rfl) dX9_isLayer_4 ⟨Nat.le_of_ble_eq_true rfl, Nat.le_of_ble_eq_true rfl⟩ (fun _ => Nat.le_of_ble_eq_true rfl) (fun _ => rfl) (fun v u H locs hp hG => ?_)
  subst hp
  refine g_iconst S dX9_isLayer_7 ?_
  refine g_isub S dX9_isLayer_8 rfl ?_
  refine g_i2l S dX9_isLayer_9 (by omega) ?_
  refine g_invS (As := [.long (iL y), .long (iL 0), .long (iL ((NF 0) - 1))]) (rest := []) (gs' := (fun u : Unit => [gMdl K am th rw lg mr en pw sl ly dn iz tz nx st tk vl ef ep hO hB ol rm oz, gArr K 95 rw NF])) S C hG [] (c_X9_in l K y 0 ((NF 0) - 1) (by omega) (by omega) (by omega)) rfl rfl (va_cwS 3 S.2.2.2.2 gX9_isLayer_X9_in rfl rfl rfl (by decide +kernel) ⟨Nat.le_of_ble_eq_true rfl, Nat.le_of_ble_eq_true rfl⟩) rfl hl.1 rfl (Nat.le_of_ble_eq_true rfl) dX9_isLayer_10 ⟨Nat.le_of_ble_eq_true rfl, Nat.le_of_ble_eq_true rfl⟩ (fun _ => Nat.le_of_ble_eq_true rfl) (fun _ => rfl) (fun v u H locs hp hG => ?_)
  subst hp
  refine g_top (w := .int (iI (bI (0 ≤ y ∧ y < NF 0)))) (congrArg (fun z : Int => Value.int (iI z)) ((bI_iff (by omega)))) ?_
  have hG : gW K A s.heap [gMdl K am th rw lg mr en pw sl ly dn iz tz nx st tk vl ef ep hO hB ol rm oz, gArr K 95 rw NF] _ _ := hG
  exact g_zret S hr hlk hQ (bI_01 _) dX9_isLayer_13 (Nat.le_of_ble_eq_true rfl) (Nat.le_of_ble_eq_true rfl) (() : Unit) rfl hG

set_option maxHeartbeats 1000000 in
set_option maxRecDepth 100000 in
theorem c_X9_isShot (l : Launch) (K : KC) (am : Nat → Nat) (th : Int) (rw : Nat) (lg : Int) (mr : Int) (en : Int) (pw : Int) (sl : Int) (ly : Int) (dn : Int) (iz : Int) (tz : Int) (nx : Int) (st : Int) (tk : Int) (vl : Int) (ef : Int) (ep : Int) (hO : Int) (hB : Int) (ol : Int) (rm : Int) (oz : Int) (NF : Int → Int) (y : Int) (hN : NOk0 NF) (hv : -2147483648 ≤ y ∧ y < 2147483648) : mG l yX9_isShot wsX9_isShot 1 25 K [.ref (am 0), .int (iI y)] [gMdl K am th rw lg mr en pw sl ly dn iz tz nx st tk vl ef ep hO hB ol rm oz, gArr K 95 rw NF] (fun (v : Value) (u : Unit) => (v = .int (iI (bI (0 ≤ y ∧ y < NF 4))))) (fun (u : Unit) => [gMdl K am th rw lg mr en pw sl ly dn iz tz nx st tk vl ef ep hO hB ol rm oz, gArr K 95 rw NF]) 0 0 := by
  refine mG_of cX9_isShot 2 (by decide) rfl (Nat.le_of_ble_eq_true rfl) ?_
  intro p e s m below meth c A ls Q S C hG hl hr hlk hin hQ
  have S : CallFix p m c cX9_isShot 2 s ([.ref (am 0), .int (iI y)] : List Value).toArray wsX9_isShot RX9 := S
  have iX90 : ∀ w ∈ wsX90, w ∈ wsX9_isShot := fun _ h => List.mem_cons_of_mem _ (List.mem_append_right _ (h))
  have hl : lv_has ls 2 [(0, .ref (am 0)), (1, .int (iI y))] := hl
  have hG : gW K A s.heap [gMdl K am th rw lg mr en pw sl ly dn iz tz nx st tk vl ef ep hO hB ol rm oz, gArr K 95 rw NF] s.heap [] := hG
  have n0 := hN.1
  have n3 := hN.2.2.2.1
  refine lv_iload_n S.1 S.2.1 dX9_isShot_0 rfl (lv_at hl 1 rfl) ?_
  refine g_i2l S dX9_isShot_1 (by omega) ?_
  refine g_lconst (z := 0) S dX9_isShot_2 rfl ?_
  refine lv_aload_n S.1 S.2.1 dX9_isShot_3 rfl (lv_at hl 0 rfl) ?_
  refine g_invV (As := []) (rest := [.long (iL 0), .long (iL y)]) (gs' := (fun u : Unit => [gMdl K am th rw lg mr en pw sl ly dn iz tz nx st tk vl ef ep hO hB ol rm oz, gArr K 95 rw NF])) S C hG [0, 1] (c_X9_shots l K am th rw lg mr en pw sl ly dn iz tz nx st tk vl ef ep hO hB ol rm oz NF) rfl rfl 0 rfl rfl (cwV 0 S.2.2.2.2 gX9_isShot_X9_shots rfl rfl rfl (by decide +kernel) ⟨Nat.le_of_ble_eq_true rfl, Nat.le_of_ble_eq_true rfl⟩) rfl hl.1 rfl (Nat.le_of_ble_eq_true rfl) dX9_isShot_4 ⟨Nat.le_of_ble_eq_true rfl, Nat.le_of_ble_eq_true rfl⟩ (fun _ => Nat.le_of_ble_eq_true rfl) (fun _ => rfl) (fun v u H locs hp hG => ?_)
  subst hp
  refine g_iconst S dX9_isShot_7 ?_
  refine g_isub S dX9_isShot_8 rfl ?_
  refine g_i2l S dX9_isShot_9 (by omega) ?_
  refine g_invS (As := [.long (iL y), .long (iL 0), .long (iL ((NF 4) - 1))]) (rest := []) (gs' := (fun u : Unit => [gMdl K am th rw lg mr en pw sl ly dn iz tz nx st tk vl ef ep hO hB ol rm oz, gArr K 95 rw NF])) S C hG [] (c_X9_in l K y 0 ((NF 4) - 1) (by omega) (by omega) (by omega)) rfl rfl (va_cwS 3 S.2.2.2.2 gX9_isShot_X9_in rfl rfl rfl (by decide +kernel) ⟨Nat.le_of_ble_eq_true rfl, Nat.le_of_ble_eq_true rfl⟩) rfl hl.1 rfl (Nat.le_of_ble_eq_true rfl) dX9_isShot_10 ⟨Nat.le_of_ble_eq_true rfl, Nat.le_of_ble_eq_true rfl⟩ (fun _ => Nat.le_of_ble_eq_true rfl) (fun _ => rfl) (fun v u H locs hp hG => ?_)
  subst hp
  refine g_top (w := .int (iI (bI (0 ≤ y ∧ y < NF 4)))) (congrArg (fun z : Int => Value.int (iI z)) ((bI_iff (by omega)))) ?_
  have hG : gW K A s.heap [gMdl K am th rw lg mr en pw sl ly dn iz tz nx st tk vl ef ep hO hB ol rm oz, gArr K 95 rw NF] _ _ := hG
  exact g_zret S hr hlk hQ (bI_01 _) dX9_isShot_13 (Nat.le_of_ble_eq_true rfl) (Nat.le_of_ble_eq_true rfl) (() : Unit) rfl hG

set_option maxHeartbeats 1000000 in
set_option maxRecDepth 100000 in
theorem c_X9_copyLayer (l : Launch) (K : KC) (am : Nat → Nat) (th : Int) (rw : Nat) (lg : Int) (mr : Int) (en : Int) (pw : Int) (sl : Int) (ly : Int) (dn : Int) (iz : Int) (tz : Int) (nx : Int) (st : Int) (tk : Int) (vl : Int) (ef : Int) (ep : Int) (hO : Int) (hB : Int) (ol : Int) (rm : Int) (oz : Int) (NF : Int → Int) (f : Int) (t : Int) (h0 : 0 ≤ f ∧ f < 10) (h1 : 0 ≤ t ∧ t < 10) (h2 : f ≠ t) : mV l yX9_copyLayer wsX9_copyLayer 0 0 K [.ref (am 0), .int (iI f), .int (iI t)] [gMdl K am th rw lg mr en pw sl ly dn iz tz nx st tk vl ef ep hO hB ol rm oz, gArr K 95 rw NF] (fun (u : (Int → Int)) => (∀ j : Int, u j = if 5 + 3 * t ≤ j ∧ j < 8 + 3 * t then NF (j - 3 * t + 3 * f) else NF j)) (fun (u : (Int → Int)) => [gMdl K am th rw lg mr en pw sl ly dn iz tz nx st tk vl ef ep hO hB ol rm oz, gArr K 95 rw u]) 0 0 := by
  refine mV_of cX9_copyLayer 4 (by decide) rfl (Nat.le_of_ble_eq_true rfl) ?_
  intro p e s m below meth c A ls Q S C hG hl hr hlk hin hQ
  have S : CallFix p m c cX9_copyLayer 4 s ([.ref (am 0), .int (iI f), .int (iI t)] : List Value).toArray wsX9_copyLayer RX9 := S
  have iX90 : ∀ w ∈ wsX90, w ∈ wsX9_copyLayer := fun _ h => List.mem_cons_of_mem _ (List.mem_append_right _ (h))
  have hl : lv_has ls 4 [(0, .ref (am 0)), (1, .int (iI f)), (2, .int (iI t))] := hl
  have hG : gW K A s.heap [gMdl K am th rw lg mr en pw sl ly dn iz tz nx st tk vl ef ep hO hB ol rm oz, gArr K 95 rw NF] s.heap [] := hG
  refine g_iconst S dX9_copyLayer_0 ?_
  refine lv_istore_n (lv' := [(3, .int (iI 0)), (0, .ref (am 0)), (1, .int (iI f)), (2, .int (iI t))]) S.1 S.2.1 dX9_copyLayer_1 rfl hl (by decide) rfl (fun ls hl => ?_)
  have L2 : ∀ (fu : Nat) (w : Int) (F1 : Int → Int) (H : Heap) (locs : List Loc) (ls : Array Slot), (((3 : Int) - w).toNat) < fu → (0 ≤ w ∧ w ≤ 3) → (∀ j : Int, F1 j = if 5 + 3 * t ≤ j ∧ j < 5 + 3 * t + w then NF (j - 3 * t + 3 * f) else NF j) → lv_has ls 4 [(0, .ref (am 0)), (1, .int (iI f)), (2, .int (iI t)), (3, .int (iI w))] → gW K A s.heap [gMdl K am th rw lg mr en pw sl ly dn iz tz nx st tk vl ef ep hO hB ol rm oz, gArr K 95 rw F1] H locs → W p l e { frames := 0, cells := 0, slots := 0, locals := 0 } s m ([.ref (am 0), .int (iI f), .int (iI t)] : List Value).toArray below meth c H locs 0 0 Q (F0 m 2 ls []) := by
    intro fu
    induction fu with
    | zero => intro w F1 H locs ls hfu; exact absurd hfu (Nat.not_lt_zero _)
    | succ fu ih =>
      intro w F1 H locs ls hfu hw hz hl hG
      refine lv_iload_n S.1 S.2.1 dX9_copyLayer_2 rfl (lv_at hl 3 rfl) ?_
      refine g_iconst S dX9_copyLayer_3 ?_
      refine g_icmp_ge (tgt := 37) S dX9_copyLayer_4 (by decide) (by omega) (by omega) (fun q4 => ?_) (fun q4 => ?_)
      · skip
        have hG : gW K A s.heap [gMdl K am th rw lg mr en pw sl ly dn iz tz nx st tk vl ef ep hO hB ol rm oz, gArr K 95 rw F1] _ _ := hG
        exact g_vret S hr hlk hQ dX9_copyLayer_37 (Nat.le_of_ble_eq_true rfl) (Nat.le_of_ble_eq_true rfl) ((F1) : (Int → Int)) (fun j => by rw [hz, show w = 3 by omega, show 5 + 3 * t + 3 = 8 + 3 * t by omega]) hG
      · skip
        refine lv_aload_n S.1 S.2.1 dX9_copyLayer_7 rfl (lv_at hl 0 rfl) ?_
        refine g_get S C hG iX90 0 rfl rfl 3 (by decide) (List.mem_of_getElem? (i := 1) rfl) rfl dX9_copyLayer_8 ?_
        refine g_iconst S dX9_copyLayer_11 ?_
        refine g_iconst S dX9_copyLayer_12 ?_
        refine lv_iload_n S.1 S.2.1 dX9_copyLayer_13 rfl (lv_at hl 2 rfl) ?_
        refine g_imul S dX9_copyLayer_14 rfl ?_
        refine g_iadd S dX9_copyLayer_15 rfl ?_
        refine lv_iload_n S.1 S.2.1 dX9_copyLayer_16 rfl (lv_at hl 3 rfl) ?_
        refine g_iadd S dX9_copyLayer_17 rfl ?_
        refine lv_aload_n S.1 S.2.1 dX9_copyLayer_18 rfl (lv_at hl 0 rfl) ?_
        refine g_get S C hG iX90 0 rfl rfl 3 (by decide) (List.mem_of_getElem? (i := 1) rfl) rfl dX9_copyLayer_19 ?_
        refine g_iconst S dX9_copyLayer_22 ?_
        refine g_iconst S dX9_copyLayer_23 ?_
        refine lv_iload_n S.1 S.2.1 dX9_copyLayer_24 rfl (lv_at hl 1 rfl) ?_
        refine g_imul S dX9_copyLayer_25 rfl ?_
        refine g_iadd S dX9_copyLayer_26 rfl ?_
        refine lv_iload_n S.1 S.2.1 dX9_copyLayer_27 rfl (lv_at hl 3 rfl) ?_
        refine g_iadd S dX9_copyLayer_28 rfl ?_
        refine g_iald S C hG 1 rfl (by omega) (by omega) (by omega) dX9_copyLayer_29 ?_
        refine g_iast (gs' := [gMdl K am th rw lg mr en pw sl ly dn iz tz nx st tk vl ef ep hO hB ol rm oz, gArr K 95 rw (upI F1 ((5 + (3 * t)) + w) (F1 ((5 + (3 * f)) + w)))]) S C hG 1 rfl (by omega) (by omega) (by omega) rfl dX9_copyLayer_30 (fun H locs hG => ?_)
        refine lv_iinc (v := iI (w + 1)) (lv' := [(3, .int (iI (w + 1))), (0, .ref (am 0)), (1, .int (iI f)), (2, .int (iI t))]) S.1 S.2.1 dX9_copyLayer_31 hl (k := 3) rfl (g_iinc rfl) (by decide) rfl (fun ls hl => ?_)
        refine lv_goto (tgt := 2) S.1 S.2.1 dX9_copyLayer_34 (by decide) ?_
        exact ih (w + 1) (upI F1 ((5 + (3 * t)) + w) (F1 ((5 + (3 * f)) + w))) _ _ _ (by omega) (by omega) (fun j => by (unfold upI <;> split <;> first | (rw [if_pos (by omega), hz, if_neg (by omega)] <;> congr 1 <;> omega) | (rw [hz] <;> (repeat' split) <;> first | rfl | omega))) (lv_sub hl [1, 2, 3, 0] rfl) hG
  exact L2 (Nat.succ (((3 : Int) - 0).toNat)) 0 NF _ _ _ (Nat.lt_succ_self _) (by omega) (fun j => by rw [if_neg (by omega)]) (lv_sub hl [1, 2, 3, 0] rfl) hG

set_option maxHeartbeats 1000000 in
set_option maxRecDepth 100000 in
theorem c_X9_addOne (l : Launch) (K : KC) (am : Nat → Nat) (th : Int) (rw : Nat) (lg : Int) (mr : Int) (en : Int) (pw : Int) (sl : Int) (ly : Int) (dn : Int) (iz : Int) (tz : Int) (nx : Int) (st : Int) (tk : Int) (vl : Int) (ef : Int) (ep : Int) (hO : Int) (hB : Int) (ol : Int) (rm : Int) (oz : Int) (NF : Int → Int) (y : Int) (a1 : Int) (a2 : Int) (a3 : Int) (h0 : 0 ≤ y ∧ y ≤ NF 0) (h1 : NF 0 < 10) : mV l yX9_addOne wsX9_addOne 1 23 K [.ref (am 0), .int (iI y), .int (iI a1), .int (iI a2), .int (iI a3)] [gMdl K am th rw lg mr en pw sl ly dn iz tz nx st tk vl ef ep hO hB ol rm oz, gArr K 95 rw NF] (fun (u : (Int → Int)) => (u = insLN NF y a1 a2 a3)) (fun (u : (Int → Int)) => [gMdl K am th rw lg mr en pw sl ly dn iz tz nx st tk vl ef ep hO hB ol rm oz, gArr K 95 rw u]) 0 0 := by
  refine mV_of cX9_addOne 6 (by decide) rfl (Nat.le_of_ble_eq_true rfl) ?_
  intro p e s m below meth c A ls Q S C hG hl hr hlk hin hQ
  have S : CallFix p m c cX9_addOne 6 s ([.ref (am 0), .int (iI y), .int (iI a1), .int (iI a2), .int (iI a3)] : List Value).toArray wsX9_addOne RX9 := S
  have iX90 : ∀ w ∈ wsX90, w ∈ wsX9_addOne := fun _ h => List.mem_cons_of_mem _ (List.mem_append_right _ (h))
  have hl : lv_has ls 6 [(0, .ref (am 0)), (1, .int (iI y)), (2, .int (iI a1)), (3, .int (iI a2)), (4, .int (iI a3))] := hl
  have hG : gW K A s.heap [gMdl K am th rw lg mr en pw sl ly dn iz tz nx st tk vl ef ep hO hB ol rm oz, gArr K 95 rw NF] s.heap [] := hG
  refine lv_aload_n S.1 S.2.1 dX9_addOne_0 rfl (lv_at hl 0 rfl) ?_
  refine g_invV (As := []) (rest := []) (gs' := (fun u : Unit => [gMdl K am th rw lg mr en pw sl ly dn iz tz nx st tk vl ef ep hO hB ol rm oz, gArr K 95 rw NF])) S C hG [0, 1] (c_X9_layers l K am th rw lg mr en pw sl ly dn iz tz nx st tk vl ef ep hO hB ol rm oz NF) rfl rfl 0 rfl rfl (cwV 0 S.2.2.2.2 gX9_addOne_X9_layers rfl rfl rfl (by decide +kernel) ⟨Nat.le_of_ble_eq_true rfl, Nat.le_of_ble_eq_true rfl⟩) rfl hl.1 rfl (Nat.le_of_ble_eq_true rfl) dX9_addOne_1 ⟨Nat.le_of_ble_eq_true rfl, Nat.le_of_ble_eq_true rfl⟩ (fun _ => Nat.le_of_ble_eq_true rfl) (fun _ => rfl) (fun v u H locs hp hG => ?_)
  subst hp
  refine lv_istore (lv' := [(5, .int (iI (NF 0))), (0, .ref (am 0)), (1, .int (iI y)), (2, .int (iI a1)), (3, .int (iI a2)), (4, .int (iI a3))]) S.1 S.2.1 dX9_addOne_4 hl (by decide) rfl (fun ls hl => ?_)
  have L6 : ∀ (fu : Nat) (w : Int) (F1 : Int → Int) (H : Heap) (locs : List Loc) (ls : Array Slot), ((w - y).toNat) < fu → (y ≤ w ∧ w ≤ NF 0) → (∀ j : Int, F1 j = if 8 + 3 * w ≤ j ∧ j < 8 + 3 * NF 0 then NF (j - 3) else NF j) → lv_has ls 6 [(0, .ref (am 0)), (1, .int (iI y)), (2, .int (iI a1)), (3, .int (iI a2)), (4, .int (iI a3)), (5, .int (iI w))] → gW K A s.heap [gMdl K am th rw lg mr en pw sl ly dn iz tz nx st tk vl ef ep hO hB ol rm oz, gArr K 95 rw F1] H locs → W p l e { frames := 1, cells := 0, slots := 0, locals := 23 } s m ([.ref (am 0), .int (iI y), .int (iI a1), .int (iI a2), .int (iI a3)] : List Value).toArray below meth c H locs 0 0 Q (F0 m 6 ls []) := by
    intro fu
    induction fu with
    | zero => intro w F1 H locs ls hfu; exact absurd hfu (Nat.not_lt_zero _)
    | succ fu ih =>
      intro w F1 H locs ls hfu hw hz hl hG
      refine lv_iload S.1 S.2.1 dX9_addOne_6 (lv_at hl 5 rfl) ?_
      refine lv_iload_n S.1 S.2.1 dX9_addOne_8 rfl (lv_at hl 1 rfl) ?_
      refine g_icmp_le (tgt := 28) S dX9_addOne_9 (by decide) (by omega) (by omega) (fun q9 => ?_) (fun q9 => ?_)
      · skip
        have z0 := hz 0
        rw [if_neg (by omega)] at z0
        refine lv_aload_n S.1 S.2.1 dX9_addOne_28 rfl (lv_at hl 0 rfl) ?_
        refine g_get S C hG iX90 0 rfl rfl 3 (by decide) (List.mem_of_getElem? (i := 1) rfl) rfl dX9_addOne_29 ?_
        refine g_iconst S dX9_addOne_32 ?_
        refine lv_dup2_11 S.1 S.2.1 dX9_addOne_33 rfl rfl ?_
        refine g_iald S C hG 1 rfl (by omega) (by omega) (by omega) dX9_addOne_34 ?_
        refine g_iconst S dX9_addOne_35 ?_
        refine g_iadd S dX9_addOne_36 rfl ?_
        refine g_iast (gs' := [gMdl K am th rw lg mr en pw sl ly dn iz tz nx st tk vl ef ep hO hB ol rm oz, gArr K 95 rw (upI F1 0 ((F1 0) + 1))]) S C hG 1 rfl (by omega) (by omega) (by omega) rfl dX9_addOne_37 (fun H locs hG => ?_)
        refine lv_aload_n S.1 S.2.1 dX9_addOne_38 rfl (lv_at hl 0 rfl) ?_
        refine g_get S C hG iX90 0 rfl rfl 3 (by decide) (List.mem_of_getElem? (i := 1) rfl) rfl dX9_addOne_39 ?_
        refine g_iconst S dX9_addOne_42 ?_
        refine g_iconst S dX9_addOne_43 ?_
        refine lv_iload_n S.1 S.2.1 dX9_addOne_44 rfl (lv_at hl 1 rfl) ?_
        refine g_imul S dX9_addOne_45 rfl ?_
        refine g_iadd S dX9_addOne_46 rfl ?_
        refine g_iconst S dX9_addOne_47 ?_
        refine g_iadd S dX9_addOne_48 rfl ?_
        refine lv_iload_n S.1 S.2.1 dX9_addOne_49 rfl (lv_at hl 2 rfl) ?_
        refine g_iast (gs' := [gMdl K am th rw lg mr en pw sl ly dn iz tz nx st tk vl ef ep hO hB ol rm oz, gArr K 95 rw (upI (upI F1 0 ((F1 0) + 1)) ((5 + (3 * y)) + 0) a1)]) S C hG 1 rfl (by omega) (by omega) (by omega) rfl dX9_addOne_50 (fun H locs hG => ?_)
        refine lv_aload_n S.1 S.2.1 dX9_addOne_51 rfl (lv_at hl 0 rfl) ?_
        refine g_get S C hG iX90 0 rfl rfl 3 (by decide) (List.mem_of_getElem? (i := 1) rfl) rfl dX9_addOne_52 ?_
        refine g_iconst S dX9_addOne_55 ?_
        refine g_iconst S dX9_addOne_56 ?_
        refine lv_iload_n S.1 S.2.1 dX9_addOne_57 rfl (lv_at hl 1 rfl) ?_
        refine g_imul S dX9_addOne_58 rfl ?_
        refine g_iadd S dX9_addOne_59 rfl ?_
        refine g_iconst S dX9_addOne_60 ?_
        refine g_iadd S dX9_addOne_61 rfl ?_
        refine lv_iload_n S.1 S.2.1 dX9_addOne_62 rfl (lv_at hl 3 rfl) ?_
        refine g_iast (gs' := [gMdl K am th rw lg mr en pw sl ly dn iz tz nx st tk vl ef ep hO hB ol rm oz, gArr K 95 rw (upI (upI (upI F1 0 ((F1 0) + 1)) ((5 + (3 * y)) + 0) a1) ((5 + (3 * y)) + 1) a2)]) S C hG 1 rfl (by omega) (by omega) (by omega) rfl dX9_addOne_63 (fun H locs hG => ?_)
        refine lv_aload_n S.1 S.2.1 dX9_addOne_64 rfl (lv_at hl 0 rfl) ?_
        refine g_get S C hG iX90 0 rfl rfl 3 (by decide) (List.mem_of_getElem? (i := 1) rfl) rfl dX9_addOne_65 ?_
        refine g_iconst S dX9_addOne_68 ?_
        refine g_iconst S dX9_addOne_69 ?_
        refine lv_iload_n S.1 S.2.1 dX9_addOne_70 rfl (lv_at hl 1 rfl) ?_
        refine g_imul S dX9_addOne_71 rfl ?_
        refine g_iadd S dX9_addOne_72 rfl ?_
        refine g_iconst S dX9_addOne_73 ?_
        refine g_iadd S dX9_addOne_74 rfl ?_
        refine lv_iload S.1 S.2.1 dX9_addOne_75 (lv_at hl 4 rfl) ?_
        refine g_iast (gs' := [gMdl K am th rw lg mr en pw sl ly dn iz tz nx st tk vl ef ep hO hB ol rm oz, gArr K 95 rw (upI (upI (upI (upI F1 0 ((F1 0) + 1)) ((5 + (3 * y)) + 0) a1) ((5 + (3 * y)) + 1) a2) ((5 + (3 * y)) + 2) a3)]) S C hG 1 rfl (by omega) (by omega) (by omega) rfl dX9_addOne_77 (fun H locs hG => ?_)
        have hG : gW K A s.heap [gMdl K am th rw lg mr en pw sl ly dn iz tz nx st tk vl ef ep hO hB ol rm oz, gArr K 95 rw (upI (upI (upI (upI F1 0 ((F1 0) + 1)) ((5 + (3 * y)) + 0) a1) ((5 + (3 * y)) + 1) a2) ((5 + (3 * y)) + 2) a3)] _ _ := hG
        exact g_vret S hr hlk hQ dX9_addOne_78 (Nat.le_of_ble_eq_true rfl) (Nat.le_of_ble_eq_true rfl) ((upI (upI (upI (upI F1 0 ((F1 0) + 1)) ((5 + (3 * y)) + 0) a1) ((5 + (3 * y)) + 1) a2) ((5 + (3 * y)) + 2) a3) : (Int → Int)) (funext fun j => by (simp only [upI, insLN, sel3] <;> have z1 := hz j <;> (repeat' split) <;> first | rfl | omega | (rw [z1] <;> (repeat' split) <;> first | rfl | omega))) hG
      · skip
        refine lv_aload_n S.1 S.2.1 dX9_addOne_12 rfl (lv_at hl 0 rfl) ?_
        refine lv_iload S.1 S.2.1 dX9_addOne_13 (lv_at hl 5 rfl) ?_
        refine g_iconst S dX9_addOne_15 ?_
        refine g_isub S dX9_addOne_16 rfl ?_
        refine lv_iload S.1 S.2.1 dX9_addOne_17 (lv_at hl 5 rfl) ?_
        refine g_invVv (As := [.int (iI (w - 1)), .int (iI w)]) (rest := []) (gs' := (fun u : (Int → Int) => [gMdl K am th rw lg mr en pw sl ly dn iz tz nx st tk vl ef ep hO hB ol rm oz, gArr K 95 rw u])) S C hG [0, 1] (c_X9_copyLayer l K am th rw lg mr en pw sl ly dn iz tz nx st tk vl ef ep hO hB ol rm oz F1 (w - 1) w (by omega) (by omega) (by omega)) rfl rfl 0 rfl rfl (cwV 2 S.2.2.2.2 gX9_addOne_X9_copyLayer rfl rfl rfl (by decide +kernel) ⟨Nat.le_of_ble_eq_true rfl, Nat.le_of_ble_eq_true rfl⟩) rfl hl.1 rfl (Nat.le_of_ble_eq_true rfl) dX9_addOne_19 ⟨Nat.le_of_ble_eq_true rfl, Nat.le_of_ble_eq_true rfl⟩ (fun _ => Nat.le_of_ble_eq_true rfl) (fun _ => rfl) (fun u H locs hp hG => ?_)
        obtain ⟨F2_19, rfl⟩ : ∃ z, z = u := ⟨_, rfl⟩
        have hF_19 := hp
        have hF_19 : ∀ j : Int, F2_19 j = if 5 + 3 * w ≤ j ∧ j < 8 + 3 * w then F1 (j - 3 * w + 3 * (w - 1)) else F1 j := hF_19
        have hG : gW K A s.heap [gMdl K am th rw lg mr en pw sl ly dn iz tz nx st tk vl ef ep hO hB ol rm oz, gArr K 95 rw F2_19] _ _ := hG
        refine lv_iinc (v := iI (w + (-1))) (lv' := [(5, .int (iI (w + (-1)))), (0, .ref (am 0)), (1, .int (iI y)), (2, .int (iI a1)), (3, .int (iI a2)), (4, .int (iI a3))]) S.1 S.2.1 dX9_addOne_22 hl (k := 5) rfl (g_iinc rfl) (by decide) rfl (fun ls hl => ?_)
        refine lv_goto (tgt := 6) S.1 S.2.1 dX9_addOne_25 (by decide) ?_
        exact ih (w + (-1)) F2_19 _ _ _ (by omega) (by omega) (fun j => by rw [hF_19] <;> (repeat' split) <;> rw [hz] <;> (repeat' split) <;> first | rfl | omega | (congr 1 <;> omega)) (lv_sub hl [1, 2, 3, 4, 5, 0] rfl) hG
  exact L6 (Nat.succ (((NF 0) - y).toNat)) (NF 0) NF _ _ _ (Nat.lt_succ_self _) (by omega) (fun j => by rw [if_neg (by omega)]) (lv_sub hl [1, 2, 3, 4, 5, 0] rfl) hG

set_option maxHeartbeats 1000000 in
set_option maxRecDepth 100000 in
theorem c_X9_removeOne (l : Launch) (K : KC) (am : Nat → Nat) (th : Int) (rw : Nat) (lg : Int) (mr : Int) (en : Int) (pw : Int) (sl : Int) (ly : Int) (dn : Int) (iz : Int) (tz : Int) (nx : Int) (st : Int) (tk : Int) (vl : Int) (ef : Int) (ep : Int) (hO : Int) (hB : Int) (ol : Int) (rm : Int) (oz : Int) (NF : Int → Int) (y : Int) (h0 : 0 ≤ y ∧ y < NF 0) (h1 : NF 0 ≤ 10) : mV l yX9_removeOne wsX9_removeOne 1 23 K [.ref (am 0), .int (iI y)] [gMdl K am th rw lg mr en pw sl ly dn iz tz nx st tk vl ef ep hO hB ol rm oz, gArr K 95 rw NF] (fun (u : (Int → Int)) => (u = remLN NF y)) (fun (u : (Int → Int)) => [gMdl K am th rw lg mr en pw sl ly dn iz tz nx st tk vl ef ep hO hB ol rm oz, gArr K 95 rw u]) 0 0 := by
  refine mV_of cX9_removeOne 3 (by decide) rfl (Nat.le_of_ble_eq_true rfl) ?_
  intro p e s m below meth c A ls Q S C hG hl hr hlk hin hQ
  have S : CallFix p m c cX9_removeOne 3 s ([.ref (am 0), .int (iI y)] : List Value).toArray wsX9_removeOne RX9 := S
  have iX90 : ∀ w ∈ wsX90, w ∈ wsX9_removeOne := fun _ h => List.mem_cons_of_mem _ (List.mem_append_right _ (h))
  have hl : lv_has ls 3 [(0, .ref (am 0)), (1, .int (iI y))] := hl
  have hG : gW K A s.heap [gMdl K am th rw lg mr en pw sl ly dn iz tz nx st tk vl ef ep hO hB ol rm oz, gArr K 95 rw NF] s.heap [] := hG
  refine lv_iload_n S.1 S.2.1 dX9_removeOne_0 rfl (lv_at hl 1 rfl) ?_
  refine lv_istore_n (lv' := [(2, .int (iI y)), (0, .ref (am 0)), (1, .int (iI y))]) S.1 S.2.1 dX9_removeOne_1 rfl hl (by decide) rfl (fun ls hl => ?_)
  have L2 : ∀ (fu : Nat) (w : Int) (F1 : Int → Int) (H : Heap) (locs : List Loc) (ls : Array Slot), ((NF 0 - w).toNat) < fu → (y ≤ w ∧ w < NF 0) → (∀ j : Int, F1 j = if 5 + 3 * y ≤ j ∧ j < 5 + 3 * w then NF (j + 3) else NF j) → lv_has ls 3 [(0, .ref (am 0)), (1, .int (iI y)), (2, .int (iI w))] → gW K A s.heap [gMdl K am th rw lg mr en pw sl ly dn iz tz nx st tk vl ef ep hO hB ol rm oz, gArr K 95 rw F1] H locs → W p l e { frames := 1, cells := 0, slots := 0, locals := 23 } s m ([.ref (am 0), .int (iI y)] : List Value).toArray below meth c H locs 0 0 Q (F0 m 2 ls []) := by
    intro fu
    induction fu with
    | zero => intro w F1 H locs ls hfu; exact absurd hfu (Nat.not_lt_zero _)
    | succ fu ih =>
      intro w F1 H locs ls hfu hw hz hl hG
      have z0 := hz 0
      rw [if_neg (by omega)] at z0
      refine lv_iload_n S.1 S.2.1 dX9_removeOne_2 rfl (lv_at hl 2 rfl) ?_
      refine g_iconst S dX9_removeOne_3 ?_
      refine g_iadd S dX9_removeOne_4 rfl ?_
      refine lv_aload_n S.1 S.2.1 dX9_removeOne_5 rfl (lv_at hl 0 rfl) ?_
      refine g_invV (As := []) (rest := [.int (iI (w + 1))]) (gs' := (fun u : Unit => [gMdl K am th rw lg mr en pw sl ly dn iz tz nx st tk vl ef ep hO hB ol rm oz, gArr K 95 rw F1])) S C hG [0, 1] (c_X9_layers l K am th rw lg mr en pw sl ly dn iz tz nx st tk vl ef ep hO hB ol rm oz F1) rfl rfl 0 rfl rfl (cwV 0 S.2.2.2.2 gX9_removeOne_X9_layers rfl rfl rfl (by decide +kernel) ⟨Nat.le_of_ble_eq_true rfl, Nat.le_of_ble_eq_true rfl⟩) rfl hl.1 rfl (Nat.le_of_ble_eq_true rfl) dX9_removeOne_6 ⟨Nat.le_of_ble_eq_true rfl, Nat.le_of_ble_eq_true rfl⟩ (fun _ => Nat.le_of_ble_eq_true rfl) (fun _ => rfl) (fun v u H locs hp hG => ?_)
      subst hp
      refine g_icmp_ge (tgt := 26) S dX9_removeOne_9 (by decide) (by omega) (by omega) (fun q9 => ?_) (fun q9 => ?_)
      · skip
        refine lv_aload_n S.1 S.2.1 dX9_removeOne_26 rfl (lv_at hl 0 rfl) ?_
        refine g_get S C hG iX90 0 rfl rfl 3 (by decide) (List.mem_of_getElem? (i := 1) rfl) rfl dX9_removeOne_27 ?_
        refine g_iconst S dX9_removeOne_30 ?_
        refine lv_dup2_11 S.1 S.2.1 dX9_removeOne_31 rfl rfl ?_
        refine g_iald S C hG 1 rfl (by omega) (by omega) (by omega) dX9_removeOne_32 ?_
        refine g_iconst S dX9_removeOne_33 ?_
        refine g_isub S dX9_removeOne_34 rfl ?_
        refine g_iast (gs' := [gMdl K am th rw lg mr en pw sl ly dn iz tz nx st tk vl ef ep hO hB ol rm oz, gArr K 95 rw (upI F1 0 ((F1 0) - 1))]) S C hG 1 rfl (by omega) (by omega) (by omega) rfl dX9_removeOne_35 (fun H locs hG => ?_)
        have hG : gW K A s.heap [gMdl K am th rw lg mr en pw sl ly dn iz tz nx st tk vl ef ep hO hB ol rm oz, gArr K 95 rw (upI F1 0 ((F1 0) - 1))] _ _ := hG
        exact g_vret S hr hlk hQ dX9_removeOne_36 (Nat.le_of_ble_eq_true rfl) (Nat.le_of_ble_eq_true rfl) ((upI F1 0 ((F1 0) - 1)) : (Int → Int)) (funext fun j => by (simp only [upI, remLN] <;> have z1 := hz j <;> (repeat' split) <;> first | rfl | omega | (rw [z1] <;> (repeat' split) <;> first | rfl | omega))) hG
      · skip
        refine lv_aload_n S.1 S.2.1 dX9_removeOne_12 rfl (lv_at hl 0 rfl) ?_
        refine lv_iload_n S.1 S.2.1 dX9_removeOne_13 rfl (lv_at hl 2 rfl) ?_
        refine g_iconst S dX9_removeOne_14 ?_
        refine g_iadd S dX9_removeOne_15 rfl ?_
        refine lv_iload_n S.1 S.2.1 dX9_removeOne_16 rfl (lv_at hl 2 rfl) ?_
        refine g_invVv (As := [.int (iI (w + 1)), .int (iI w)]) (rest := []) (gs' := (fun u : (Int → Int) => [gMdl K am th rw lg mr en pw sl ly dn iz tz nx st tk vl ef ep hO hB ol rm oz, gArr K 95 rw u])) S C hG [0, 1] (c_X9_copyLayer l K am th rw lg mr en pw sl ly dn iz tz nx st tk vl ef ep hO hB ol rm oz F1 (w + 1) w (by omega) (by omega) (by omega)) rfl rfl 0 rfl rfl (cwV 2 S.2.2.2.2 gX9_removeOne_X9_copyLayer rfl rfl rfl (by decide +kernel) ⟨Nat.le_of_ble_eq_true rfl, Nat.le_of_ble_eq_true rfl⟩) rfl hl.1 rfl (Nat.le_of_ble_eq_true rfl) dX9_removeOne_17 ⟨Nat.le_of_ble_eq_true rfl, Nat.le_of_ble_eq_true rfl⟩ (fun _ => Nat.le_of_ble_eq_true rfl) (fun _ => rfl) (fun u H locs hp hG => ?_)
        obtain ⟨F2_17, rfl⟩ : ∃ z, z = u := ⟨_, rfl⟩
        have hF_17 := hp
        have hF_17 : ∀ j : Int, F2_17 j = if 5 + 3 * w ≤ j ∧ j < 8 + 3 * w then F1 (j - 3 * w + 3 * (w + 1)) else F1 j := hF_17
        have hG : gW K A s.heap [gMdl K am th rw lg mr en pw sl ly dn iz tz nx st tk vl ef ep hO hB ol rm oz, gArr K 95 rw F2_17] _ _ := hG
        refine lv_iinc (v := iI (w + 1)) (lv' := [(2, .int (iI (w + 1))), (0, .ref (am 0)), (1, .int (iI y))]) S.1 S.2.1 dX9_removeOne_20 hl (k := 2) rfl (g_iinc rfl) (by decide) rfl (fun ls hl => ?_)
        refine lv_goto (tgt := 2) S.1 S.2.1 dX9_removeOne_23 (by decide) ?_
        exact ih (w + 1) F2_17 _ _ _ (by omega) (by omega) (fun j => by rw [hF_17] <;> (repeat' split) <;> rw [hz] <;> (repeat' split) <;> first | rfl | omega | (congr 1 <;> omega)) (lv_sub hl [1, 2, 0] rfl) hG
  exact L2 (Nat.succ ((NF 0 - y).toNat)) y NF _ _ _ (Nat.lt_succ_self _) (by omega) (fun j => by rw [if_neg (by omega)]) (lv_sub hl [1, 2, 0] rfl) hG

set_option maxHeartbeats 1000000 in
set_option maxRecDepth 100000 in
theorem c_X9_addShot (l : Launch) (K : KC) (am : Nat → Nat) (th : Int) (rw : Nat) (lg : Int) (mr : Int) (en : Int) (pw : Int) (sl : Int) (ly : Int) (dn : Int) (iz : Int) (tz : Int) (nx : Int) (st : Int) (tk : Int) (vl : Int) (ef : Int) (ep : Int) (hO : Int) (hB : Int) (ol : Int) (rm : Int) (oz : Int) (NF : Int → Int) (y : Int) (x : Int) (z : Int) (h0 : 0 ≤ NF 4 ∧ NF 4 < 20) (hx : x = 0 ∨ x = 1) : mV l yX9_addShot wsX9_addShot 1 20 K [.ref (am 0), .int (iI y), .int (iI x), .int (iI z)] [gMdl K am th rw lg mr en pw sl ly dn iz tz nx st tk vl ef ep hO hB ol rm oz, gArr K 95 rw NF] (fun (u : (Int → Int)) => (u = addSN NF y x z)) (fun (u : (Int → Int)) => [gMdl K am th rw lg mr en pw sl ly dn iz tz nx st tk vl ef ep hO hB ol rm oz, gArr K 95 rw u]) 0 0 := by
  refine mV_of cX9_addShot 5 (by decide) rfl (Nat.le_of_ble_eq_true rfl) ?_
  intro p e s m below meth c A ls Q S C hG hl hr hlk hin hQ
  have S : CallFix p m c cX9_addShot 5 s ([.ref (am 0), .int (iI y), .int (iI x), .int (iI z)] : List Value).toArray wsX9_addShot RX9 := S
  have iX90 : ∀ w ∈ wsX90, w ∈ wsX9_addShot := fun _ h => List.mem_cons_of_mem _ (List.mem_append_right _ (h))
  have hl : lv_has ls 5 [(0, .ref (am 0)), (1, .int (iI y)), (2, .int (iI x)), (3, .int (iI z))] := hl
  have hG : gW K A s.heap [gMdl K am th rw lg mr en pw sl ly dn iz tz nx st tk vl ef ep hO hB ol rm oz, gArr K 95 rw NF] s.heap [] := hG
  refine lv_aload_n S.1 S.2.1 dX9_addShot_0 rfl (lv_at hl 0 rfl) ?_
  refine g_invV (As := []) (rest := []) (gs' := (fun u : Unit => [gMdl K am th rw lg mr en pw sl ly dn iz tz nx st tk vl ef ep hO hB ol rm oz, gArr K 95 rw NF])) S C hG [0, 1] (c_X9_shots l K am th rw lg mr en pw sl ly dn iz tz nx st tk vl ef ep hO hB ol rm oz NF) rfl rfl 0 rfl rfl (cwV 0 S.2.2.2.2 gX9_addShot_X9_shots rfl rfl rfl (by decide +kernel) ⟨Nat.le_of_ble_eq_true rfl, Nat.le_of_ble_eq_true rfl⟩) rfl hl.1 rfl (Nat.le_of_ble_eq_true rfl) dX9_addShot_1 ⟨Nat.le_of_ble_eq_true rfl, Nat.le_of_ble_eq_true rfl⟩ (fun _ => Nat.le_of_ble_eq_true rfl) (fun _ => rfl) (fun v u H locs hp hG => ?_)
  subst hp
  refine lv_istore (lv' := [(4, .int (iI (NF 4))), (0, .ref (am 0)), (1, .int (iI y)), (2, .int (iI x)), (3, .int (iI z))]) S.1 S.2.1 dX9_addShot_4 hl (by decide) rfl (fun ls hl => ?_)
  refine lv_aload_n S.1 S.2.1 dX9_addShot_6 rfl (lv_at hl 1 rfl) ?_
  refine g_get S C hG iX90 0 rfl rfl 3 (by decide) (List.mem_of_getElem? (i := 1) rfl) rfl dX9_addShot_7 ?_
  refine g_iconst S dX9_addShot_10 ?_
  refine lv_dup2_11 S.1 S.2.1 dX9_addShot_11 rfl rfl ?_
  refine g_iald S C hG 1 rfl (by omega) (by omega) (by omega) dX9_addShot_12 ?_
  refine g_iconst S dX9_addShot_13 ?_
  refine g_iadd S dX9_addShot_14 rfl ?_
  refine g_iast (gs' := [gMdl K am th rw lg mr en pw sl ly dn iz tz nx st tk vl ef ep hO hB ol rm oz, gArr K 95 rw (upI NF 4 ((NF 4) + 1))]) S C hG 1 rfl (by omega) (by omega) (by omega) rfl dX9_addShot_15 (fun H locs hG => ?_)
  refine lv_aload_n S.1 S.2.1 dX9_addShot_16 rfl (lv_at hl 1 rfl) ?_
  refine g_get S C hG iX90 0 rfl rfl 3 (by decide) (List.mem_of_getElem? (i := 1) rfl) rfl dX9_addShot_17 ?_
  refine g_bipush S dX9_addShot_20 (by decide) ?_
  refine g_iconst S dX9_addShot_22 ?_
  refine lv_iload S.1 S.2.1 dX9_addShot_23 (lv_at hl 0 rfl) ?_
  refine g_imul S dX9_addShot_25 rfl ?_
  refine g_iadd S dX9_addShot_26 rfl ?_
  refine g_iconst S dX9_addShot_27 ?_
  refine g_iadd S dX9_addShot_28 rfl ?_
  refine lv_iload_n S.1 S.2.1 dX9_addShot_29 rfl (lv_at hl 2 rfl) ?_
  refine g_iast (gs' := [gMdl K am th rw lg mr en pw sl ly dn iz tz nx st tk vl ef ep hO hB ol rm oz, gArr K 95 rw (upI (upI NF 4 ((NF 4) + 1)) ((35 + (3 * (NF 4))) + 0) y)]) S C hG 1 rfl (by omega) (by omega) (by omega) rfl dX9_addShot_30 (fun H locs hG => ?_)
  refine lv_aload_n S.1 S.2.1 dX9_addShot_31 rfl (lv_at hl 1 rfl) ?_
  refine g_get S C hG iX90 0 rfl rfl 3 (by decide) (List.mem_of_getElem? (i := 1) rfl) rfl dX9_addShot_32 ?_
  refine g_bipush S dX9_addShot_35 (by decide) ?_
  refine g_iconst S dX9_addShot_37 ?_
  refine lv_iload S.1 S.2.1 dX9_addShot_38 (lv_at hl 0 rfl) ?_
  refine g_imul S dX9_addShot_40 rfl ?_
  refine g_iadd S dX9_addShot_41 rfl ?_
  refine g_iconst S dX9_addShot_42 ?_
  refine g_iadd S dX9_addShot_43 rfl ?_
  refine lv_iload_n S.1 S.2.1 dX9_addShot_44 rfl (lv_at hl 3 rfl) ?_
  refine g_if_eq (tgt := 52) S dX9_addShot_45 (by decide) (by omega) (fun q45 => ?_) (fun q45 => ?_)
  · skip
    refine g_iconst S dX9_addShot_52 ?_
    refine g_top (w := .int (iI (x))) (congrArg (fun z : Int => Value.int (iI z)) ((by omega))) ?_
    refine g_iast (gs' := [gMdl K am th rw lg mr en pw sl ly dn iz tz nx st tk vl ef ep hO hB ol rm oz, gArr K 95 rw (upI (upI (upI NF 4 ((NF 4) + 1)) ((35 + (3 * (NF 4))) + 0) y) ((35 + (3 * (NF 4))) + 1) x)]) S C hG 1 rfl (by omega) (by omega) (by omega) rfl dX9_addShot_53 (fun H locs hG => ?_)
    refine lv_aload_n S.1 S.2.1 dX9_addShot_54 rfl (lv_at hl 1 rfl) ?_
    refine g_get S C hG iX90 0 rfl rfl 3 (by decide) (List.mem_of_getElem? (i := 1) rfl) rfl dX9_addShot_55 ?_
    refine g_bipush S dX9_addShot_58 (by decide) ?_
    refine g_iconst S dX9_addShot_60 ?_
    refine lv_iload S.1 S.2.1 dX9_addShot_61 (lv_at hl 0 rfl) ?_
    refine g_imul S dX9_addShot_63 rfl ?_
    refine g_iadd S dX9_addShot_64 rfl ?_
    refine g_iconst S dX9_addShot_65 ?_
    refine g_iadd S dX9_addShot_66 rfl ?_
    refine lv_iload_n S.1 S.2.1 dX9_addShot_67 rfl (lv_at hl 4 rfl) ?_
    refine g_iast (gs' := [gMdl K am th rw lg mr en pw sl ly dn iz tz nx st tk vl ef ep hO hB ol rm oz, gArr K 95 rw (upI (upI (upI (upI NF 4 ((NF 4) + 1)) ((35 + (3 * (NF 4))) + 0) y) ((35 + (3 * (NF 4))) + 1) x) ((35 + (3 * (NF 4))) + 2) z)]) S C hG 1 rfl (by omega) (by omega) (by omega) rfl dX9_addShot_68 (fun H locs hG => ?_)
    have hG : gW K A s.heap [gMdl K am th rw lg mr en pw sl ly dn iz tz nx st tk vl ef ep hO hB ol rm oz, gArr K 95 rw (upI (upI (upI (upI NF 4 ((NF 4) + 1)) ((35 + (3 * (NF 4))) + 0) y) ((35 + (3 * (NF 4))) + 1) x) ((35 + (3 * (NF 4))) + 2) z)] _ _ := hG
    exact g_vret S hr hlk hQ dX9_addShot_69 (Nat.le_of_ble_eq_true rfl) (Nat.le_of_ble_eq_true rfl) ((upI (upI (upI (upI NF 4 ((NF 4) + 1)) ((35 + (3 * (NF 4))) + 0) y) ((35 + (3 * (NF 4))) + 1) x) ((35 + (3 * (NF 4))) + 2) z) : (Int → Int)) rfl hG
  · skip
    refine g_iconst S dX9_addShot_48 ?_
    refine g_top (w := .int (iI (x))) (congrArg (fun z : Int => Value.int (iI z)) ((by omega))) ?_
    refine lv_goto (tgt := 53) S.1 S.2.1 dX9_addShot_49 (by decide) ?_
    refine g_iast (gs' := [gMdl K am th rw lg mr en pw sl ly dn iz tz nx st tk vl ef ep hO hB ol rm oz, gArr K 95 rw (upI (upI (upI NF 4 ((NF 4) + 1)) ((35 + (3 * (NF 4))) + 0) y) ((35 + (3 * (NF 4))) + 1) x)]) S C hG 1 rfl (by omega) (by omega) (by omega) rfl dX9_addShot_53 (fun H locs hG => ?_)
    refine lv_aload_n S.1 S.2.1 dX9_addShot_54 rfl (lv_at hl 1 rfl) ?_
    refine g_get S C hG iX90 0 rfl rfl 3 (by decide) (List.mem_of_getElem? (i := 1) rfl) rfl dX9_addShot_55 ?_
    refine g_bipush S dX9_addShot_58 (by decide) ?_
    refine g_iconst S dX9_addShot_60 ?_
    refine lv_iload S.1 S.2.1 dX9_addShot_61 (lv_at hl 0 rfl) ?_
    refine g_imul S dX9_addShot_63 rfl ?_
    refine g_iadd S dX9_addShot_64 rfl ?_
    refine g_iconst S dX9_addShot_65 ?_
    refine g_iadd S dX9_addShot_66 rfl ?_
    refine lv_iload_n S.1 S.2.1 dX9_addShot_67 rfl (lv_at hl 4 rfl) ?_
    refine g_iast (gs' := [gMdl K am th rw lg mr en pw sl ly dn iz tz nx st tk vl ef ep hO hB ol rm oz, gArr K 95 rw (upI (upI (upI (upI NF 4 ((NF 4) + 1)) ((35 + (3 * (NF 4))) + 0) y) ((35 + (3 * (NF 4))) + 1) x) ((35 + (3 * (NF 4))) + 2) z)]) S C hG 1 rfl (by omega) (by omega) (by omega) rfl dX9_addShot_68 (fun H locs hG => ?_)
    have hG : gW K A s.heap [gMdl K am th rw lg mr en pw sl ly dn iz tz nx st tk vl ef ep hO hB ol rm oz, gArr K 95 rw (upI (upI (upI (upI NF 4 ((NF 4) + 1)) ((35 + (3 * (NF 4))) + 0) y) ((35 + (3 * (NF 4))) + 1) x) ((35 + (3 * (NF 4))) + 2) z)] _ _ := hG
    exact g_vret S hr hlk hQ dX9_addShot_69 (Nat.le_of_ble_eq_true rfl) (Nat.le_of_ble_eq_true rfl) ((upI (upI (upI (upI NF 4 ((NF 4) + 1)) ((35 + (3 * (NF 4))) + 0) y) ((35 + (3 * (NF 4))) + 1) x) ((35 + (3 * (NF 4))) + 2) z) : (Int → Int)) rfl hG

set_option maxHeartbeats 1000000 in
set_option maxRecDepth 100000 in
theorem c_X9_depthOf (l : Launch) (K : KC) (am : Nat → Nat) (th : Int) (rw : Nat) (lg : Int) (mr : Int) (en : Int) (pw : Int) (sl : Int) (ly : Int) (dn : Int) (iz : Int) (tz : Int) (nx : Int) (st : Int) (tk : Int) (vl : Int) (ef : Int) (ep : Int) (hO : Int) (hB : Int) (ol : Int) (rm : Int) (oz : Int) (NF : Int → Int) (i : Int) (hN : NOk0 NF) (h0 : 0 ≤ i ∧ i ≤ NF 0) : mG l yX9_depthOf wsX9_depthOf 1 22 K [.ref (am 0), .int (iI i)] [gMdl K am th rw lg mr en pw sl ly dn iz tz nx st tk vl ef ep hO hB ol rm oz, gArr K 95 rw NF] (fun (v : Value) (u : Unit) => (v = .int (iI (depN NF i.toNat)))) (fun (u : Unit) => [gMdl K am th rw lg mr en pw sl ly dn iz tz nx st tk vl ef ep hO hB ol rm oz, gArr K 95 rw NF]) 0 0 := by
  refine mG_of cX9_depthOf 4 (by decide) rfl (Nat.le_of_ble_eq_true rfl) ?_
  intro p e s m below meth c A ls Q S C hG hl hr hlk hin hQ
  have S : CallFix p m c cX9_depthOf 4 s ([.ref (am 0), .int (iI i)] : List Value).toArray wsX9_depthOf RX9 := S
  have iX90 : ∀ w ∈ wsX90, w ∈ wsX9_depthOf := fun _ h => List.mem_cons_of_mem _ (List.mem_append_right _ (h))
  have hl : lv_has ls 4 [(0, .ref (am 0)), (1, .int (iI i))] := hl
  have hG : gW K A s.heap [gMdl K am th rw lg mr en pw sl ly dn iz tz nx st tk vl ef ep hO hB ol rm oz, gArr K 95 rw NF] s.heap [] := hG
  have n0 := hN.1
  have n3 := hN.2.2.2.1
  refine g_iconst S dX9_depthOf_0 ?_
  refine lv_istore_n (lv' := [(2, .int (iI 0)), (0, .ref (am 0)), (1, .int (iI i))]) S.1 S.2.1 dX9_depthOf_1 rfl hl (by decide) rfl (fun ls hl => ?_)
  refine g_iconst S dX9_depthOf_2 ?_
  refine lv_istore_n (lv' := [(3, .int (iI 0)), (2, .int (iI 0)), (0, .ref (am 0)), (1, .int (iI i))]) S.1 S.2.1 dX9_depthOf_3 rfl hl (by decide) rfl (fun ls hl => ?_)
  have L4 : ∀ (fu : Nat) (k : Nat) (w : Int) (f : Int) (H : Heap) (locs : List Loc) (ls : Array Slot), ((i - w).toNat) < fu → (w = (k : Int) ∧ w ≤ i) → (f = depN NF k) → lv_has ls 4 [(0, .ref (am 0)), (1, .int (iI i)), (2, .int (iI f)), (3, .int (iI w))] → gW K A s.heap [gMdl K am th rw lg mr en pw sl ly dn iz tz nx st tk vl ef ep hO hB ol rm oz, gArr K 95 rw NF] H locs → W p l e { frames := 1, cells := 0, slots := 0, locals := 22 } s m ([.ref (am 0), .int (iI i)] : List Value).toArray below meth c H locs 0 0 Q (F0 m 4 ls []) := by
    intro fu
    induction fu with
    | zero => intro k w f H locs ls hfu; exact absurd hfu (Nat.not_lt_zero _)
    | succ fu ih =>
      intro k w f H locs ls hfu hw hb hl hG
      refine lv_iload_n S.1 S.2.1 dX9_depthOf_4 rfl (lv_at hl 3 rfl) ?_
      refine lv_iload_n S.1 S.2.1 dX9_depthOf_5 rfl (lv_at hl 1 rfl) ?_
      refine g_icmp_ge (tgt := 24) S dX9_depthOf_6 (by decide) (by omega) (by omega) (fun q6 => ?_) (fun q6 => ?_)
      · skip
        refine lv_iload_n S.1 S.2.1 dX9_depthOf_24 rfl (lv_at hl 2 rfl) ?_
        have hG : gW K A s.heap [gMdl K am th rw lg mr en pw sl ly dn iz tz nx st tk vl ef ep hO hB ol rm oz, gArr K 95 rw NF] _ _ := hG
        exact g_iret S hr hlk hQ dX9_depthOf_25 (Nat.le_of_ble_eq_true rfl) (Nat.le_of_ble_eq_true rfl) (() : Unit) (congrArg (fun z : Int => Value.int (iI z)) (by rw [hb, show i.toNat = k by omega])) hG
      · skip
        refine lv_iload_n S.1 S.2.1 dX9_depthOf_9 rfl (lv_at hl 2 rfl) ?_
        refine lv_aload_n S.1 S.2.1 dX9_depthOf_10 rfl (lv_at hl 0 rfl) ?_
        refine lv_iload_n S.1 S.2.1 dX9_depthOf_11 rfl (lv_at hl 3 rfl) ?_
        refine g_iconst S dX9_depthOf_12 ?_
        refine g_invV (As := [.int (iI w), .int (iI 1)]) (rest := [.int (iI f)]) (gs' := (fun u : Unit => [gMdl K am th rw lg mr en pw sl ly dn iz tz nx st tk vl ef ep hO hB ol rm oz, gArr K 95 rw NF])) S C hG [0, 1] (c_X9_ofLayer l K am th rw lg mr en pw sl ly dn iz tz nx st tk vl ef ep hO hB ol rm oz NF w 1 (by omega) (by decide)) rfl rfl 0 rfl rfl (cwV 2 S.2.2.2.2 gX9_depthOf_X9_ofLayer rfl rfl rfl (by decide +kernel) ⟨Nat.le_of_ble_eq_true rfl, Nat.le_of_ble_eq_true rfl⟩) rfl hl.1 rfl (Nat.le_of_ble_eq_true rfl) dX9_depthOf_13 ⟨Nat.le_of_ble_eq_true rfl, Nat.le_of_ble_eq_true rfl⟩ (fun _ => Nat.le_of_ble_eq_true rfl) (fun _ => rfl) (fun v u H locs hp hG => ?_)
        subst hp
        refine g_iadd S dX9_depthOf_16 rfl ?_
        refine lv_istore_n (lv' := [(2, .int (iI (f + (NF (5 + 3 * w + 1))))), (0, .ref (am 0)), (1, .int (iI i)), (3, .int (iI w))]) S.1 S.2.1 dX9_depthOf_17 rfl hl (by decide) rfl (fun ls hl => ?_)
        refine lv_iinc (v := iI (w + 1)) (lv' := [(3, .int (iI (w + 1))), (2, .int (iI (f + (NF (5 + 3 * w + 1))))), (0, .ref (am 0)), (1, .int (iI i))]) S.1 S.2.1 dX9_depthOf_18 hl (k := 3) rfl (g_iinc rfl) (by decide) rfl (fun ls hl => ?_)
        refine lv_goto (tgt := 4) S.1 S.2.1 dX9_depthOf_21 (by decide) ?_
        exact ih (k + 1) (w + 1) (f + (NF (5 + 3 * w + 1))) _ _ _ (by omega) ⟨by omega, by omega⟩ (by simp only [depN] <;> rw [← hb, hw.1]) (lv_sub hl [2, 3, 1, 0] rfl) hG
  exact L4 (Nat.succ ((i - 0).toNat)) 0 0 0 _ _ _ (Nat.lt_succ_self _) ⟨rfl, by omega⟩ rfl (lv_sub hl [2, 3, 1, 0] rfl) hG

set_option maxHeartbeats 1000000 in
set_option maxRecDepth 100000 in
theorem c_X9_rootOf (l : Launch) (K : KC) (x : Int) (h0 : 0 ≤ x ∧ x < 16777216) : mG l yX9_rootOf wsX9_rootOf 0 0 K [.int (iI x)] [] (fun (v : Value) (u : Unit) => (v = .int (iI (rt x)))) (fun (u : Unit) => []) 0 0 := by
  refine mG_of cX9_rootOf 4 (by decide) rfl (Nat.le_of_ble_eq_true rfl) ?_
  intro p e s m below meth c A ls Q S C hG hl hr hlk hin hQ
  have S : CallFix p m c cX9_rootOf 4 s ([.int (iI x)] : List Value).toArray wsX9_rootOf RX9 := S
  have hl : lv_has ls 4 [(0, .int (iI x))] := hl
  have hG : gW K A s.heap [] s.heap [] := hG
  refine g_iconst S dX9_rootOf_0 ?_
  refine lv_istore_n (lv' := [(1, .int (iI 0)), (0, .int (iI x))]) S.1 S.2.1 dX9_rootOf_1 rfl hl (by decide) rfl (fun ls hl => ?_)
  refine g_sipush S dX9_rootOf_2 (by decide) ?_
  refine lv_istore_n (lv' := [(2, .int (iI 2048)), (1, .int (iI 0)), (0, .int (iI x))]) S.1 S.2.1 dX9_rootOf_5 rfl hl (by decide) rfl (fun ls hl => ?_)
  have L6 : ∀ (fu : Nat) (k : Nat) (r : Int) (w : Int) (H : Heap) (locs : List Loc) (ls : Array Slot), k < fu → (k ≤ 12) → (w = bt k) → (0 ≤ r ∧ r ≤ 4096 - 2 * w) → (rtA x k r = rt x) → lv_has ls 4 [(0, .int (iI x)), (1, .int (iI r)), (2, .int (iI w))] → gW K A s.heap [] H locs → W p l e { frames := 0, cells := 0, slots := 0, locals := 0 } s m ([.int (iI x)] : List Value).toArray below meth c H locs 0 0 Q (F0 m 6 ls []) := by
    intro fu
    induction fu with
    | zero => intro k r w H locs ls hfu; exact absurd hfu (Nat.not_lt_zero _)
    | succ fu ih =>
      intro k r w H locs ls hfu hk hw hr0 hrt hl hG
      have hb := bt_bd k hk
      refine lv_iload_n S.1 S.2.1 dX9_rootOf_6 rfl (lv_at hl 2 rfl) ?_
      refine g_if_le (tgt := 34) S dX9_rootOf_7 (by decide) (by omega) (fun q7 => ?_) (fun q7 => ?_)
      · skip
        have hk0 : k = 0 := by (rcases k with _ | j <;> first | rfl | (have z := bt_pos j; omega))
        refine lv_iload_n S.1 S.2.1 dX9_rootOf_34 rfl (lv_at hl 1 rfl) ?_
        have hG : gW K A s.heap [] _ _ := hG
        exact g_iret S hr hlk hQ dX9_rootOf_35 (Nat.le_of_ble_eq_true rfl) (Nat.le_of_ble_eq_true rfl) (() : Unit) (congrArg (fun z : Int => Value.int (iI z)) (by rw [← hrt, hk0]; rfl)) hG
      · skip
        obtain ⟨j, rfl⟩ : ∃ j, k = j + 1 := ⟨k - 1, by rcases k with _ | j <;> first | rfl | (rw [bt_0] at hw; omega)⟩
        have hp := bt_pos j
        have hh := bt_half j
        have hb2 := bt_bd j (by omega)
        have hs : (r + w) * (r + w) ≤ 4096 * 4096 := sq_mono (by omega) (by omega)
        have hs0 : 0 ≤ (r + w) * (r + w) := Int.mul_nonneg (by omega) (by omega)
        refine lv_iload_n S.1 S.2.1 dX9_rootOf_10 rfl (lv_at hl 1 rfl) ?_
        refine lv_iload_n S.1 S.2.1 dX9_rootOf_11 rfl (lv_at hl 2 rfl) ?_
        refine g_iadd S dX9_rootOf_12 rfl ?_
        refine lv_istore_n (lv' := [(3, .int (iI (r + w))), (0, .int (iI x)), (1, .int (iI r)), (2, .int (iI w))]) S.1 S.2.1 dX9_rootOf_13 rfl hl (by decide) rfl (fun ls hl => ?_)
        refine lv_iload_n S.1 S.2.1 dX9_rootOf_14 rfl (lv_at hl 0 rfl) ?_
        refine lv_iload_n S.1 S.2.1 dX9_rootOf_15 rfl (lv_at hl 0 rfl) ?_
        refine g_imul S dX9_rootOf_16 rfl ?_
        refine lv_iload_n S.1 S.2.1 dX9_rootOf_17 rfl (lv_at hl 1 rfl) ?_
        refine g_icmp_gt (tgt := 25) S dX9_rootOf_18 (by decide) (by omega) (by omega) (fun q18 => ?_) (fun q18 => ?_)
        · skip
          refine lv_iload_n S.1 S.2.1 dX9_rootOf_25 rfl (lv_at hl 2 rfl) ?_
          refine lv_istore_n (lv' := [(1, .int (iI r)), (3, .int (iI (r + w))), (0, .int (iI x)), (2, .int (iI w))]) S.1 S.2.1 dX9_rootOf_26 rfl hl (by decide) rfl (fun ls hl => ?_)
          refine lv_iload_n S.1 S.2.1 dX9_rootOf_27 rfl (lv_at hl 3 rfl) ?_
          refine g_iconst S dX9_rootOf_28 ?_
          refine g_idiv S dX9_rootOf_29 (by omega) (by omega) rfl ?_
          refine lv_istore_n (lv' := [(2, .int (iI (w / 2))), (1, .int (iI r)), (3, .int (iI (r + w))), (0, .int (iI x))]) S.1 S.2.1 dX9_rootOf_30 rfl hl (by decide) rfl (fun ls hl => ?_)
          refine lv_goto (tgt := 6) S.1 S.2.1 dX9_rootOf_31 (by decide) ?_
          exact ih j r (w / 2) _ _ _ (by omega) (by omega) (by rw [hw]; exact hh) (by omega) (by first | (rw [← hrt, rtA, ← hw, if_pos (by omega)]; done) | (rw [← hrt, rtA, ← hw, if_neg (by omega)]; done)) (lv_sub hl [3, 1, 0] rfl) hG
        · skip
          refine lv_iload_n S.1 S.2.1 dX9_rootOf_21 rfl (lv_at hl 0 rfl) ?_
          refine lv_goto (tgt := 26) S.1 S.2.1 dX9_rootOf_22 (by decide) ?_
          refine lv_istore_n (lv' := [(1, .int (iI (r + w))), (3, .int (iI (r + w))), (0, .int (iI x)), (2, .int (iI w))]) S.1 S.2.1 dX9_rootOf_26 rfl hl (by decide) rfl (fun ls hl => ?_)
          refine lv_iload_n S.1 S.2.1 dX9_rootOf_27 rfl (lv_at hl 3 rfl) ?_
          refine g_iconst S dX9_rootOf_28 ?_
          refine g_idiv S dX9_rootOf_29 (by omega) (by omega) rfl ?_
          refine lv_istore_n (lv' := [(2, .int (iI (w / 2))), (1, .int (iI (r + w))), (3, .int (iI (r + w))), (0, .int (iI x))]) S.1 S.2.1 dX9_rootOf_30 rfl hl (by decide) rfl (fun ls hl => ?_)
          refine lv_goto (tgt := 6) S.1 S.2.1 dX9_rootOf_31 (by decide) ?_
          exact ih j (r + w) (w / 2) _ _ _ (by omega) (by omega) (by rw [hw]; exact hh) (by omega) (by first | (rw [← hrt, rtA, ← hw, if_pos (by omega)]; done) | (rw [← hrt, rtA, ← hw, if_neg (by omega)]; done)) (lv_sub hl [3, 1, 0] rfl) hG
  exact L6 (Nat.succ (12)) 12 0 2048 _ _ _ (Nat.lt_succ_self _) (by decide) (by decide) (by decide) rfl (lv_sub hl [2, 1, 0] rfl) hG
