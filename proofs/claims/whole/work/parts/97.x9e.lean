set_option maxHeartbeats 1000000 in
set_option maxRecDepth 100000 in
theorem c_X9_property (l : Launch) (K : KC) (am : Nat → Nat) (th : Int) (lg : Int) (mr : Int) (en : Int) (pw : Int) (sl : Int) (ly : Int) (dn : Int) (iz : Int) (tz : Int) (nx : Int) (st : Int) (tk : Int) (vl : Int) (ef : Int) (ep : Int) (hO : Int) (hB : Int) (ol : Int) (rm : Int) (oz : Int) (NF : Int → Int) (x : Int) (hN : NOk0 NF) (hx : -2147483648 ≤ x ∧ x < 2147483648) : mG l yX9_property wsX9_property 2 45 K [.ref (am 0), .int (iI x)] [gMdl K am th (am 1) lg mr en pw sl ly dn iz tz nx st tk vl ef ep hO hB ol rm oz, gArr K 95 (am 1) NF] (fun (v : Value) (u : Int) => (v = .int (iI u)) ∧ (0 ≤ x ∧ x ≤ 5 → u = prpN NF x)) (fun (u : Int) => [gMdl K am (thr (bI (0 ≤ x ∧ x ≤ 5)) 1 1) (am 1) lg mr en pw sl ly dn iz tz nx st tk vl ef ep hO hB ol rm oz, gArr K 95 (am 1) NF]) 0 0 := by
  refine mG_of cX9_property 2 (by decide) rfl (Nat.le_of_ble_eq_true rfl) ?_
  intro p e s m below meth c A ls Q S C hG hl hr hlk hin hQ
  have S : CallFix p m c cX9_property 2 s ([.ref (am 0), .int (iI x)] : List Value).toArray wsX9_property RX9 := S
  have iX90 : ∀ w ∈ wsX90, w ∈ wsX9_property := fun _ h => List.mem_cons_of_mem _ (List.mem_append_right _ (h))
  have hl : lv_has ls 2 [(0, .ref (am 0)), (1, .int (iI x))] := hl
  have hG : gW K A s.heap [gMdl K am th (am 1) lg mr en pw sl ly dn iz tz nx st tk vl ef ep hO hB ol rm oz, gArr K 95 (am 1) NF] s.heap [] := hG
  have n0 := hN.1
  have n3 := hN.2.2.2.1
  refine lv_aload_n S.1 S.2.1 dX9_property_0 rfl (lv_at hl 0 rfl) ?_
  refine lv_iload_n S.1 S.2.1 dX9_property_1 rfl (lv_at hl 1 rfl) ?_
  refine g_i2l S dX9_property_2 (by omega) ?_
  refine g_lconst (z := 0) S dX9_property_3 rfl ?_
  refine g_ldc2 (z := 5) S dX9_property_4 (List.mem_of_getElem? (i := 1) rfl) rfl ?_
  refine g_invS (As := [.long (iL x), .long (iL 0), .long (iL 5)]) (rest := [.ref (am 0)]) (gs' := (fun u : Unit => [gMdl K am th (am 1) lg mr en pw sl ly dn iz tz nx st tk vl ef ep hO hB ol rm oz, gArr K 95 (am 1) NF])) S C hG [] (c_X9_in l K x 0 5 (by omega) (by omega) (by omega)) rfl rfl (va_cwS 3 S.2.2.2.2 gX9_property_X9_in rfl rfl rfl (by decide +kernel) ⟨Nat.le_of_ble_eq_true rfl, Nat.le_of_ble_eq_true rfl⟩) rfl hl.1 rfl (Nat.le_of_ble_eq_true rfl) dX9_property_7 ⟨Nat.le_of_ble_eq_true rfl, Nat.le_of_ble_eq_true rfl⟩ (fun _ => Nat.le_of_ble_eq_true rfl) (fun _ => rfl) (fun v u H locs hp hG => ?_)
  subst hp
  refine g_invV (As := [.int (iI (bI (0 ≤ x ∧ x ≤ 5)))]) (rest := []) (gs' := (fun u : Unit => [gMdl K am (thr (bI (0 ≤ x ∧ x ≤ 5)) 1 1) (am 1) lg mr en pw sl ly dn iz tz nx st tk vl ef ep hO hB ol rm oz, gArr K 95 (am 1) NF])) S C hG [0] (c_X9_passes l K am th (am 1) lg mr en pw sl ly dn iz tz nx st tk vl ef ep hO hB ol rm oz (bI (0 ≤ x ∧ x ≤ 5)) (bI_01 _)) rfl rfl 0 rfl rfl (cwV 1 S.2.2.2.2 gX9_property_X9_passes rfl rfl rfl (by decide +kernel) ⟨Nat.le_of_ble_eq_true rfl, Nat.le_of_ble_eq_true rfl⟩) rfl hl.1 rfl (Nat.le_of_ble_eq_true rfl) dX9_property_10 ⟨Nat.le_of_ble_eq_true rfl, Nat.le_of_ble_eq_true rfl⟩ (fun _ => Nat.le_of_ble_eq_true rfl) (fun _ => rfl) (fun v u H locs hp hG => ?_)
  subst hp
  refine g_ifne_b (B := ((bI (0 ≤ x ∧ x ≤ 5)) = 1)) (tgt := 18) S dX9_property_13 (by decide) (fun q13 => ?_) (fun q13 => ?_)
  · skip
    have qa := bI1 q13
    refine lv_iload_n S.1 S.2.1 dX9_property_18 rfl (lv_at hl 1 rfl) ?_
    rcases (show x = 0 ∨ x = 1 ∨ x = 2 ∨ x = 3 ∨ x = 4 ∨ x = 5 by omega) with hw9 | hw9 | hw9 | hw9 | hw9 | hw9
    · skip
      refine lv_tableIn (off := 33) (tgt := 52) S.1 S.2.1 dX9_property_19 (by rw [hw9] <;> decide) (by rw [hw9] <;> decide) (by rw [hw9] <;> rfl) (by decide) ?_
      refine lv_aload_n S.1 S.2.1 dX9_property_52 rfl (lv_at hl 0 rfl) ?_
      refine g_invV (As := []) (rest := []) (gs' := (fun u : Unit => [gMdl K am (thr (bI (0 ≤ x ∧ x ≤ 5)) 1 1) (am 1) lg mr en pw sl ly dn iz tz nx st tk vl ef ep hO hB ol rm oz, gArr K 95 (am 1) NF])) S C hG [0, 1] (c_X9_layers l K am (thr (bI (0 ≤ x ∧ x ≤ 5)) 1 1) (am 1) lg mr en pw sl ly dn iz tz nx st tk vl ef ep hO hB ol rm oz NF) rfl rfl 0 rfl rfl (cwV 0 S.2.2.2.2 gX9_property_X9_layers rfl rfl rfl (by decide +kernel) ⟨Nat.le_of_ble_eq_true rfl, Nat.le_of_ble_eq_true rfl⟩) rfl hl.1 rfl (Nat.le_of_ble_eq_true rfl) dX9_property_53 ⟨Nat.le_of_ble_eq_true rfl, Nat.le_of_ble_eq_true rfl⟩ (fun _ => Nat.le_of_ble_eq_true rfl) (fun _ => rfl) (fun v u H locs hp hG => ?_)
      subst hp
      have hG : gW K A s.heap [gMdl K am (thr (bI (0 ≤ x ∧ x ≤ 5)) 1 1) (am 1) lg mr en pw sl ly dn iz tz nx st tk vl ef ep hO hB ol rm oz, gArr K 95 (am 1) NF] _ _ := hG
      exact g_iret S hr hlk hQ dX9_property_56 (Nat.le_of_ble_eq_true rfl) (Nat.le_of_ble_eq_true rfl) ((NF 0) : Int) ⟨rfl, (fun _ => by rw [hw9] <;> rfl)⟩ hG
    · skip
      refine lv_tableIn (off := 38) (tgt := 57) S.1 S.2.1 dX9_property_19 (by rw [hw9] <;> decide) (by rw [hw9] <;> decide) (by rw [hw9] <;> rfl) (by decide) ?_
      refine lv_aload_n S.1 S.2.1 dX9_property_57 rfl (lv_at hl 0 rfl) ?_
      refine g_get S C hG iX90 0 rfl rfl 1 (by decide) (List.mem_of_getElem? (i := 2) rfl) rfl dX9_property_58 ?_
      refine g_iconst S dX9_property_61 ?_
      refine g_iald S C hG 1 rfl (by omega) (by omega) (by omega) dX9_property_62 ?_
      have hG : gW K A s.heap [gMdl K am (thr (bI (0 ≤ x ∧ x ≤ 5)) 1 1) (am 1) lg mr en pw sl ly dn iz tz nx st tk vl ef ep hO hB ol rm oz, gArr K 95 (am 1) NF] _ _ := hG
      exact g_iret S hr hlk hQ dX9_property_63 (Nat.le_of_ble_eq_true rfl) (Nat.le_of_ble_eq_true rfl) ((NF 1) : Int) ⟨rfl, (fun _ => by rw [hw9] <;> rfl)⟩ hG
    · skip
      refine lv_tableIn (off := 45) (tgt := 64) S.1 S.2.1 dX9_property_19 (by rw [hw9] <;> decide) (by rw [hw9] <;> decide) (by rw [hw9] <;> rfl) (by decide) ?_
      refine lv_aload_n S.1 S.2.1 dX9_property_64 rfl (lv_at hl 0 rfl) ?_
      refine g_get S C hG iX90 0 rfl rfl 1 (by decide) (List.mem_of_getElem? (i := 2) rfl) rfl dX9_property_65 ?_
      refine g_iconst S dX9_property_68 ?_
      refine g_iald S C hG 1 rfl (by omega) (by omega) (by omega) dX9_property_69 ?_
      have hG : gW K A s.heap [gMdl K am (thr (bI (0 ≤ x ∧ x ≤ 5)) 1 1) (am 1) lg mr en pw sl ly dn iz tz nx st tk vl ef ep hO hB ol rm oz, gArr K 95 (am 1) NF] _ _ := hG
      exact g_iret S hr hlk hQ dX9_property_70 (Nat.le_of_ble_eq_true rfl) (Nat.le_of_ble_eq_true rfl) ((NF 2) : Int) ⟨rfl, (fun _ => by rw [hw9] <;> rfl)⟩ hG
    · skip
      refine lv_tableIn (off := 52) (tgt := 71) S.1 S.2.1 dX9_property_19 (by rw [hw9] <;> decide) (by rw [hw9] <;> decide) (by rw [hw9] <;> rfl) (by decide) ?_
      refine lv_aload_n S.1 S.2.1 dX9_property_71 rfl (lv_at hl 0 rfl) ?_
      refine g_get S C hG iX90 0 rfl rfl 1 (by decide) (List.mem_of_getElem? (i := 2) rfl) rfl dX9_property_72 ?_
      refine g_iconst S dX9_property_75 ?_
      refine g_iald S C hG 1 rfl (by omega) (by omega) (by omega) dX9_property_76 ?_
      have hG : gW K A s.heap [gMdl K am (thr (bI (0 ≤ x ∧ x ≤ 5)) 1 1) (am 1) lg mr en pw sl ly dn iz tz nx st tk vl ef ep hO hB ol rm oz, gArr K 95 (am 1) NF] _ _ := hG
      exact g_iret S hr hlk hQ dX9_property_77 (Nat.le_of_ble_eq_true rfl) (Nat.le_of_ble_eq_true rfl) ((NF 3) : Int) ⟨rfl, (fun _ => by rw [hw9] <;> rfl)⟩ hG
    · skip
      refine lv_tableIn (off := 59) (tgt := 78) S.1 S.2.1 dX9_property_19 (by rw [hw9] <;> decide) (by rw [hw9] <;> decide) (by rw [hw9] <;> rfl) (by decide) ?_
      refine lv_aload_n S.1 S.2.1 dX9_property_78 rfl (lv_at hl 0 rfl) ?_
      refine g_invV (As := []) (rest := []) (gs' := (fun u : Unit => [gMdl K am (thr (bI (0 ≤ x ∧ x ≤ 5)) 1 1) (am 1) lg mr en pw sl ly dn iz tz nx st tk vl ef ep hO hB ol rm oz, gArr K 95 (am 1) NF])) S C hG [0, 1] (c_X9_shots l K am (thr (bI (0 ≤ x ∧ x ≤ 5)) 1 1) (am 1) lg mr en pw sl ly dn iz tz nx st tk vl ef ep hO hB ol rm oz NF) rfl rfl 0 rfl rfl (cwV 0 S.2.2.2.2 gX9_property_X9_shots rfl rfl rfl (by decide +kernel) ⟨Nat.le_of_ble_eq_true rfl, Nat.le_of_ble_eq_true rfl⟩) rfl hl.1 rfl (Nat.le_of_ble_eq_true rfl) dX9_property_79 ⟨Nat.le_of_ble_eq_true rfl, Nat.le_of_ble_eq_true rfl⟩ (fun _ => Nat.le_of_ble_eq_true rfl) (fun _ => rfl) (fun v u H locs hp hG => ?_)
      subst hp
      have hG : gW K A s.heap [gMdl K am (thr (bI (0 ≤ x ∧ x ≤ 5)) 1 1) (am 1) lg mr en pw sl ly dn iz tz nx st tk vl ef ep hO hB ol rm oz, gArr K 95 (am 1) NF] _ _ := hG
      exact g_iret S hr hlk hQ dX9_property_82 (Nat.le_of_ble_eq_true rfl) (Nat.le_of_ble_eq_true rfl) ((NF 4) : Int) ⟨rfl, (fun _ => by rw [hw9] <;> rfl)⟩ hG
    · skip
      refine lv_tableOut (tgt := 83) S.1 S.2.1 dX9_property_19 (by rw [hw9] <;> decide) (by decide) ?_
      refine lv_aload_n S.1 S.2.1 dX9_property_83 rfl (lv_at hl 0 rfl) ?_
      refine lv_aload_n S.1 S.2.1 dX9_property_84 rfl (lv_at hl 0 rfl) ?_
      refine g_invV (As := []) (rest := [.ref (am 0)]) (gs' := (fun u : Unit => [gMdl K am (thr (bI (0 ≤ x ∧ x ≤ 5)) 1 1) (am 1) lg mr en pw sl ly dn iz tz nx st tk vl ef ep hO hB ol rm oz, gArr K 95 (am 1) NF])) S C hG [0, 1] (c_X9_layers l K am (thr (bI (0 ≤ x ∧ x ≤ 5)) 1 1) (am 1) lg mr en pw sl ly dn iz tz nx st tk vl ef ep hO hB ol rm oz NF) rfl rfl 0 rfl rfl (cwV 0 S.2.2.2.2 gX9_property_X9_layers rfl rfl rfl (by decide +kernel) ⟨Nat.le_of_ble_eq_true rfl, Nat.le_of_ble_eq_true rfl⟩) rfl hl.1 rfl (Nat.le_of_ble_eq_true rfl) dX9_property_85 ⟨Nat.le_of_ble_eq_true rfl, Nat.le_of_ble_eq_true rfl⟩ (fun _ => Nat.le_of_ble_eq_true rfl) (fun _ => rfl) (fun v u H locs hp hG => ?_)
      subst hp
      refine g_invV (As := [.int (iI (NF 0))]) (rest := []) (gs' := (fun u : Unit => [gMdl K am (thr (bI (0 ≤ x ∧ x ≤ 5)) 1 1) (am 1) lg mr en pw sl ly dn iz tz nx st tk vl ef ep hO hB ol rm oz, gArr K 95 (am 1) NF])) S C hG [0, 1] (c_X9_depthOf l K am (thr (bI (0 ≤ x ∧ x ≤ 5)) 1 1) (am 1) lg mr en pw sl ly dn iz tz nx st tk vl ef ep hO hB ol rm oz NF (NF 0) hN (by omega)) rfl rfl 0 rfl rfl (cwV 1 S.2.2.2.2 gX9_property_X9_depthOf rfl rfl rfl (by decide +kernel) ⟨Nat.le_of_ble_eq_true rfl, Nat.le_of_ble_eq_true rfl⟩) rfl hl.1 rfl (Nat.le_of_ble_eq_true rfl) dX9_property_88 ⟨Nat.le_of_ble_eq_true rfl, Nat.le_of_ble_eq_true rfl⟩ (fun _ => Nat.le_of_ble_eq_true rfl) (fun _ => rfl) (fun v u H locs hp hG => ?_)
      subst hp
      have hG : gW K A s.heap [gMdl K am (thr (bI (0 ≤ x ∧ x ≤ 5)) 1 1) (am 1) lg mr en pw sl ly dn iz tz nx st tk vl ef ep hO hB ol rm oz, gArr K 95 (am 1) NF] _ _ := hG
      exact g_iret S hr hlk hQ dX9_property_91 (Nat.le_of_ble_eq_true rfl) (Nat.le_of_ble_eq_true rfl) ((depN NF (NF 0).toNat) : Int) ⟨rfl, (fun _ => by rw [hw9] <;> rfl)⟩ hG
  · skip
    refine g_iconst S dX9_property_16 ?_
    have hG : gW K A s.heap [gMdl K am (thr (bI (0 ≤ x ∧ x ≤ 5)) 1 1) (am 1) lg mr en pw sl ly dn iz tz nx st tk vl ef ep hO hB ol rm oz, gArr K 95 (am 1) NF] _ _ := hG
    exact g_iret S hr hlk hQ dX9_property_17 (Nat.le_of_ble_eq_true rfl) (Nat.le_of_ble_eq_true rfl) ((0) : Int) ⟨rfl, (fun h => absurd (bI_t h) q13)⟩ hG

set_option maxHeartbeats 1000000 in
set_option maxRecDepth 100000 in
theorem c_X9_layer (l : Launch) (K : KC) (am : Nat → Nat) (th : Int) (rw : Nat) (lg : Int) (mr : Int) (en : Int) (pw : Int) (sl : Int) (ly : Int) (dn : Int) (iz : Int) (tz : Int) (nx : Int) (st : Int) (tk : Int) (vl : Int) (ef : Int) (ep : Int) (hO : Int) (hB : Int) (ol : Int) (rm : Int) (oz : Int) (NF : Int → Int) (y : Int) (x : Int) (hN : NOk0 NF) (hv : -2147483648 ≤ y ∧ y < 2147483648) (hx : -2147483648 ≤ x ∧ x < 2147483648) : mG l yX9_layer wsX9_layer 2 46 K [.ref (am 0), .int (iI y), .int (iI x)] [gMdl K am th rw lg mr en pw sl ly dn iz tz nx st tk vl ef ep hO hB ol rm oz, gArr K 95 rw NF] (fun (v : Value) (u : Int) => (v = .int (iI u)) ∧ ((0 ≤ y ∧ y < NF 0) ∧ (0 ≤ x ∧ x ≤ 3) → u = layA NF y x)) (fun (u : Int) => [gMdl K am (thr (bI (0 ≤ y ∧ y < NF 0)) (bI (0 ≤ x ∧ x ≤ 3)) 1) rw lg mr en pw sl ly dn iz tz nx st tk vl ef ep hO hB ol rm oz, gArr K 95 rw NF]) 0 0 := by
  refine mG_of cX9_layer 3 (by decide) rfl (Nat.le_of_ble_eq_true rfl) ?_
  intro p e s m below meth c A ls Q S C hG hl hr hlk hin hQ
  have S : CallFix p m c cX9_layer 3 s ([.ref (am 0), .int (iI y), .int (iI x)] : List Value).toArray wsX9_layer RX9 := S
  have iX90 : ∀ w ∈ wsX90, w ∈ wsX9_layer := fun _ h => List.mem_cons_of_mem _ (List.mem_append_right _ (h))
  have hl : lv_has ls 3 [(0, .ref (am 0)), (1, .int (iI y)), (2, .int (iI x))] := hl
  have hG : gW K A s.heap [gMdl K am th rw lg mr en pw sl ly dn iz tz nx st tk vl ef ep hO hB ol rm oz, gArr K 95 rw NF] s.heap [] := hG
  have n0 := hN.1
  have n3 := hN.2.2.2.1
  refine lv_aload_n S.1 S.2.1 dX9_layer_0 rfl (lv_at hl 0 rfl) ?_
  refine lv_aload_n S.1 S.2.1 dX9_layer_1 rfl (lv_at hl 0 rfl) ?_
  refine lv_iload_n S.1 S.2.1 dX9_layer_2 rfl (lv_at hl 1 rfl) ?_
  refine g_invV (As := [.int (iI y)]) (rest := [.ref (am 0)]) (gs' := (fun u : Unit => [gMdl K am th rw lg mr en pw sl ly dn iz tz nx st tk vl ef ep hO hB ol rm oz, gArr K 95 rw NF])) S C hG [0, 1] (c_X9_isLayer l K am th rw lg mr en pw sl ly dn iz tz nx st tk vl ef ep hO hB ol rm oz NF y hN hv) rfl rfl 0 rfl rfl (cwV 1 S.2.2.2.2 gX9_layer_X9_isLayer rfl rfl rfl (by decide +kernel) ⟨Nat.le_of_ble_eq_true rfl, Nat.le_of_ble_eq_true rfl⟩) rfl hl.1 rfl (Nat.le_of_ble_eq_true rfl) dX9_layer_3 ⟨Nat.le_of_ble_eq_true rfl, Nat.le_of_ble_eq_true rfl⟩ (fun _ => Nat.le_of_ble_eq_true rfl) (fun _ => rfl) (fun v u H locs hp hG => ?_)
  subst hp
  refine lv_iload_n S.1 S.2.1 dX9_layer_6 rfl (lv_at hl 2 rfl) ?_
  refine g_i2l S dX9_layer_7 (by omega) ?_
  refine g_lconst (z := 0) S dX9_layer_8 rfl ?_
  refine g_ldc2 (z := 3) S dX9_layer_9 (List.mem_of_getElem? (i := 1) rfl) rfl ?_
  refine g_invS (As := [.long (iL x), .long (iL 0), .long (iL 3)]) (rest := [.int (iI (bI (0 ≤ y ∧ y < NF 0))), .ref (am 0)]) (gs' := (fun u : Unit => [gMdl K am th rw lg mr en pw sl ly dn iz tz nx st tk vl ef ep hO hB ol rm oz, gArr K 95 rw NF])) S C hG [] (c_X9_in l K x 0 3 (by omega) (by omega) (by omega)) rfl rfl (va_cwS 3 S.2.2.2.2 gX9_layer_X9_in rfl rfl rfl (by decide +kernel) ⟨Nat.le_of_ble_eq_true rfl, Nat.le_of_ble_eq_true rfl⟩) rfl hl.1 rfl (Nat.le_of_ble_eq_true rfl) dX9_layer_12 ⟨Nat.le_of_ble_eq_true rfl, Nat.le_of_ble_eq_true rfl⟩ (fun _ => Nat.le_of_ble_eq_true rfl) (fun _ => rfl) (fun v u H locs hp hG => ?_)
  subst hp
  refine g_invV (As := [.int (iI (bI (0 ≤ y ∧ y < NF 0))), .int (iI (bI (0 ≤ x ∧ x ≤ 3)))]) (rest := []) (gs' := (fun u : Unit => [gMdl K am (thr (bI (0 ≤ y ∧ y < NF 0)) (bI (0 ≤ x ∧ x ≤ 3)) 1) rw lg mr en pw sl ly dn iz tz nx st tk vl ef ep hO hB ol rm oz, gArr K 95 rw NF])) S C hG [0] (c_X9_passes2 l K am th rw lg mr en pw sl ly dn iz tz nx st tk vl ef ep hO hB ol rm oz (bI (0 ≤ y ∧ y < NF 0)) (bI (0 ≤ x ∧ x ≤ 3)) (bI_01 _) (bI_01 _)) rfl rfl 0 rfl rfl (cwV 2 S.2.2.2.2 gX9_layer_X9_passes2 rfl rfl rfl (by decide +kernel) ⟨Nat.le_of_ble_eq_true rfl, Nat.le_of_ble_eq_true rfl⟩) rfl hl.1 rfl (Nat.le_of_ble_eq_true rfl) dX9_layer_15 ⟨Nat.le_of_ble_eq_true rfl, Nat.le_of_ble_eq_true rfl⟩ (fun _ => Nat.le_of_ble_eq_true rfl) (fun _ => rfl) (fun v u H locs hp hG => ?_)
  subst hp
  refine g_ifne_b (B := ((bI (0 ≤ y ∧ y < NF 0)) = 1 ∧ (bI (0 ≤ x ∧ x ≤ 3)) = 1)) (tgt := 23) S dX9_layer_18 (by decide) (fun q18 => ?_) (fun q18 => ?_)
  · skip
    have qa := bI1 q18.1
    have qb := bI1 q18.2
    refine lv_iload_n S.1 S.2.1 dX9_layer_23 rfl (lv_at hl 2 rfl) ?_
    refine g_iconst S dX9_layer_24 ?_
    refine g_icmp_ne (tgt := 36) S dX9_layer_25 (by decide) (by omega) (by omega) (fun q25 => ?_) (fun q25 => ?_)
    · skip
      refine lv_aload_n S.1 S.2.1 dX9_layer_36 rfl (lv_at hl 0 rfl) ?_
      refine lv_iload_n S.1 S.2.1 dX9_layer_37 rfl (lv_at hl 1 rfl) ?_
      refine lv_iload_n S.1 S.2.1 dX9_layer_38 rfl (lv_at hl 2 rfl) ?_
      refine g_invV (As := [.int (iI y), .int (iI x)]) (rest := []) (gs' := (fun u : Unit => [gMdl K am (thr (bI (0 ≤ y ∧ y < NF 0)) (bI (0 ≤ x ∧ x ≤ 3)) 1) rw lg mr en pw sl ly dn iz tz nx st tk vl ef ep hO hB ol rm oz, gArr K 95 rw NF])) S C hG [0, 1] (c_X9_ofLayer l K am (thr (bI (0 ≤ y ∧ y < NF 0)) (bI (0 ≤ x ∧ x ≤ 3)) 1) rw lg mr en pw sl ly dn iz tz nx st tk vl ef ep hO hB ol rm oz NF y x (by omega) (by omega)) rfl rfl 0 rfl rfl (cwV 2 S.2.2.2.2 gX9_layer_X9_ofLayer rfl rfl rfl (by decide +kernel) ⟨Nat.le_of_ble_eq_true rfl, Nat.le_of_ble_eq_true rfl⟩) rfl hl.1 rfl (Nat.le_of_ble_eq_true rfl) dX9_layer_39 ⟨Nat.le_of_ble_eq_true rfl, Nat.le_of_ble_eq_true rfl⟩ (fun _ => Nat.le_of_ble_eq_true rfl) (fun _ => rfl) (fun v u H locs hp hG => ?_)
      subst hp
      have hG : gW K A s.heap [gMdl K am (thr (bI (0 ≤ y ∧ y < NF 0)) (bI (0 ≤ x ∧ x ≤ 3)) 1) rw lg mr en pw sl ly dn iz tz nx st tk vl ef ep hO hB ol rm oz, gArr K 95 rw NF] _ _ := hG
      exact g_iret S hr hlk hQ dX9_layer_42 (Nat.le_of_ble_eq_true rfl) (Nat.le_of_ble_eq_true rfl) ((NF (5 + 3 * y + x)) : Int) ⟨rfl, (fun _ => by unfold layA <;> rw [if_neg (by omega)])⟩ hG
    · skip
      refine lv_aload_n S.1 S.2.1 dX9_layer_28 rfl (lv_at hl 0 rfl) ?_
      refine lv_iload_n S.1 S.2.1 dX9_layer_29 rfl (lv_at hl 1 rfl) ?_
      refine g_invV (As := [.int (iI y)]) (rest := []) (gs' := (fun u : Unit => [gMdl K am (thr (bI (0 ≤ y ∧ y < NF 0)) (bI (0 ≤ x ∧ x ≤ 3)) 1) rw lg mr en pw sl ly dn iz tz nx st tk vl ef ep hO hB ol rm oz, gArr K 95 rw NF])) S C hG [0, 1] (c_X9_depthOf l K am (thr (bI (0 ≤ y ∧ y < NF 0)) (bI (0 ≤ x ∧ x ≤ 3)) 1) rw lg mr en pw sl ly dn iz tz nx st tk vl ef ep hO hB ol rm oz NF y hN (by omega)) rfl rfl 0 rfl rfl (cwV 1 S.2.2.2.2 gX9_layer_X9_depthOf rfl rfl rfl (by decide +kernel) ⟨Nat.le_of_ble_eq_true rfl, Nat.le_of_ble_eq_true rfl⟩) rfl hl.1 rfl (Nat.le_of_ble_eq_true rfl) dX9_layer_30 ⟨Nat.le_of_ble_eq_true rfl, Nat.le_of_ble_eq_true rfl⟩ (fun _ => Nat.le_of_ble_eq_true rfl) (fun _ => rfl) (fun v u H locs hp hG => ?_)
      subst hp
      refine lv_goto (tgt := 42) S.1 S.2.1 dX9_layer_33 (by decide) ?_
      have hG : gW K A s.heap [gMdl K am (thr (bI (0 ≤ y ∧ y < NF 0)) (bI (0 ≤ x ∧ x ≤ 3)) 1) rw lg mr en pw sl ly dn iz tz nx st tk vl ef ep hO hB ol rm oz, gArr K 95 rw NF] _ _ := hG
      exact g_iret S hr hlk hQ dX9_layer_42 (Nat.le_of_ble_eq_true rfl) (Nat.le_of_ble_eq_true rfl) ((depN NF y.toNat) : Int) ⟨rfl, (fun _ => by unfold layA <;> rw [if_pos (by omega)])⟩ hG
  · skip
    refine g_iconst S dX9_layer_21 ?_
    have hG : gW K A s.heap [gMdl K am (thr (bI (0 ≤ y ∧ y < NF 0)) (bI (0 ≤ x ∧ x ≤ 3)) 1) rw lg mr en pw sl ly dn iz tz nx st tk vl ef ep hO hB ol rm oz, gArr K 95 rw NF] _ _ := hG
    exact g_iret S hr hlk hQ dX9_layer_22 (Nat.le_of_ble_eq_true rfl) (Nat.le_of_ble_eq_true rfl) ((0) : Int) ⟨rfl, (fun h => absurd ⟨bI_t h.1, bI_t h.2⟩ q18)⟩ hG

set_option maxHeartbeats 1000000 in
set_option maxRecDepth 100000 in
theorem c_X9_shot (l : Launch) (K : KC) (am : Nat → Nat) (th : Int) (rw : Nat) (lg : Int) (mr : Int) (en : Int) (pw : Int) (sl : Int) (ly : Int) (dn : Int) (iz : Int) (tz : Int) (nx : Int) (st : Int) (tk : Int) (vl : Int) (ef : Int) (ep : Int) (hO : Int) (hB : Int) (ol : Int) (rm : Int) (oz : Int) (NF : Int → Int) (y : Int) (x : Int) (hN : NOk0 NF) (hv : -2147483648 ≤ y ∧ y < 2147483648) (hx : -2147483648 ≤ x ∧ x < 2147483648) : mG l yX9_shot wsX9_shot 2 46 K [.ref (am 0), .int (iI y), .int (iI x)] [gMdl K am th rw lg mr en pw sl ly dn iz tz nx st tk vl ef ep hO hB ol rm oz, gArr K 95 rw NF] (fun (v : Value) (u : Int) => (v = .int (iI u)) ∧ ((0 ≤ y ∧ y < NF 4) ∧ (0 ≤ x ∧ x ≤ 2) → u = NF (35 + 3 * y + x))) (fun (u : Int) => [gMdl K am (thr (bI (0 ≤ y ∧ y < NF 4)) (bI (0 ≤ x ∧ x ≤ 2)) 1) rw lg mr en pw sl ly dn iz tz nx st tk vl ef ep hO hB ol rm oz, gArr K 95 rw NF]) 0 0 := by
  refine mG_of cX9_shot 3 (by decide) rfl (Nat.le_of_ble_eq_true rfl) ?_
  intro p e s m below meth c A ls Q S C hG hl hr hlk hin hQ
  have S : CallFix p m c cX9_shot 3 s ([.ref (am 0), .int (iI y), .int (iI x)] : List Value).toArray wsX9_shot RX9 := S
  have iX90 : ∀ w ∈ wsX90, w ∈ wsX9_shot := fun _ h => List.mem_cons_of_mem _ (List.mem_append_right _ (h))
  have hl : lv_has ls 3 [(0, .ref (am 0)), (1, .int (iI y)), (2, .int (iI x))] := hl
  have hG : gW K A s.heap [gMdl K am th rw lg mr en pw sl ly dn iz tz nx st tk vl ef ep hO hB ol rm oz, gArr K 95 rw NF] s.heap [] := hG
  have n0 := hN.1
  have n3 := hN.2.2.2.1
  refine lv_aload_n S.1 S.2.1 dX9_shot_0 rfl (lv_at hl 0 rfl) ?_
  refine lv_aload_n S.1 S.2.1 dX9_shot_1 rfl (lv_at hl 0 rfl) ?_
  refine lv_iload_n S.1 S.2.1 dX9_shot_2 rfl (lv_at hl 1 rfl) ?_
  refine g_invV (As := [.int (iI y)]) (rest := [.ref (am 0)]) (gs' := (fun u : Unit => [gMdl K am th rw lg mr en pw sl ly dn iz tz nx st tk vl ef ep hO hB ol rm oz, gArr K 95 rw NF])) S C hG [0, 1] (c_X9_isShot l K am th rw lg mr en pw sl ly dn iz tz nx st tk vl ef ep hO hB ol rm oz NF y hN hv) rfl rfl 0 rfl rfl (cwV 1 S.2.2.2.2 gX9_shot_X9_isShot rfl rfl rfl (by decide +kernel) ⟨Nat.le_of_ble_eq_true rfl, Nat.le_of_ble_eq_true rfl⟩) rfl hl.1 rfl (Nat.le_of_ble_eq_true rfl) dX9_shot_3 ⟨Nat.le_of_ble_eq_true rfl, Nat.le_of_ble_eq_true rfl⟩ (fun _ => Nat.le_of_ble_eq_true rfl) (fun _ => rfl) (fun v u H locs hp hG => ?_)
  subst hp
  refine lv_iload_n S.1 S.2.1 dX9_shot_6 rfl (lv_at hl 2 rfl) ?_
  refine g_i2l S dX9_shot_7 (by omega) ?_
  refine g_lconst (z := 0) S dX9_shot_8 rfl ?_
  refine g_ldc2 (z := 2) S dX9_shot_9 (List.mem_of_getElem? (i := 1) rfl) rfl ?_
  refine g_invS (As := [.long (iL x), .long (iL 0), .long (iL 2)]) (rest := [.int (iI (bI (0 ≤ y ∧ y < NF 4))), .ref (am 0)]) (gs' := (fun u : Unit => [gMdl K am th rw lg mr en pw sl ly dn iz tz nx st tk vl ef ep hO hB ol rm oz, gArr K 95 rw NF])) S C hG [] (c_X9_in l K x 0 2 (by omega) (by omega) (by omega)) rfl rfl (va_cwS 3 S.2.2.2.2 gX9_shot_X9_in rfl rfl rfl (by decide +kernel) ⟨Nat.le_of_ble_eq_true rfl, Nat.le_of_ble_eq_true rfl⟩) rfl hl.1 rfl (Nat.le_of_ble_eq_true rfl) dX9_shot_12 ⟨Nat.le_of_ble_eq_true rfl, Nat.le_of_ble_eq_true rfl⟩ (fun _ => Nat.le_of_ble_eq_true rfl) (fun _ => rfl) (fun v u H locs hp hG => ?_)
  subst hp
  refine g_invV (As := [.int (iI (bI (0 ≤ y ∧ y < NF 4))), .int (iI (bI (0 ≤ x ∧ x ≤ 2)))]) (rest := []) (gs' := (fun u : Unit => [gMdl K am (thr (bI (0 ≤ y ∧ y < NF 4)) (bI (0 ≤ x ∧ x ≤ 2)) 1) rw lg mr en pw sl ly dn iz tz nx st tk vl ef ep hO hB ol rm oz, gArr K 95 rw NF])) S C hG [0] (c_X9_passes2 l K am th rw lg mr en pw sl ly dn iz tz nx st tk vl ef ep hO hB ol rm oz (bI (0 ≤ y ∧ y < NF 4)) (bI (0 ≤ x ∧ x ≤ 2)) (bI_01 _) (bI_01 _)) rfl rfl 0 rfl rfl (cwV 2 S.2.2.2.2 gX9_shot_X9_passes2 rfl rfl rfl (by decide +kernel) ⟨Nat.le_of_ble_eq_true rfl, Nat.le_of_ble_eq_true rfl⟩) rfl hl.1 rfl (Nat.le_of_ble_eq_true rfl) dX9_shot_15 ⟨Nat.le_of_ble_eq_true rfl, Nat.le_of_ble_eq_true rfl⟩ (fun _ => Nat.le_of_ble_eq_true rfl) (fun _ => rfl) (fun v u H locs hp hG => ?_)
  subst hp
  refine g_ifeq_b (B := ((bI (0 ≤ y ∧ y < NF 4)) = 1 ∧ (bI (0 ≤ x ∧ x ≤ 2)) = 1)) (tgt := 30) S dX9_shot_18 (by decide) (fun q18 => ?_) (fun q18 => ?_)
  · skip
    refine g_iconst S dX9_shot_30 ?_
    have hG : gW K A s.heap [gMdl K am (thr (bI (0 ≤ y ∧ y < NF 4)) (bI (0 ≤ x ∧ x ≤ 2)) 1) rw lg mr en pw sl ly dn iz tz nx st tk vl ef ep hO hB ol rm oz, gArr K 95 rw NF] _ _ := hG
    exact g_iret S hr hlk hQ dX9_shot_31 (Nat.le_of_ble_eq_true rfl) (Nat.le_of_ble_eq_true rfl) ((0) : Int) ⟨rfl, (fun h => absurd ⟨bI_t h.1, bI_t h.2⟩ q18)⟩ hG
  · skip
    have qa := bI1 q18.1
    have qb := bI1 q18.2
    refine lv_aload_n S.1 S.2.1 dX9_shot_21 rfl (lv_at hl 0 rfl) ?_
    refine lv_iload_n S.1 S.2.1 dX9_shot_22 rfl (lv_at hl 1 rfl) ?_
    refine lv_iload_n S.1 S.2.1 dX9_shot_23 rfl (lv_at hl 2 rfl) ?_
    refine g_invV (As := [.int (iI y), .int (iI x)]) (rest := []) (gs' := (fun u : Unit => [gMdl K am (thr (bI (0 ≤ y ∧ y < NF 4)) (bI (0 ≤ x ∧ x ≤ 2)) 1) rw lg mr en pw sl ly dn iz tz nx st tk vl ef ep hO hB ol rm oz, gArr K 95 rw NF])) S C hG [0, 1] (c_X9_ofShot l K am (thr (bI (0 ≤ y ∧ y < NF 4)) (bI (0 ≤ x ∧ x ≤ 2)) 1) rw lg mr en pw sl ly dn iz tz nx st tk vl ef ep hO hB ol rm oz NF y x (by omega) (by omega)) rfl rfl 0 rfl rfl (cwV 2 S.2.2.2.2 gX9_shot_X9_ofShot rfl rfl rfl (by decide +kernel) ⟨Nat.le_of_ble_eq_true rfl, Nat.le_of_ble_eq_true rfl⟩) rfl hl.1 rfl (Nat.le_of_ble_eq_true rfl) dX9_shot_24 ⟨Nat.le_of_ble_eq_true rfl, Nat.le_of_ble_eq_true rfl⟩ (fun _ => Nat.le_of_ble_eq_true rfl) (fun _ => rfl) (fun v u H locs hp hG => ?_)
    subst hp
    refine lv_goto (tgt := 31) S.1 S.2.1 dX9_shot_27 (by decide) ?_
    have hG : gW K A s.heap [gMdl K am (thr (bI (0 ≤ y ∧ y < NF 4)) (bI (0 ≤ x ∧ x ≤ 2)) 1) rw lg mr en pw sl ly dn iz tz nx st tk vl ef ep hO hB ol rm oz, gArr K 95 rw NF] _ _ := hG
    exact g_iret S hr hlk hQ dX9_shot_31 (Nat.le_of_ble_eq_true rfl) (Nat.le_of_ble_eq_true rfl) ((NF (35 + 3 * y + x)) : Int) ⟨rfl, (fun _ => rfl)⟩ hG

set_option maxHeartbeats 1000000 in
set_option maxRecDepth 100000 in
theorem c_X9_path (l : Launch) (K : KC) (am : Nat → Nat) (th : Int) (rw : Nat) (lg : Int) (mr : Int) (en : Int) (pw : Int) (sl : Int) (ly : Int) (dn : Int) (iz : Int) (tz : Int) (nx : Int) (st : Int) (tk : Int) (vl : Int) (ef : Int) (ep : Int) (hO : Int) (hB : Int) (ol : Int) (rm : Int) (oz : Int) (NF : Int → Int) (A0 : Int → Int) (A1 : Int → Int) (A2 : Int → Int) (A3 : Int → Int) (A4 : Int → Int) (A5 : Int → Int) (A6 : Int → Int) (y : Int) (x : Int) (hN : NOk0 NF) (hv : -2147483648 ≤ y ∧ y < 2147483648) (hx : -2147483648 ≤ x ∧ x < 2147483648) : mG l yX9_path wsX9_path 6 135 K [.ref (am 0), .int (iI y), .int (iI x)] [gMdl K am th rw lg mr en pw sl ly dn iz tz nx st tk vl ef ep hO hB ol rm oz, gArr K 95 rw NF, gArr K 60 (am 3) A0, gArrZ K 60 (am 4) A1, gArr K 60 (am 5) A2, gArr K 60 (am 6) A3, gArr K 60 (am 7) A4, gArr K 60 (am 8) A5, gArr K 60 (am 9) A6] (fun (v : Value) (u : Int × Int × Int × Int × Int × Int × Int × Int × (Int → Int) × (Int → Int) × (Int → Int) × (Int → Int) × (Int → Int) × (Int → Int) × (Int → Int)) => (v = .int (iI u.1)) ∧ ((0 ≤ y ∧ y < NF 4) ∧ (0 ≤ x ∧ x ≤ 9) → u.1 = pthA NF y x)) (fun (u : Int × Int × Int × Int × Int × Int × Int × Int × (Int → Int) × (Int → Int) × (Int → Int) × (Int → Int) × (Int → Int) × (Int → Int) × (Int → Int)) => [gMdl K am (thr (bI (0 ≤ y ∧ y < NF 4)) (bI (0 ≤ x ∧ x ≤ 9)) 1) rw u.2.1 u.2.2.1 u.2.2.2.1 u.2.2.2.2.1 u.2.2.2.2.2.1 u.2.2.2.2.2.2.1 u.2.2.2.2.2.2.2.1 iz tz nx st tk vl ef ep hO hB ol rm oz, gArr K 95 rw NF, gArr K 60 (am 3) u.2.2.2.2.2.2.2.2.1, gArrZ K 60 (am 4) u.2.2.2.2.2.2.2.2.2.1, gArr K 60 (am 5) u.2.2.2.2.2.2.2.2.2.2.1, gArr K 60 (am 6) u.2.2.2.2.2.2.2.2.2.2.2.1, gArr K 60 (am 7) u.2.2.2.2.2.2.2.2.2.2.2.2.1, gArr K 60 (am 8) u.2.2.2.2.2.2.2.2.2.2.2.2.2.1, gArr K 60 (am 9) u.2.2.2.2.2.2.2.2.2.2.2.2.2.2]) 0 0 := by
  refine mG_of cX9_path 3 (by decide) rfl (Nat.le_of_ble_eq_true rfl) ?_
  intro p e s m below meth c A ls Q S C hG hl hr hlk hin hQ
  have S : CallFix p m c cX9_path 3 s ([.ref (am 0), .int (iI y), .int (iI x)] : List Value).toArray wsX9_path RX9 := S
  have iX90 : ∀ w ∈ wsX90, w ∈ wsX9_path := fun _ h => List.mem_cons_of_mem _ (List.mem_append_right _ (h))
  have hl : lv_has ls 3 [(0, .ref (am 0)), (1, .int (iI y)), (2, .int (iI x))] := hl
  have hG : gW K A s.heap [gMdl K am th rw lg mr en pw sl ly dn iz tz nx st tk vl ef ep hO hB ol rm oz, gArr K 95 rw NF, gArr K 60 (am 3) A0, gArrZ K 60 (am 4) A1, gArr K 60 (am 5) A2, gArr K 60 (am 6) A3, gArr K 60 (am 7) A4, gArr K 60 (am 8) A5, gArr K 60 (am 9) A6] s.heap [] := hG
  have n0 := hN.1
  have n3 := hN.2.2.2.1
  refine lv_aload_n S.1 S.2.1 dX9_path_0 rfl (lv_at hl 0 rfl) ?_
  refine lv_aload_n S.1 S.2.1 dX9_path_1 rfl (lv_at hl 0 rfl) ?_
  refine lv_iload_n S.1 S.2.1 dX9_path_2 rfl (lv_at hl 1 rfl) ?_
  refine g_invV (As := [.int (iI y)]) (rest := [.ref (am 0)]) (gs' := (fun u : Unit => [gMdl K am th rw lg mr en pw sl ly dn iz tz nx st tk vl ef ep hO hB ol rm oz, gArr K 95 rw NF, gArr K 60 (am 3) A0, gArrZ K 60 (am 4) A1, gArr K 60 (am 5) A2, gArr K 60 (am 6) A3, gArr K 60 (am 7) A4, gArr K 60 (am 8) A5, gArr K 60 (am 9) A6])) S C hG [0, 1] (c_X9_isShot l K am th rw lg mr en pw sl ly dn iz tz nx st tk vl ef ep hO hB ol rm oz NF y hN hv) rfl rfl 0 rfl rfl (cwV 1 S.2.2.2.2 gX9_path_X9_isShot rfl rfl rfl (by decide +kernel) ⟨Nat.le_of_ble_eq_true rfl, Nat.le_of_ble_eq_true rfl⟩) rfl hl.1 rfl (Nat.le_of_ble_eq_true rfl) dX9_path_3 ⟨Nat.le_of_ble_eq_true rfl, Nat.le_of_ble_eq_true rfl⟩ (fun _ => Nat.le_of_ble_eq_true rfl) (fun _ => rfl) (fun v u H locs hp hG => ?_)
  subst hp
  refine lv_iload_n S.1 S.2.1 dX9_path_6 rfl (lv_at hl 2 rfl) ?_
  refine g_i2l S dX9_path_7 (by omega) ?_
  refine g_lconst (z := 0) S dX9_path_8 rfl ?_
  refine g_ldc2 (z := 9) S dX9_path_9 (List.mem_of_getElem? (i := 1) rfl) rfl ?_
  refine g_invS (As := [.long (iL x), .long (iL 0), .long (iL 9)]) (rest := [.int (iI (bI (0 ≤ y ∧ y < NF 4))), .ref (am 0)]) (gs' := (fun u : Unit => [gMdl K am th rw lg mr en pw sl ly dn iz tz nx st tk vl ef ep hO hB ol rm oz, gArr K 95 rw NF, gArr K 60 (am 3) A0, gArrZ K 60 (am 4) A1, gArr K 60 (am 5) A2, gArr K 60 (am 6) A3, gArr K 60 (am 7) A4, gArr K 60 (am 8) A5, gArr K 60 (am 9) A6])) S C hG [] (c_X9_in l K x 0 9 (by omega) (by omega) (by omega)) rfl rfl (va_cwS 3 S.2.2.2.2 gX9_path_X9_in rfl rfl rfl (by decide +kernel) ⟨Nat.le_of_ble_eq_true rfl, Nat.le_of_ble_eq_true rfl⟩) rfl hl.1 rfl (Nat.le_of_ble_eq_true rfl) dX9_path_12 ⟨Nat.le_of_ble_eq_true rfl, Nat.le_of_ble_eq_true rfl⟩ (fun _ => Nat.le_of_ble_eq_true rfl) (fun _ => rfl) (fun v u H locs hp hG => ?_)
  subst hp
  refine g_invV (As := [.int (iI (bI (0 ≤ y ∧ y < NF 4))), .int (iI (bI (0 ≤ x ∧ x ≤ 9)))]) (rest := []) (gs' := (fun u : Unit => [gMdl K am (thr (bI (0 ≤ y ∧ y < NF 4)) (bI (0 ≤ x ∧ x ≤ 9)) 1) rw lg mr en pw sl ly dn iz tz nx st tk vl ef ep hO hB ol rm oz, gArr K 95 rw NF, gArr K 60 (am 3) A0, gArrZ K 60 (am 4) A1, gArr K 60 (am 5) A2, gArr K 60 (am 6) A3, gArr K 60 (am 7) A4, gArr K 60 (am 8) A5, gArr K 60 (am 9) A6])) S C hG [0] (c_X9_passes2 l K am th rw lg mr en pw sl ly dn iz tz nx st tk vl ef ep hO hB ol rm oz (bI (0 ≤ y ∧ y < NF 4)) (bI (0 ≤ x ∧ x ≤ 9)) (bI_01 _) (bI_01 _)) rfl rfl 0 rfl rfl (cwV 2 S.2.2.2.2 gX9_path_X9_passes2 rfl rfl rfl (by decide +kernel) ⟨Nat.le_of_ble_eq_true rfl, Nat.le_of_ble_eq_true rfl⟩) rfl hl.1 rfl (Nat.le_of_ble_eq_true rfl) dX9_path_15 ⟨Nat.le_of_ble_eq_true rfl, Nat.le_of_ble_eq_true rfl⟩ (fun _ => Nat.le_of_ble_eq_true rfl) (fun _ => rfl) (fun v u H locs hp hG => ?_)
  subst hp
  refine g_ifne_b (B := ((bI (0 ≤ y ∧ y < NF 4)) = 1 ∧ (bI (0 ≤ x ∧ x ≤ 9)) = 1)) (tgt := 23) S dX9_path_18 (by decide) (fun q18 => ?_) (fun q18 => ?_)
  · skip
    have qa := bI1 q18.1
    have qb := bI1 q18.2
    refine lv_aload_n S.1 S.2.1 dX9_path_23 rfl (lv_at hl 0 rfl) ?_
    refine lv_iload_n S.1 S.2.1 dX9_path_24 rfl (lv_at hl 1 rfl) ?_
    refine g_invVv (As := [.int (iI y)]) (rest := []) (gs' := (fun u : Int × Int × Int × Int × Int × Int × Int × (Int → Int) × (Int → Int) × (Int → Int) × (Int → Int) × (Int → Int) × (Int → Int) × (Int → Int) => [gMdl K am (thr (bI (0 ≤ y ∧ y < NF 4)) (bI (0 ≤ x ∧ x ≤ 9)) 1) rw u.1 u.2.1 u.2.2.1 u.2.2.2.1 u.2.2.2.2.1 u.2.2.2.2.2.1 u.2.2.2.2.2.2.1 iz tz nx st tk vl ef ep hO hB ol rm oz, gArr K 95 rw NF, gArr K 60 (am 3) u.2.2.2.2.2.2.2.1, gArrZ K 60 (am 4) u.2.2.2.2.2.2.2.2.1, gArr K 60 (am 5) u.2.2.2.2.2.2.2.2.2.1, gArr K 60 (am 6) u.2.2.2.2.2.2.2.2.2.2.1, gArr K 60 (am 7) u.2.2.2.2.2.2.2.2.2.2.2.1, gArr K 60 (am 8) u.2.2.2.2.2.2.2.2.2.2.2.2.1, gArr K 60 (am 9) u.2.2.2.2.2.2.2.2.2.2.2.2.2])) S C hG [0, 1, 2, 3, 4, 5, 6, 7, 8] (c_X9_followShot l K am (thr (bI (0 ≤ y ∧ y < NF 4)) (bI (0 ≤ x ∧ x ≤ 9)) 1) rw lg mr en pw sl ly dn iz tz nx st tk vl ef ep hO hB ol rm oz NF A0 A1 A2 A3 A4 A5 A6 y hN qa) rfl rfl 0 rfl rfl (cwV 1 S.2.2.2.2 gX9_path_X9_followShot rfl rfl rfl (by decide +kernel) ⟨Nat.le_of_ble_eq_true rfl, Nat.le_of_ble_eq_true rfl⟩) rfl hl.1 rfl (Nat.le_of_ble_eq_true rfl) dX9_path_25 ⟨Nat.le_of_ble_eq_true rfl, Nat.le_of_ble_eq_true rfl⟩ (fun _ => Nat.le_of_ble_eq_true rfl) (fun _ => rfl) (fun u H locs hp hG => ?_)
    obtain ⟨lg2_25, mr2_25, en2_25, pw2_25, sl2_25, ly2_25, dn2_25, B0_25, B1_25, B2_25, B3_25, B4_25, B5_25, B6_25⟩ := u
    have hf_25 := hp
    have hf_25 : FolS NF y lg2_25 mr2_25 en2_25 pw2_25 B0_25 B1_25 B2_25 B3_25 B4_25 B5_25 B6_25 := hf_25
    have hG : gW K A s.heap [gMdl K am (thr (bI (0 ≤ y ∧ y < NF 4)) (bI (0 ≤ x ∧ x ≤ 9)) 1) rw lg2_25 mr2_25 en2_25 pw2_25 sl2_25 ly2_25 dn2_25 iz tz nx st tk vl ef ep hO hB ol rm oz, gArr K 95 rw NF, gArr K 60 (am 3) B0_25, gArrZ K 60 (am 4) B1_25, gArr K 60 (am 5) B2_25, gArr K 60 (am 6) B3_25, gArr K 60 (am 7) B4_25, gArr K 60 (am 8) B5_25, gArr K 60 (am 9) B6_25] _ _ := hG
    have sb := sho_bd hN qa.1 qa.2
    obtain ⟨f1, f2, f3, f4⟩ := hf_25.bd hN sb.2.2.1 sb.2.1
    refine lv_iload_n S.1 S.2.1 dX9_path_28 rfl (lv_at hl 2 rfl) ?_
    rcases (show x = 0 ∨ x = 1 ∨ x = 2 ∨ x = 3 ∨ x = 4 ∨ x = 5 ∨ x = 6 ∨ x = 7 ∨ x = 8 ∨ x = 9 by omega) with hw9 | hw9 | hw9 | hw9 | hw9 | hw9 | hw9 | hw9 | hw9 | hw9
    · skip
      refine lv_tableIn (off := 51) (tgt := 80) S.1 S.2.1 dX9_path_29 (by rw [hw9] <;> decide) (by rw [hw9] <;> decide) (by rw [hw9] <;> rfl) (by decide) ?_
      refine lv_aload_n S.1 S.2.1 dX9_path_80 rfl (lv_at hl 0 rfl) ?_
      refine g_get S C hG iX90 0 rfl rfl 11 (by decide) (List.mem_of_getElem? (i := 2) rfl) rfl dX9_path_81 ?_
      have hG : gW K A s.heap [gMdl K am (thr (bI (0 ≤ y ∧ y < NF 4)) (bI (0 ≤ x ∧ x ≤ 9)) 1) rw lg2_25 mr2_25 en2_25 pw2_25 sl2_25 ly2_25 dn2_25 iz tz nx st tk vl ef ep hO hB ol rm oz, gArr K 95 rw NF, gArr K 60 (am 3) B0_25, gArrZ K 60 (am 4) B1_25, gArr K 60 (am 5) B2_25, gArr K 60 (am 6) B3_25, gArr K 60 (am 7) B4_25, gArr K 60 (am 8) B5_25, gArr K 60 (am 9) B6_25] _ _ := hG
      exact g_iret S hr hlk hQ dX9_path_84 (Nat.le_of_ble_eq_true rfl) (Nat.le_of_ble_eq_true rfl) ((lg2_25, lg2_25, mr2_25, en2_25, pw2_25, sl2_25, ly2_25, dn2_25, B0_25, B1_25, B2_25, B3_25, B4_25, B5_25, B6_25) : Int × Int × Int × Int × Int × Int × Int × Int × (Int → Int) × (Int → Int) × (Int → Int) × (Int → Int) × (Int → Int) × (Int → Int) × (Int → Int)) ⟨rfl, (fun _ => by rw [hw9] <;> exact hf_25.1)⟩ hG
    · skip
      refine lv_tableIn (off := 56) (tgt := 85) S.1 S.2.1 dX9_path_29 (by rw [hw9] <;> decide) (by rw [hw9] <;> decide) (by rw [hw9] <;> rfl) (by decide) ?_
      refine lv_aload_n S.1 S.2.1 dX9_path_85 rfl (lv_at hl 0 rfl) ?_
      refine g_get S C hG iX90 0 rfl rfl 13 (by decide) (List.mem_of_getElem? (i := 3) rfl) rfl dX9_path_86 ?_
      have hG : gW K A s.heap [gMdl K am (thr (bI (0 ≤ y ∧ y < NF 4)) (bI (0 ≤ x ∧ x ≤ 9)) 1) rw lg2_25 mr2_25 en2_25 pw2_25 sl2_25 ly2_25 dn2_25 iz tz nx st tk vl ef ep hO hB ol rm oz, gArr K 95 rw NF, gArr K 60 (am 3) B0_25, gArrZ K 60 (am 4) B1_25, gArr K 60 (am 5) B2_25, gArr K 60 (am 6) B3_25, gArr K 60 (am 7) B4_25, gArr K 60 (am 8) B5_25, gArr K 60 (am 9) B6_25] _ _ := hG
      exact g_iret S hr hlk hQ dX9_path_89 (Nat.le_of_ble_eq_true rfl) (Nat.le_of_ble_eq_true rfl) ((en2_25, lg2_25, mr2_25, en2_25, pw2_25, sl2_25, ly2_25, dn2_25, B0_25, B1_25, B2_25, B3_25, B4_25, B5_25, B6_25) : Int × Int × Int × Int × Int × Int × Int × Int × (Int → Int) × (Int → Int) × (Int → Int) × (Int → Int) × (Int → Int) × (Int → Int) × (Int → Int)) ⟨rfl, (fun _ => by rw [hw9] <;> exact hf_25.2.2.1)⟩ hG
    · skip
      refine lv_tableIn (off := 61) (tgt := 90) S.1 S.2.1 dX9_path_29 (by rw [hw9] <;> decide) (by rw [hw9] <;> decide) (by rw [hw9] <;> rfl) (by decide) ?_
      refine lv_aload_n S.1 S.2.1 dX9_path_90 rfl (lv_at hl 0 rfl) ?_
      refine g_get S C hG iX90 0 rfl rfl 6 (by decide) (List.mem_of_getElem? (i := 4) rfl) rfl dX9_path_91 ?_
      refine lv_aload_n S.1 S.2.1 dX9_path_94 rfl (lv_at hl 0 rfl) ?_
      refine g_get S C hG iX90 0 rfl rfl 11 (by decide) (List.mem_of_getElem? (i := 2) rfl) rfl dX9_path_95 ?_
      refine g_invS (As := [.ref (am 5), .int (iI lg2_25)]) (rest := []) (gs' := (fun u : Unit => [gMdl K am (thr (bI (0 ≤ y ∧ y < NF 4)) (bI (0 ≤ x ∧ x ≤ 9)) 1) rw lg2_25 mr2_25 en2_25 pw2_25 sl2_25 ly2_25 dn2_25 iz tz nx st tk vl ef ep hO hB ol rm oz, gArr K 95 rw NF, gArr K 60 (am 3) B0_25, gArrZ K 60 (am 4) B1_25, gArr K 60 (am 5) B2_25, gArr K 60 (am 6) B3_25, gArr K 60 (am 7) B4_25, gArr K 60 (am 8) B5_25, gArr K 60 (am 9) B6_25])) S C hG [4] (c_X9_sumUp l K (am 5) B2_25 lg2_25 f1) rfl rfl (va_cwS 2 S.2.2.2.2 gX9_path_X9_sumUp rfl rfl rfl (by decide +kernel) ⟨Nat.le_of_ble_eq_true rfl, Nat.le_of_ble_eq_true rfl⟩) rfl hl.1 rfl (Nat.le_of_ble_eq_true rfl) dX9_path_98 ⟨Nat.le_of_ble_eq_true rfl, Nat.le_of_ble_eq_true rfl⟩ (fun _ => Nat.le_of_ble_eq_true rfl) (fun _ => rfl) (fun v u H locs hp hG => ?_)
      subst hp
      have hG : gW K A s.heap [gMdl K am (thr (bI (0 ≤ y ∧ y < NF 4)) (bI (0 ≤ x ∧ x ≤ 9)) 1) rw lg2_25 mr2_25 en2_25 pw2_25 sl2_25 ly2_25 dn2_25 iz tz nx st tk vl ef ep hO hB ol rm oz, gArr K 95 rw NF, gArr K 60 (am 3) B0_25, gArrZ K 60 (am 4) B1_25, gArr K 60 (am 5) B2_25, gArr K 60 (am 6) B3_25, gArr K 60 (am 7) B4_25, gArr K 60 (am 8) B5_25, gArr K 60 (am 9) B6_25] _ _ := hG
      exact g_iret S hr hlk hQ dX9_path_101 (Nat.le_of_ble_eq_true rfl) (Nat.le_of_ble_eq_true rfl) ((sF B2_25 lg2_25.toNat, lg2_25, mr2_25, en2_25, pw2_25, sl2_25, ly2_25, dn2_25, B0_25, B1_25, B2_25, B3_25, B4_25, B5_25, B6_25) : Int × Int × Int × Int × Int × Int × Int × Int × (Int → Int) × (Int → Int) × (Int → Int) × (Int → Int) × (Int → Int) × (Int → Int) × (Int → Int)) ⟨rfl, (fun _ => by rw [hw9] <;> exact hf_25.s2)⟩ hG
    · skip
      refine lv_tableIn (off := 73) (tgt := 102) S.1 S.2.1 dX9_path_29 (by rw [hw9] <;> decide) (by rw [hw9] <;> decide) (by rw [hw9] <;> rfl) (by decide) ?_
      refine lv_aload_n S.1 S.2.1 dX9_path_102 rfl (lv_at hl 0 rfl) ?_
      refine g_get S C hG iX90 0 rfl rfl 7 (by decide) (List.mem_of_getElem? (i := 5) rfl) rfl dX9_path_103 ?_
      refine lv_aload_n S.1 S.2.1 dX9_path_106 rfl (lv_at hl 0 rfl) ?_
      refine g_get S C hG iX90 0 rfl rfl 11 (by decide) (List.mem_of_getElem? (i := 2) rfl) rfl dX9_path_107 ?_
      refine g_invS (As := [.ref (am 6), .int (iI lg2_25)]) (rest := []) (gs' := (fun u : Unit => [gMdl K am (thr (bI (0 ≤ y ∧ y < NF 4)) (bI (0 ≤ x ∧ x ≤ 9)) 1) rw lg2_25 mr2_25 en2_25 pw2_25 sl2_25 ly2_25 dn2_25 iz tz nx st tk vl ef ep hO hB ol rm oz, gArr K 95 rw NF, gArr K 60 (am 3) B0_25, gArrZ K 60 (am 4) B1_25, gArr K 60 (am 5) B2_25, gArr K 60 (am 6) B3_25, gArr K 60 (am 7) B4_25, gArr K 60 (am 8) B5_25, gArr K 60 (am 9) B6_25])) S C hG [5] (c_X9_sumUp l K (am 6) B3_25 lg2_25 f1) rfl rfl (va_cwS 2 S.2.2.2.2 gX9_path_X9_sumUp rfl rfl rfl (by decide +kernel) ⟨Nat.le_of_ble_eq_true rfl, Nat.le_of_ble_eq_true rfl⟩) rfl hl.1 rfl (Nat.le_of_ble_eq_true rfl) dX9_path_110 ⟨Nat.le_of_ble_eq_true rfl, Nat.le_of_ble_eq_true rfl⟩ (fun _ => Nat.le_of_ble_eq_true rfl) (fun _ => rfl) (fun v u H locs hp hG => ?_)
      subst hp
      have hG : gW K A s.heap [gMdl K am (thr (bI (0 ≤ y ∧ y < NF 4)) (bI (0 ≤ x ∧ x ≤ 9)) 1) rw lg2_25 mr2_25 en2_25 pw2_25 sl2_25 ly2_25 dn2_25 iz tz nx st tk vl ef ep hO hB ol rm oz, gArr K 95 rw NF, gArr K 60 (am 3) B0_25, gArrZ K 60 (am 4) B1_25, gArr K 60 (am 5) B2_25, gArr K 60 (am 6) B3_25, gArr K 60 (am 7) B4_25, gArr K 60 (am 8) B5_25, gArr K 60 (am 9) B6_25] _ _ := hG
      exact g_iret S hr hlk hQ dX9_path_113 (Nat.le_of_ble_eq_true rfl) (Nat.le_of_ble_eq_true rfl) ((sF B3_25 lg2_25.toNat, lg2_25, mr2_25, en2_25, pw2_25, sl2_25, ly2_25, dn2_25, B0_25, B1_25, B2_25, B3_25, B4_25, B5_25, B6_25) : Int × Int × Int × Int × Int × Int × Int × Int × (Int → Int) × (Int → Int) × (Int → Int) × (Int → Int) × (Int → Int) × (Int → Int) × (Int → Int)) ⟨rfl, (fun _ => by rw [hw9] <;> exact hf_25.s3)⟩ hG
    · skip
      refine lv_tableIn (off := 85) (tgt := 114) S.1 S.2.1 dX9_path_29 (by rw [hw9] <;> decide) (by rw [hw9] <;> decide) (by rw [hw9] <;> rfl) (by decide) ?_
      refine lv_aload_n S.1 S.2.1 dX9_path_114 rfl (lv_at hl 0 rfl) ?_
      refine g_get S C hG iX90 0 rfl rfl 8 (by decide) (List.mem_of_getElem? (i := 6) rfl) rfl dX9_path_115 ?_
      refine lv_aload_n S.1 S.2.1 dX9_path_118 rfl (lv_at hl 0 rfl) ?_
      refine g_get S C hG iX90 0 rfl rfl 11 (by decide) (List.mem_of_getElem? (i := 2) rfl) rfl dX9_path_119 ?_
      refine g_invS (As := [.ref (am 7), .int (iI lg2_25)]) (rest := []) (gs' := (fun u : Unit => [gMdl K am (thr (bI (0 ≤ y ∧ y < NF 4)) (bI (0 ≤ x ∧ x ≤ 9)) 1) rw lg2_25 mr2_25 en2_25 pw2_25 sl2_25 ly2_25 dn2_25 iz tz nx st tk vl ef ep hO hB ol rm oz, gArr K 95 rw NF, gArr K 60 (am 3) B0_25, gArrZ K 60 (am 4) B1_25, gArr K 60 (am 5) B2_25, gArr K 60 (am 6) B3_25, gArr K 60 (am 7) B4_25, gArr K 60 (am 8) B5_25, gArr K 60 (am 9) B6_25])) S C hG [6] (c_X9_sumUp l K (am 7) B4_25 lg2_25 f1) rfl rfl (va_cwS 2 S.2.2.2.2 gX9_path_X9_sumUp rfl rfl rfl (by decide +kernel) ⟨Nat.le_of_ble_eq_true rfl, Nat.le_of_ble_eq_true rfl⟩) rfl hl.1 rfl (Nat.le_of_ble_eq_true rfl) dX9_path_122 ⟨Nat.le_of_ble_eq_true rfl, Nat.le_of_ble_eq_true rfl⟩ (fun _ => Nat.le_of_ble_eq_true rfl) (fun _ => rfl) (fun v u H locs hp hG => ?_)
      subst hp
      have hG : gW K A s.heap [gMdl K am (thr (bI (0 ≤ y ∧ y < NF 4)) (bI (0 ≤ x ∧ x ≤ 9)) 1) rw lg2_25 mr2_25 en2_25 pw2_25 sl2_25 ly2_25 dn2_25 iz tz nx st tk vl ef ep hO hB ol rm oz, gArr K 95 rw NF, gArr K 60 (am 3) B0_25, gArrZ K 60 (am 4) B1_25, gArr K 60 (am 5) B2_25, gArr K 60 (am 6) B3_25, gArr K 60 (am 7) B4_25, gArr K 60 (am 8) B5_25, gArr K 60 (am 9) B6_25] _ _ := hG
      exact g_iret S hr hlk hQ dX9_path_125 (Nat.le_of_ble_eq_true rfl) (Nat.le_of_ble_eq_true rfl) ((sF B4_25 lg2_25.toNat, lg2_25, mr2_25, en2_25, pw2_25, sl2_25, ly2_25, dn2_25, B0_25, B1_25, B2_25, B3_25, B4_25, B5_25, B6_25) : Int × Int × Int × Int × Int × Int × Int × Int × (Int → Int) × (Int → Int) × (Int → Int) × (Int → Int) × (Int → Int) × (Int → Int) × (Int → Int)) ⟨rfl, (fun _ => by rw [hw9] <;> exact hf_25.s4)⟩ hG
    · skip
      refine lv_tableIn (off := 97) (tgt := 126) S.1 S.2.1 dX9_path_29 (by rw [hw9] <;> decide) (by rw [hw9] <;> decide) (by rw [hw9] <;> rfl) (by decide) ?_
      refine lv_aload_n S.1 S.2.1 dX9_path_126 rfl (lv_at hl 0 rfl) ?_
      refine g_get S C hG iX90 0 rfl rfl 14 (by decide) (List.mem_of_getElem? (i := 7) rfl) rfl dX9_path_127 ?_
      refine g_l2i S dX9_path_130 ?_
      have hG : gW K A s.heap [gMdl K am (thr (bI (0 ≤ y ∧ y < NF 4)) (bI (0 ≤ x ∧ x ≤ 9)) 1) rw lg2_25 mr2_25 en2_25 pw2_25 sl2_25 ly2_25 dn2_25 iz tz nx st tk vl ef ep hO hB ol rm oz, gArr K 95 rw NF, gArr K 60 (am 3) B0_25, gArrZ K 60 (am 4) B1_25, gArr K 60 (am 5) B2_25, gArr K 60 (am 6) B3_25, gArr K 60 (am 7) B4_25, gArr K 60 (am 8) B5_25, gArr K 60 (am 9) B6_25] _ _ := hG
      exact g_iret S hr hlk hQ dX9_path_131 (Nat.le_of_ble_eq_true rfl) (Nat.le_of_ble_eq_true rfl) ((pw2_25, lg2_25, mr2_25, en2_25, pw2_25, sl2_25, ly2_25, dn2_25, B0_25, B1_25, B2_25, B3_25, B4_25, B5_25, B6_25) : Int × Int × Int × Int × Int × Int × Int × Int × (Int → Int) × (Int → Int) × (Int → Int) × (Int → Int) × (Int → Int) × (Int → Int) × (Int → Int)) ⟨rfl, (fun _ => by rw [hw9] <;> exact hf_25.2.2.2.1)⟩ hG
    · skip
      refine lv_tableIn (off := 103) (tgt := 132) S.1 S.2.1 dX9_path_29 (by rw [hw9] <;> decide) (by rw [hw9] <;> decide) (by rw [hw9] <;> rfl) (by decide) ?_
      refine lv_aload_n S.1 S.2.1 dX9_path_132 rfl (lv_at hl 0 rfl) ?_
      refine g_iconst S dX9_path_133 ?_
      refine g_invV (As := [.int (iI 1)]) (rest := []) (gs' := (fun u : Unit => [gMdl K am (thr (bI (0 ≤ y ∧ y < NF 4)) (bI (0 ≤ x ∧ x ≤ 9)) 1) rw lg2_25 mr2_25 en2_25 pw2_25 sl2_25 ly2_25 dn2_25 iz tz nx st tk vl ef ep hO hB ol rm oz, gArr K 95 rw NF, gArr K 60 (am 3) B0_25, gArrZ K 60 (am 4) B1_25, gArr K 60 (am 5) B2_25, gArr K 60 (am 6) B3_25, gArr K 60 (am 7) B4_25, gArr K 60 (am 8) B5_25, gArr K 60 (am 9) B6_25])) S C hG [0, 8] (c_X9_happened l K am (thr (bI (0 ≤ y ∧ y < NF 4)) (bI (0 ≤ x ∧ x ≤ 9)) 1) rw lg2_25 mr2_25 en2_25 pw2_25 sl2_25 ly2_25 dn2_25 iz tz nx st tk vl ef ep hO hB ol rm oz B6_25 1 f1 (fun i a b => by have z := hf_25.2.2.2.2 i.toNat (by have z2 := hf_25.1 <;> omega) <;> rw [Int.toNat_of_nonneg a] at z <;> have z3 := whE_bd NF (sP NF y) (sY NF y) (sD NF y) i.toNat <;> omega) (by decide)) rfl rfl 0 rfl rfl (cwV 1 S.2.2.2.2 gX9_path_X9_happened rfl rfl rfl (by decide +kernel) ⟨Nat.le_of_ble_eq_true rfl, Nat.le_of_ble_eq_true rfl⟩) rfl hl.1 rfl (Nat.le_of_ble_eq_true rfl) dX9_path_134 ⟨Nat.le_of_ble_eq_true rfl, Nat.le_of_ble_eq_true rfl⟩ (fun _ => Nat.le_of_ble_eq_true rfl) (fun _ => rfl) (fun v u H locs hp hG => ?_)
      subst hp
      have hG : gW K A s.heap [gMdl K am (thr (bI (0 ≤ y ∧ y < NF 4)) (bI (0 ≤ x ∧ x ≤ 9)) 1) rw lg2_25 mr2_25 en2_25 pw2_25 sl2_25 ly2_25 dn2_25 iz tz nx st tk vl ef ep hO hB ol rm oz, gArr K 95 rw NF, gArr K 60 (am 3) B0_25, gArrZ K 60 (am 4) B1_25, gArr K 60 (am 5) B2_25, gArr K 60 (am 6) B3_25, gArr K 60 (am 7) B4_25, gArr K 60 (am 8) B5_25, gArr K 60 (am 9) B6_25] _ _ := hG
      exact g_iret S hr hlk hQ dX9_path_137 (Nat.le_of_ble_eq_true rfl) (Nat.le_of_ble_eq_true rfl) ((cnF B6_25 1 lg2_25.toNat, lg2_25, mr2_25, en2_25, pw2_25, sl2_25, ly2_25, dn2_25, B0_25, B1_25, B2_25, B3_25, B4_25, B5_25, B6_25) : Int × Int × Int × Int × Int × Int × Int × Int × (Int → Int) × (Int → Int) × (Int → Int) × (Int → Int) × (Int → Int) × (Int → Int) × (Int → Int)) ⟨rfl, (fun _ => by rw [hw9] <;> exact hf_25.h1)⟩ hG
    · skip
      refine lv_tableIn (off := 109) (tgt := 138) S.1 S.2.1 dX9_path_29 (by rw [hw9] <;> decide) (by rw [hw9] <;> decide) (by rw [hw9] <;> rfl) (by decide) ?_
      refine lv_aload_n S.1 S.2.1 dX9_path_138 rfl (lv_at hl 0 rfl) ?_
      refine g_get S C hG iX90 0 rfl rfl 12 (by decide) (List.mem_of_getElem? (i := 8) rfl) rfl dX9_path_139 ?_
      have hG : gW K A s.heap [gMdl K am (thr (bI (0 ≤ y ∧ y < NF 4)) (bI (0 ≤ x ∧ x ≤ 9)) 1) rw lg2_25 mr2_25 en2_25 pw2_25 sl2_25 ly2_25 dn2_25 iz tz nx st tk vl ef ep hO hB ol rm oz, gArr K 95 rw NF, gArr K 60 (am 3) B0_25, gArrZ K 60 (am 4) B1_25, gArr K 60 (am 5) B2_25, gArr K 60 (am 6) B3_25, gArr K 60 (am 7) B4_25, gArr K 60 (am 8) B5_25, gArr K 60 (am 9) B6_25] _ _ := hG
      exact g_iret S hr hlk hQ dX9_path_142 (Nat.le_of_ble_eq_true rfl) (Nat.le_of_ble_eq_true rfl) ((mr2_25, lg2_25, mr2_25, en2_25, pw2_25, sl2_25, ly2_25, dn2_25, B0_25, B1_25, B2_25, B3_25, B4_25, B5_25, B6_25) : Int × Int × Int × Int × Int × Int × Int × Int × (Int → Int) × (Int → Int) × (Int → Int) × (Int → Int) × (Int → Int) × (Int → Int) × (Int → Int)) ⟨rfl, (fun _ => by rw [hw9] <;> exact hf_25.2.1)⟩ hG
    · skip
      refine lv_tableIn (off := 114) (tgt := 143) S.1 S.2.1 dX9_path_29 (by rw [hw9] <;> decide) (by rw [hw9] <;> decide) (by rw [hw9] <;> rfl) (by decide) ?_
      refine lv_aload_n S.1 S.2.1 dX9_path_143 rfl (lv_at hl 0 rfl) ?_
      refine g_iconst S dX9_path_144 ?_
      refine g_invV (As := [.int (iI 0)]) (rest := []) (gs' := (fun u : Unit => [gMdl K am (thr (bI (0 ≤ y ∧ y < NF 4)) (bI (0 ≤ x ∧ x ≤ 9)) 1) rw lg2_25 mr2_25 en2_25 pw2_25 sl2_25 ly2_25 dn2_25 iz tz nx st tk vl ef ep hO hB ol rm oz, gArr K 95 rw NF, gArr K 60 (am 3) B0_25, gArrZ K 60 (am 4) B1_25, gArr K 60 (am 5) B2_25, gArr K 60 (am 6) B3_25, gArr K 60 (am 7) B4_25, gArr K 60 (am 8) B5_25, gArr K 60 (am 9) B6_25])) S C hG [0, 8] (c_X9_happened l K am (thr (bI (0 ≤ y ∧ y < NF 4)) (bI (0 ≤ x ∧ x ≤ 9)) 1) rw lg2_25 mr2_25 en2_25 pw2_25 sl2_25 ly2_25 dn2_25 iz tz nx st tk vl ef ep hO hB ol rm oz B6_25 0 f1 (fun i a b => by have z := hf_25.2.2.2.2 i.toNat (by have z2 := hf_25.1 <;> omega) <;> rw [Int.toNat_of_nonneg a] at z <;> have z3 := whE_bd NF (sP NF y) (sY NF y) (sD NF y) i.toNat <;> omega) (by decide)) rfl rfl 0 rfl rfl (cwV 1 S.2.2.2.2 gX9_path_X9_happened rfl rfl rfl (by decide +kernel) ⟨Nat.le_of_ble_eq_true rfl, Nat.le_of_ble_eq_true rfl⟩) rfl hl.1 rfl (Nat.le_of_ble_eq_true rfl) dX9_path_145 ⟨Nat.le_of_ble_eq_true rfl, Nat.le_of_ble_eq_true rfl⟩ (fun _ => Nat.le_of_ble_eq_true rfl) (fun _ => rfl) (fun v u H locs hp hG => ?_)
      subst hp
      have hG : gW K A s.heap [gMdl K am (thr (bI (0 ≤ y ∧ y < NF 4)) (bI (0 ≤ x ∧ x ≤ 9)) 1) rw lg2_25 mr2_25 en2_25 pw2_25 sl2_25 ly2_25 dn2_25 iz tz nx st tk vl ef ep hO hB ol rm oz, gArr K 95 rw NF, gArr K 60 (am 3) B0_25, gArrZ K 60 (am 4) B1_25, gArr K 60 (am 5) B2_25, gArr K 60 (am 6) B3_25, gArr K 60 (am 7) B4_25, gArr K 60 (am 8) B5_25, gArr K 60 (am 9) B6_25] _ _ := hG
      exact g_iret S hr hlk hQ dX9_path_148 (Nat.le_of_ble_eq_true rfl) (Nat.le_of_ble_eq_true rfl) ((cnF B6_25 0 lg2_25.toNat, lg2_25, mr2_25, en2_25, pw2_25, sl2_25, ly2_25, dn2_25, B0_25, B1_25, B2_25, B3_25, B4_25, B5_25, B6_25) : Int × Int × Int × Int × Int × Int × Int × Int × (Int → Int) × (Int → Int) × (Int → Int) × (Int → Int) × (Int → Int) × (Int → Int) × (Int → Int)) ⟨rfl, (fun _ => by rw [hw9] <;> exact hf_25.h0)⟩ hG
    · skip
      refine lv_tableOut (tgt := 149) S.1 S.2.1 dX9_path_29 (by rw [hw9] <;> decide) (by decide) ?_
      refine lv_aload_n S.1 S.2.1 dX9_path_149 rfl (lv_at hl 0 rfl) ?_
      refine g_invV (As := []) (rest := []) (gs' := (fun u : Unit => [gMdl K am (thr (bI (0 ≤ y ∧ y < NF 4)) (bI (0 ≤ x ∧ x ≤ 9)) 1) rw lg2_25 mr2_25 en2_25 pw2_25 sl2_25 ly2_25 dn2_25 iz tz nx st tk vl ef ep hO hB ol rm oz, gArr K 95 rw NF, gArr K 60 (am 3) B0_25, gArrZ K 60 (am 4) B1_25, gArr K 60 (am 5) B2_25, gArr K 60 (am 6) B3_25, gArr K 60 (am 7) B4_25, gArr K 60 (am 8) B5_25, gArr K 60 (am 9) B6_25])) S C hG [0, 2] (c_X9_deepest l K am (thr (bI (0 ≤ y ∧ y < NF 4)) (bI (0 ≤ x ∧ x ≤ 9)) 1) rw lg2_25 mr2_25 en2_25 pw2_25 sl2_25 ly2_25 dn2_25 iz tz nx st tk vl ef ep hO hB ol rm oz B0_25 f1 (fun i a b => ⟨(f4 i a b).1.1, (f4 i a b).1.2.1⟩)) rfl rfl 0 rfl rfl (cwV 0 S.2.2.2.2 gX9_path_X9_deepest rfl rfl rfl (by decide +kernel) ⟨Nat.le_of_ble_eq_true rfl, Nat.le_of_ble_eq_true rfl⟩) rfl hl.1 rfl (Nat.le_of_ble_eq_true rfl) dX9_path_150 ⟨Nat.le_of_ble_eq_true rfl, Nat.le_of_ble_eq_true rfl⟩ (fun _ => Nat.le_of_ble_eq_true rfl) (fun _ => rfl) (fun v u H locs hp hG => ?_)
      subst hp
      have hG : gW K A s.heap [gMdl K am (thr (bI (0 ≤ y ∧ y < NF 4)) (bI (0 ≤ x ∧ x ≤ 9)) 1) rw lg2_25 mr2_25 en2_25 pw2_25 sl2_25 ly2_25 dn2_25 iz tz nx st tk vl ef ep hO hB ol rm oz, gArr K 95 rw NF, gArr K 60 (am 3) B0_25, gArrZ K 60 (am 4) B1_25, gArr K 60 (am 5) B2_25, gArr K 60 (am 6) B3_25, gArr K 60 (am 7) B4_25, gArr K 60 (am 8) B5_25, gArr K 60 (am 9) B6_25] _ _ := hG
      exact g_iret S hr hlk hQ dX9_path_153 (Nat.le_of_ble_eq_true rfl) (Nat.le_of_ble_eq_true rfl) ((dpN (fun i : Nat => B0_25 (i : Int)) lg2_25.toNat, lg2_25, mr2_25, en2_25, pw2_25, sl2_25, ly2_25, dn2_25, B0_25, B1_25, B2_25, B3_25, B4_25, B5_25, B6_25) : Int × Int × Int × Int × Int × Int × Int × Int × (Int → Int) × (Int → Int) × (Int → Int) × (Int → Int) × (Int → Int) × (Int → Int) × (Int → Int)) ⟨rfl, (fun _ => by rw [hw9] <;> exact hf_25.de)⟩ hG
  · skip
    refine g_iconst S dX9_path_21 ?_
    have hG : gW K A s.heap [gMdl K am (thr (bI (0 ≤ y ∧ y < NF 4)) (bI (0 ≤ x ∧ x ≤ 9)) 1) rw lg mr en pw sl ly dn iz tz nx st tk vl ef ep hO hB ol rm oz, gArr K 95 rw NF, gArr K 60 (am 3) A0, gArrZ K 60 (am 4) A1, gArr K 60 (am 5) A2, gArr K 60 (am 6) A3, gArr K 60 (am 7) A4, gArr K 60 (am 8) A5, gArr K 60 (am 9) A6] _ _ := hG
    exact g_iret S hr hlk hQ dX9_path_22 (Nat.le_of_ble_eq_true rfl) (Nat.le_of_ble_eq_true rfl) ((0, lg, mr, en, pw, sl, ly, dn, A0, A1, A2, A3, A4, A5, A6) : Int × Int × Int × Int × Int × Int × Int × Int × (Int → Int) × (Int → Int) × (Int → Int) × (Int → Int) × (Int → Int) × (Int → Int) × (Int → Int)) ⟨rfl, (fun h => absurd ⟨bI_t h.1, bI_t h.2⟩ q18)⟩ hG
