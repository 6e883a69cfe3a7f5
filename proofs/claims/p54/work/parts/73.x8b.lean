set_option maxHeartbeats 1000000 in
set_option maxRecDepth 100000 in
theorem c_X8_errorCode (l : Launch) (K : KC) (ad : Nat → Nat) (qp : Int) (qs : Int) (qk : Int) (qn : Int) (qo : Int) (qb : Int) (qe : Int) (qf : Int) : mG l yX8_errorCode wsX8_errorCode 0 0 K [.ref (ad 0)] [gRLC K ad, gPrsC K (ad 11) (ad 1) (ad 4) qp qs qk qn qo qb qe qf] (fun (v : Value) (u : Unit) => (v = .int (iI qe))) (fun (u : Unit) => [gRLC K ad, gPrsC K (ad 11) (ad 1) (ad 4) qp qs qk qn qo qb qe qf]) 0 0 := by
  refine mG_of cX8_errorCode 1 (by decide) rfl (Nat.le_of_ble_eq_true rfl) ?_
  intro p e s m below meth c A ls Q S C hG hl hr hlk hin hQ
  have S : CallFix p m c cX8_errorCode 1 s ([.ref (ad 0)] : List Value).toArray wsX8_errorCode RX8 := S
  have iX80 : ∀ w ∈ wsX80, w ∈ wsX8_errorCode := fun _ h => List.mem_cons_of_mem _ (List.mem_append_left _ (List.mem_append_right _ (h)))
  have iX20 : ∀ w ∈ wsX20, w ∈ wsX8_errorCode := fun _ h => List.mem_cons_of_mem _ (List.mem_append_right _ (h))
  have hl : lv_has ls 1 [(0, .ref (ad 0))] := hl
  have hG : gW K A s.heap [gRLC K ad, gPrsC K (ad 11) (ad 1) (ad 4) qp qs qk qn qo qb qe qf] s.heap [] := hG
  refine lv_aload_n S.1 S.2.1 dX8_errorCode_0 rfl (lv_at hl 0 rfl) ?_
  refine g_get S C hG iX80 0 rfl rfl 10 (by decide) (List.mem_of_getElem? (i := 1) rfl) rfl dX8_errorCode_1 ?_
  refine g_get S C hG iX20 1 rfl rfl 8 (by decide) (List.mem_of_getElem? (i := 2) rfl) rfl dX8_errorCode_4 ?_
  have hG : gW K A s.heap [gRLC K ad, gPrsC K (ad 11) (ad 1) (ad 4) qp qs qk qn qo qb qe qf] _ _ := hG
  exact g_iret S hr hlk hQ dX8_errorCode_7 (Nat.le_of_ble_eq_true rfl) (Nat.le_of_ble_eq_true rfl) (() : Unit) rfl hG
set_option maxHeartbeats 1000000 in
set_option maxRecDepth 100000 in
theorem c_property0 (l : Launch) (K : KC) (ad : Nat → Nat) (ou : Int) (mi : Int) (bo : Int) (ln : Int) (LF : Int → Int) (sn : Int) (SF : Int → Int) (N : Int → Int) (hS : ScOk N ou mi bo ln LF sn SF) (hN : NOk0 N) : mG l yX8_property wsX8_property 2 46 K [.ref (ad 0), .int (iI 0)] [gRLC K ad, gScn K (ad 3) (ad 14) (ad 15) (ad 16) (ad 17) ou mi bo ln LF sn SF] (fun (v : Value) (u : Unit) => (v = .int (iI (N 0)))) (fun (u : Unit) => [gRLC K ad, gScn K (ad 3) (ad 14) (ad 15) (ad 16) (ad 17) ou mi bo ln LF sn SF]) 0 0 := by
  refine mG_of cX8_property 2 (by decide) rfl (Nat.le_of_ble_eq_true rfl) ?_
  intro p e s m below meth c A ls Q S C hG hl hr hlk hin hQ
  have S : CallFix p m c cX8_property 2 s ([.ref (ad 0), .int (iI 0)] : List Value).toArray wsX8_property RX8 := S
  have iX80 : ∀ w ∈ wsX80, w ∈ wsX8_property := fun _ h => List.mem_cons_of_mem _ (List.mem_append_left _ (List.mem_append_left _ (List.mem_append_left _ (List.mem_append_right _ (h)))))
  have iX50 : ∀ w ∈ wsX50, w ∈ wsX8_property := fun _ h => List.mem_cons_of_mem _ (List.mem_append_left _ (List.mem_append_left _ (List.mem_append_right _ (h))))
  have iX70 : ∀ w ∈ wsX70, w ∈ wsX8_property := fun _ h => List.mem_cons_of_mem _ (List.mem_append_left _ (List.mem_append_right _ (h)))
  have hl : lv_has ls 2 [(0, .ref (ad 0)), (1, .int (iI 0))] := hl
  have hG : gW K A s.heap [gRLC K ad, gScn K (ad 3) (ad 14) (ad 15) (ad 16) (ad 17) ou mi bo ln LF sn SF] s.heap [] := hG
  obtain ⟨e0, e1, e2, e3, e4, e5, e6⟩ := id hS
  have n0 := hN.1
  have n3 := hN.2.2.2.1
  have n2 := hN.2.2.1
  refine lv_iload_n S.1 S.2.1 dX8_property_0 rfl (lv_at hl 1 rfl) ?_
  refine lv_tableIn (off := 39) (tgt := 40) S.1 S.2.1 dX8_property_1 (by decide) (by decide) rfl (by decide) ?_
  refine lv_aload_n S.1 S.2.1 dX8_property_40 rfl (lv_at hl 0 rfl) ?_
  refine g_get S C hG iX80 0 rfl rfl 2 (by decide) (List.mem_of_getElem? (i := 3) rfl) rfl dX8_property_41 ?_
  refine g_get S C hG iX50 1 rfl rfl 0 (by decide) (List.mem_of_getElem? (i := 4) rfl) rfl dX8_property_44 ?_
  refine g_get S C hG iX70 2 rfl rfl 1 (by decide) (List.mem_of_getElem? (i := 5) rfl) rfl dX8_property_47 ?_
  have hG : gW K A s.heap [gRLC K ad, gScn K (ad 3) (ad 14) (ad 15) (ad 16) (ad 17) ou mi bo ln LF sn SF] _ _ := hG
  exact g_iret S hr hlk hQ dX8_property_50 (Nat.le_of_ble_eq_true rfl) (Nat.le_of_ble_eq_true rfl) (() : Unit) (congrArg (fun z : Int => Value.int (iI z)) (by first | rfl | omega)) hG
set_option maxHeartbeats 1000000 in
set_option maxRecDepth 100000 in
theorem c_property1 (l : Launch) (K : KC) (ad : Nat → Nat) (ou : Int) (mi : Int) (bo : Int) (ln : Int) (LF : Int → Int) (sn : Int) (SF : Int → Int) (N : Int → Int) (hS : ScOk N ou mi bo ln LF sn SF) (hN : NOk0 N) : mG l yX8_property wsX8_property 2 46 K [.ref (ad 0), .int (iI 1)] [gRLC K ad, gScn K (ad 3) (ad 14) (ad 15) (ad 16) (ad 17) ou mi bo ln LF sn SF] (fun (v : Value) (u : Unit) => (v = .int (iI (N 1)))) (fun (u : Unit) => [gRLC K ad, gScn K (ad 3) (ad 14) (ad 15) (ad 16) (ad 17) ou mi bo ln LF sn SF]) 0 0 := by
  refine mG_of cX8_property 2 (by decide) rfl (Nat.le_of_ble_eq_true rfl) ?_
  intro p e s m below meth c A ls Q S C hG hl hr hlk hin hQ
  have S : CallFix p m c cX8_property 2 s ([.ref (ad 0), .int (iI 1)] : List Value).toArray wsX8_property RX8 := S
  have iX80 : ∀ w ∈ wsX80, w ∈ wsX8_property := fun _ h => List.mem_cons_of_mem _ (List.mem_append_left _ (List.mem_append_left _ (List.mem_append_left _ (List.mem_append_right _ (h)))))
  have iX50 : ∀ w ∈ wsX50, w ∈ wsX8_property := fun _ h => List.mem_cons_of_mem _ (List.mem_append_left _ (List.mem_append_left _ (List.mem_append_right _ (h))))
  have iX70 : ∀ w ∈ wsX70, w ∈ wsX8_property := fun _ h => List.mem_cons_of_mem _ (List.mem_append_left _ (List.mem_append_right _ (h)))
  have hl : lv_has ls 2 [(0, .ref (ad 0)), (1, .int (iI 1))] := hl
  have hG : gW K A s.heap [gRLC K ad, gScn K (ad 3) (ad 14) (ad 15) (ad 16) (ad 17) ou mi bo ln LF sn SF] s.heap [] := hG
  obtain ⟨e0, e1, e2, e3, e4, e5, e6⟩ := id hS
  have n0 := hN.1
  have n3 := hN.2.2.2.1
  have n2 := hN.2.2.1
  refine lv_iload_n S.1 S.2.1 dX8_property_0 rfl (lv_at hl 1 rfl) ?_
  refine lv_tableIn (off := 50) (tgt := 51) S.1 S.2.1 dX8_property_1 (by decide) (by decide) rfl (by decide) ?_
  refine lv_aload_n S.1 S.2.1 dX8_property_51 rfl (lv_at hl 0 rfl) ?_
  refine g_get S C hG iX80 0 rfl rfl 2 (by decide) (List.mem_of_getElem? (i := 3) rfl) rfl dX8_property_52 ?_
  refine g_get S C hG iX50 1 rfl rfl 2 (by decide) (List.mem_of_getElem? (i := 6) rfl) rfl dX8_property_55 ?_
  have hG : gW K A s.heap [gRLC K ad, gScn K (ad 3) (ad 14) (ad 15) (ad 16) (ad 17) ou mi bo ln LF sn SF] _ _ := hG
  exact g_iret S hr hlk hQ dX8_property_58 (Nat.le_of_ble_eq_true rfl) (Nat.le_of_ble_eq_true rfl) (() : Unit) (congrArg (fun z : Int => Value.int (iI z)) (by first | rfl | omega)) hG
set_option maxHeartbeats 1000000 in
set_option maxRecDepth 100000 in
theorem c_property2 (l : Launch) (K : KC) (ad : Nat → Nat) (ou : Int) (mi : Int) (bo : Int) (ln : Int) (LF : Int → Int) (sn : Int) (SF : Int → Int) (N : Int → Int) (hS : ScOk N ou mi bo ln LF sn SF) (hN : NOk0 N) : mG l yX8_property wsX8_property 2 46 K [.ref (ad 0), .int (iI 2)] [gRLC K ad, gScn K (ad 3) (ad 14) (ad 15) (ad 16) (ad 17) ou mi bo ln LF sn SF] (fun (v : Value) (u : Unit) => (v = .int (iI (N 2)))) (fun (u : Unit) => [gRLC K ad, gScn K (ad 3) (ad 14) (ad 15) (ad 16) (ad 17) ou mi bo ln LF sn SF]) 0 0 := by
  refine mG_of cX8_property 2 (by decide) rfl (Nat.le_of_ble_eq_true rfl) ?_
  intro p e s m below meth c A ls Q S C hG hl hr hlk hin hQ
  have S : CallFix p m c cX8_property 2 s ([.ref (ad 0), .int (iI 2)] : List Value).toArray wsX8_property RX8 := S
  have iX80 : ∀ w ∈ wsX80, w ∈ wsX8_property := fun _ h => List.mem_cons_of_mem _ (List.mem_append_left _ (List.mem_append_left _ (List.mem_append_left _ (List.mem_append_right _ (h)))))
  have iX50 : ∀ w ∈ wsX50, w ∈ wsX8_property := fun _ h => List.mem_cons_of_mem _ (List.mem_append_left _ (List.mem_append_left _ (List.mem_append_right _ (h))))
  have iX70 : ∀ w ∈ wsX70, w ∈ wsX8_property := fun _ h => List.mem_cons_of_mem _ (List.mem_append_left _ (List.mem_append_right _ (h)))
  have hl : lv_has ls 2 [(0, .ref (ad 0)), (1, .int (iI 2))] := hl
  have hG : gW K A s.heap [gRLC K ad, gScn K (ad 3) (ad 14) (ad 15) (ad 16) (ad 17) ou mi bo ln LF sn SF] s.heap [] := hG
  obtain ⟨e0, e1, e2, e3, e4, e5, e6⟩ := id hS
  have n0 := hN.1
  have n3 := hN.2.2.2.1
  have n2 := hN.2.2.1
  refine lv_iload_n S.1 S.2.1 dX8_property_0 rfl (lv_at hl 1 rfl) ?_
  refine lv_tableIn (off := 58) (tgt := 59) S.1 S.2.1 dX8_property_1 (by decide) (by decide) rfl (by decide) ?_
  refine lv_aload_n S.1 S.2.1 dX8_property_59 rfl (lv_at hl 0 rfl) ?_
  refine g_get S C hG iX80 0 rfl rfl 2 (by decide) (List.mem_of_getElem? (i := 3) rfl) rfl dX8_property_60 ?_
  refine g_get S C hG iX50 1 rfl rfl 3 (by decide) (List.mem_of_getElem? (i := 7) rfl) rfl dX8_property_63 ?_
  refine g_if_eq (tgt := 73) S dX8_property_66 (by decide) (by omega) (fun q66 => ?_) (fun q66 => ?_)
  · skip
    refine g_iconst S dX8_property_73 ?_
    have hG : gW K A s.heap [gRLC K ad, gScn K (ad 3) (ad 14) (ad 15) (ad 16) (ad 17) ou mi bo ln LF sn SF] _ _ := hG
    exact g_iret S hr hlk hQ dX8_property_74 (Nat.le_of_ble_eq_true rfl) (Nat.le_of_ble_eq_true rfl) (() : Unit) (congrArg (fun z : Int => Value.int (iI z)) (by first | rfl | omega)) hG
  · skip
    refine g_iconst S dX8_property_69 ?_
    refine lv_goto (tgt := 74) S.1 S.2.1 dX8_property_70 (by decide) ?_
    have hG : gW K A s.heap [gRLC K ad, gScn K (ad 3) (ad 14) (ad 15) (ad 16) (ad 17) ou mi bo ln LF sn SF] _ _ := hG
    exact g_iret S hr hlk hQ dX8_property_74 (Nat.le_of_ble_eq_true rfl) (Nat.le_of_ble_eq_true rfl) (() : Unit) (congrArg (fun z : Int => Value.int (iI z)) (by first | rfl | omega)) hG
set_option maxHeartbeats 1000000 in
set_option maxRecDepth 100000 in
theorem c_property3 (l : Launch) (K : KC) (ad : Nat → Nat) (ou : Int) (mi : Int) (bo : Int) (ln : Int) (LF : Int → Int) (sn : Int) (SF : Int → Int) (N : Int → Int) (hS : ScOk N ou mi bo ln LF sn SF) (hN : NOk0 N) : mG l yX8_property wsX8_property 2 46 K [.ref (ad 0), .int (iI 3)] [gRLC K ad, gScn K (ad 3) (ad 14) (ad 15) (ad 16) (ad 17) ou mi bo ln LF sn SF] (fun (v : Value) (u : Unit) => (v = .int (iI (N 3)))) (fun (u : Unit) => [gRLC K ad, gScn K (ad 3) (ad 14) (ad 15) (ad 16) (ad 17) ou mi bo ln LF sn SF]) 0 0 := by
  refine mG_of cX8_property 2 (by decide) rfl (Nat.le_of_ble_eq_true rfl) ?_
  intro p e s m below meth c A ls Q S C hG hl hr hlk hin hQ
  have S : CallFix p m c cX8_property 2 s ([.ref (ad 0), .int (iI 3)] : List Value).toArray wsX8_property RX8 := S
  have iX80 : ∀ w ∈ wsX80, w ∈ wsX8_property := fun _ h => List.mem_cons_of_mem _ (List.mem_append_left _ (List.mem_append_left _ (List.mem_append_left _ (List.mem_append_right _ (h)))))
  have iX50 : ∀ w ∈ wsX50, w ∈ wsX8_property := fun _ h => List.mem_cons_of_mem _ (List.mem_append_left _ (List.mem_append_left _ (List.mem_append_right _ (h))))
  have iX70 : ∀ w ∈ wsX70, w ∈ wsX8_property := fun _ h => List.mem_cons_of_mem _ (List.mem_append_left _ (List.mem_append_right _ (h)))
  have hl : lv_has ls 2 [(0, .ref (ad 0)), (1, .int (iI 3))] := hl
  have hG : gW K A s.heap [gRLC K ad, gScn K (ad 3) (ad 14) (ad 15) (ad 16) (ad 17) ou mi bo ln LF sn SF] s.heap [] := hG
  obtain ⟨e0, e1, e2, e3, e4, e5, e6⟩ := id hS
  have n0 := hN.1
  have n3 := hN.2.2.2.1
  have n2 := hN.2.2.1
  refine lv_iload_n S.1 S.2.1 dX8_property_0 rfl (lv_at hl 1 rfl) ?_
  refine lv_tableIn (off := 74) (tgt := 75) S.1 S.2.1 dX8_property_1 (by decide) (by decide) rfl (by decide) ?_
  refine lv_aload_n S.1 S.2.1 dX8_property_75 rfl (lv_at hl 0 rfl) ?_
  refine g_get S C hG iX80 0 rfl rfl 2 (by decide) (List.mem_of_getElem? (i := 3) rfl) rfl dX8_property_76 ?_
  refine g_get S C hG iX50 1 rfl rfl 4 (by decide) (List.mem_of_getElem? (i := 8) rfl) rfl dX8_property_79 ?_
  have hG : gW K A s.heap [gRLC K ad, gScn K (ad 3) (ad 14) (ad 15) (ad 16) (ad 17) ou mi bo ln LF sn SF] _ _ := hG
  exact g_iret S hr hlk hQ dX8_property_82 (Nat.le_of_ble_eq_true rfl) (Nat.le_of_ble_eq_true rfl) (() : Unit) (congrArg (fun z : Int => Value.int (iI z)) (by first | rfl | omega)) hG
set_option maxHeartbeats 1000000 in
set_option maxRecDepth 100000 in
theorem c_property4 (l : Launch) (K : KC) (ad : Nat → Nat) (ou : Int) (mi : Int) (bo : Int) (ln : Int) (LF : Int → Int) (sn : Int) (SF : Int → Int) (N : Int → Int) (hS : ScOk N ou mi bo ln LF sn SF) (hN : NOk0 N) : mG l yX8_property wsX8_property 2 46 K [.ref (ad 0), .int (iI 4)] [gRLC K ad, gScn K (ad 3) (ad 14) (ad 15) (ad 16) (ad 17) ou mi bo ln LF sn SF] (fun (v : Value) (u : Unit) => (v = .int (iI (N 4)))) (fun (u : Unit) => [gRLC K ad, gScn K (ad 3) (ad 14) (ad 15) (ad 16) (ad 17) ou mi bo ln LF sn SF]) 0 0 := by
  refine mG_of cX8_property 2 (by decide) rfl (Nat.le_of_ble_eq_true rfl) ?_
  intro p e s m below meth c A ls Q S C hG hl hr hlk hin hQ
  have S : CallFix p m c cX8_property 2 s ([.ref (ad 0), .int (iI 4)] : List Value).toArray wsX8_property RX8 := S
  have iX80 : ∀ w ∈ wsX80, w ∈ wsX8_property := fun _ h => List.mem_cons_of_mem _ (List.mem_append_left _ (List.mem_append_left _ (List.mem_append_left _ (List.mem_append_right _ (h)))))
  have iX50 : ∀ w ∈ wsX50, w ∈ wsX8_property := fun _ h => List.mem_cons_of_mem _ (List.mem_append_left _ (List.mem_append_left _ (List.mem_append_right _ (h))))
  have iX70 : ∀ w ∈ wsX70, w ∈ wsX8_property := fun _ h => List.mem_cons_of_mem _ (List.mem_append_left _ (List.mem_append_right _ (h)))
  have hl : lv_has ls 2 [(0, .ref (ad 0)), (1, .int (iI 4))] := hl
  have hG : gW K A s.heap [gRLC K ad, gScn K (ad 3) (ad 14) (ad 15) (ad 16) (ad 17) ou mi bo ln LF sn SF] s.heap [] := hG
  obtain ⟨e0, e1, e2, e3, e4, e5, e6⟩ := id hS
  have n0 := hN.1
  have n3 := hN.2.2.2.1
  have n2 := hN.2.2.1
  refine lv_iload_n S.1 S.2.1 dX8_property_0 rfl (lv_at hl 1 rfl) ?_
  refine lv_tableIn (off := 82) (tgt := 83) S.1 S.2.1 dX8_property_1 (by decide) (by decide) rfl (by decide) ?_
  refine lv_aload_n S.1 S.2.1 dX8_property_83 rfl (lv_at hl 0 rfl) ?_
  refine g_get S C hG iX80 0 rfl rfl 2 (by decide) (List.mem_of_getElem? (i := 3) rfl) rfl dX8_property_84 ?_
  refine g_get S C hG iX50 1 rfl rfl 1 (by decide) (List.mem_of_getElem? (i := 9) rfl) rfl dX8_property_87 ?_
  refine g_get S C hG iX70 4 rfl rfl 1 (by decide) (List.mem_of_getElem? (i := 5) rfl) rfl dX8_property_90 ?_
  have hG : gW K A s.heap [gRLC K ad, gScn K (ad 3) (ad 14) (ad 15) (ad 16) (ad 17) ou mi bo ln LF sn SF] _ _ := hG
  exact g_iret S hr hlk hQ dX8_property_93 (Nat.le_of_ble_eq_true rfl) (Nat.le_of_ble_eq_true rfl) (() : Unit) (congrArg (fun z : Int => Value.int (iI z)) (by first | rfl | omega)) hG
set_option maxHeartbeats 1000000 in
set_option maxRecDepth 100000 in
theorem c_property5 (l : Launch) (K : KC) (ad : Nat → Nat) (ou : Int) (mi : Int) (bo : Int) (ln : Int) (LF : Int → Int) (sn : Int) (SF : Int → Int) (N : Int → Int) (hS : ScOk N ou mi bo ln LF sn SF) (hN : NOk0 N) : mG l yX8_property wsX8_property 2 46 K [.ref (ad 0), .int (iI 5)] [gRLC K ad, gScn K (ad 3) (ad 14) (ad 15) (ad 16) (ad 17) ou mi bo ln LF sn SF] (fun (v : Value) (u : Unit) => (v = .int (iI (depN N (N 0).toNat)))) (fun (u : Unit) => [gRLC K ad, gScn K (ad 3) (ad 14) (ad 15) (ad 16) (ad 17) ou mi bo ln LF sn SF]) 0 0 := by
  refine mG_of cX8_property 2 (by decide) rfl (Nat.le_of_ble_eq_true rfl) ?_
  intro p e s m below meth c A ls Q S C hG hl hr hlk hin hQ
  have S : CallFix p m c cX8_property 2 s ([.ref (ad 0), .int (iI 5)] : List Value).toArray wsX8_property RX8 := S
  have iX80 : ∀ w ∈ wsX80, w ∈ wsX8_property := fun _ h => List.mem_cons_of_mem _ (List.mem_append_left _ (List.mem_append_left _ (List.mem_append_left _ (List.mem_append_right _ (h)))))
  have iX50 : ∀ w ∈ wsX50, w ∈ wsX8_property := fun _ h => List.mem_cons_of_mem _ (List.mem_append_left _ (List.mem_append_left _ (List.mem_append_right _ (h))))
  have iX70 : ∀ w ∈ wsX70, w ∈ wsX8_property := fun _ h => List.mem_cons_of_mem _ (List.mem_append_left _ (List.mem_append_right _ (h)))
  have hl : lv_has ls 2 [(0, .ref (ad 0)), (1, .int (iI 5))] := hl
  have hG : gW K A s.heap [gRLC K ad, gScn K (ad 3) (ad 14) (ad 15) (ad 16) (ad 17) ou mi bo ln LF sn SF] s.heap [] := hG
  obtain ⟨e0, e1, e2, e3, e4, e5, e6⟩ := id hS
  have n0 := hN.1
  have n3 := hN.2.2.2.1
  have n2 := hN.2.2.1
  refine lv_iload_n S.1 S.2.1 dX8_property_0 rfl (lv_at hl 1 rfl) ?_
  refine lv_tableIn (off := 93) (tgt := 94) S.1 S.2.1 dX8_property_1 (by decide) (by decide) rfl (by decide) ?_
  refine lv_aload_n S.1 S.2.1 dX8_property_94 rfl (lv_at hl 0 rfl) ?_
  refine g_get S C hG iX80 0 rfl rfl 2 (by decide) (List.mem_of_getElem? (i := 3) rfl) rfl dX8_property_95 ?_
  refine lv_aload_n S.1 S.2.1 dX8_property_98 rfl (lv_at hl 0 rfl) ?_
  refine g_get S C hG iX80 0 rfl rfl 2 (by decide) (List.mem_of_getElem? (i := 3) rfl) rfl dX8_property_99 ?_
  refine g_get S C hG iX50 1 rfl rfl 0 (by decide) (List.mem_of_getElem? (i := 4) rfl) rfl dX8_property_102 ?_
  refine g_get S C hG iX70 2 rfl rfl 1 (by decide) (List.mem_of_getElem? (i := 5) rfl) rfl dX8_property_105 ?_
  refine g_invV (As := [.int (iI ln)]) (rest := []) (gs' := (fun u : Unit => [gRLC K ad, gScn K (ad 3) (ad 14) (ad 15) (ad 16) (ad 17) ou mi bo ln LF sn SF])) S C hG [1] (c_X5_depthOf l K (ad 3) (ad 14) (ad 15) (ad 16) (ad 17) ou mi bo ln LF sn SF N ln hS hN (by omega)) rfl rfl 0 rfl rfl (cwV 1 S.2.2.2.2 gX8_property_X5_depthOf rfl rfl rfl (by decide +kernel) ⟨Nat.le_of_ble_eq_true rfl, Nat.le_of_ble_eq_true rfl⟩) rfl hl.1 rfl (Nat.le_of_ble_eq_true rfl) dX8_property_108 ⟨Nat.le_of_ble_eq_true rfl, Nat.le_of_ble_eq_true rfl⟩ (fun _ => Nat.le_of_ble_eq_true rfl) (fun _ => rfl) (fun v u H locs hp hG => ?_)
  subst hp
  have hG : gW K A s.heap [gRLC K ad, gScn K (ad 3) (ad 14) (ad 15) (ad 16) (ad 17) ou mi bo ln LF sn SF] _ _ := hG
  exact g_iret S hr hlk hQ dX8_property_111 (Nat.le_of_ble_eq_true rfl) (Nat.le_of_ble_eq_true rfl) (() : Unit) (congrArg (fun z : Int => Value.int (iI z)) (by rw [e0])) hG
theorem c_X8_property (l : Launch) (K : KC) (ad : Nat → Nat) (ou : Int) (mi : Int) (bo : Int) (ln : Int) (LF : Int → Int) (sn : Int) (SF : Int → Int) (N : Int → Int) (x : Int) (hS : ScOk N ou mi bo ln LF sn SF) (hN : NOk0 N) (h0 : 0 ≤ x ∧ x ≤ 5) : mG l yX8_property wsX8_property 2 46 K [.ref (ad 0), .int (iI x)] [gRLC K ad, gScn K (ad 3) (ad 14) (ad 15) (ad 16) (ad 17) ou mi bo ln LF sn SF] (fun (v : Value) (u : Unit) => (v = .int (iI (prpN N x)))) (fun (u : Unit) => [gRLC K ad, gScn K (ad 3) (ad 14) (ad 15) (ad 16) (ad 17) ou mi bo ln LF sn SF]) 0 0 := by
  rcases (show x = 0 ∨ x = 1 ∨ x = 2 ∨ x = 3 ∨ x = 4 ∨ x = 5 by omega) with rfl | rfl | rfl | rfl | rfl | rfl
  · exact c_property0 l K ad ou mi bo ln LF sn SF N hS hN
  · exact c_property1 l K ad ou mi bo ln LF sn SF N hS hN
  · exact c_property2 l K ad ou mi bo ln LF sn SF N hS hN
  · exact c_property3 l K ad ou mi bo ln LF sn SF N hS hN
  · exact c_property4 l K ad ou mi bo ln LF sn SF N hS hN
  · exact c_property5 l K ad ou mi bo ln LF sn SF N hS hN
set_option maxHeartbeats 1000000 in
set_option maxRecDepth 100000 in
theorem c_X8_layer (l : Launch) (K : KC) (ad : Nat → Nat) (ou : Int) (mi : Int) (bo : Int) (ln : Int) (LF : Int → Int) (sn : Int) (SF : Int → Int) (N : Int → Int) (y : Int) (x : Int) (hS : ScOk N ou mi bo ln LF sn SF) (hN : NOk0 N) (hv : -2147483648 ≤ y ∧ y < 2147483648) (hx : -2147483648 ≤ x ∧ x < 2147483648) (hy : 0 ≤ y ∧ y < N 0) (h1 : 0 ≤ x ∧ x ≤ 3) : mG l yX8_layer wsX8_layer 2 46 K [.ref (ad 0), .int (iI y), .int (iI x)] [gRLC K ad, gScn K (ad 3) (ad 14) (ad 15) (ad 16) (ad 17) ou mi bo ln LF sn SF] (fun (v : Value) (u : Unit) => (v = .int (iI (layA N y x)))) (fun (u : Unit) => [gRLC K ad, gScn K (ad 3) (ad 14) (ad 15) (ad 16) (ad 17) ou mi bo ln LF sn SF]) 0 0 := by
  refine mG_of cX8_layer 3 (by decide) rfl (Nat.le_of_ble_eq_true rfl) ?_
  intro p e s m below meth c A ls Q S C hG hl hr hlk hin hQ
  have S : CallFix p m c cX8_layer 3 s ([.ref (ad 0), .int (iI y), .int (iI x)] : List Value).toArray wsX8_layer RX8 := S
  have iX80 : ∀ w ∈ wsX80, w ∈ wsX8_layer := fun _ h => List.mem_cons_of_mem _ (List.mem_append_left _ (List.mem_append_left _ (List.mem_append_left _ (List.mem_append_left _ (List.mem_append_right _ (h))))))
  have iX50 : ∀ w ∈ wsX50, w ∈ wsX8_layer := fun _ h => List.mem_cons_of_mem _ (List.mem_append_left _ (List.mem_append_left _ (List.mem_append_left _ (List.mem_append_right _ (h)))))
  have iX70 : ∀ w ∈ wsX70, w ∈ wsX8_layer := fun _ h => List.mem_cons_of_mem _ (List.mem_append_left _ (List.mem_append_left _ (List.mem_append_right _ (h))))
  have hl : lv_has ls 3 [(0, .ref (ad 0)), (1, .int (iI y)), (2, .int (iI x))] := hl
  have hG : gW K A s.heap [gRLC K ad, gScn K (ad 3) (ad 14) (ad 15) (ad 16) (ad 17) ou mi bo ln LF sn SF] s.heap [] := hG
  obtain ⟨e0, e1, e2, e3, e4, e5, e6⟩ := id hS
  have n0 := hN.1
  have n3 := hN.2.2.2.1
  refine lv_aload_n S.1 S.2.1 dX8_layer_0 rfl (lv_at hl 0 rfl) ?_
  refine lv_iload_n S.1 S.2.1 dX8_layer_1 rfl (lv_at hl 1 rfl) ?_
  refine g_invVv (As := [.int (iI y)]) (rest := []) (gs' := (fun u : Unit => [gRLC K ad, gScn K (ad 3) (ad 14) (ad 15) (ad 16) (ad 17) ou mi bo ln LF sn SF])) S C hG [0, 1] (c_X8_checkLayer l K ad ou mi bo ln LF sn SF N y hS hN hv hy) rfl rfl 0 rfl rfl (cwV 1 S.2.2.2.2 gX8_layer_X8_checkLayer rfl rfl rfl (by decide +kernel) ⟨Nat.le_of_ble_eq_true rfl, Nat.le_of_ble_eq_true rfl⟩) rfl hl.1 rfl (Nat.le_of_ble_eq_true rfl) dX8_layer_2 ⟨Nat.le_of_ble_eq_true rfl, Nat.le_of_ble_eq_true rfl⟩ (fun _ => Nat.le_of_ble_eq_true rfl) (fun _ => rfl) (fun u H locs hp hG => ?_)
  refine lv_iload_n S.1 S.2.1 dX8_layer_5 rfl (lv_at hl 2 rfl) ?_
  refine g_iconst S dX8_layer_6 ?_
  refine g_iconst S dX8_layer_7 ?_
  refine g_invSv (As := [.int (iI x), .int (iI 0), .int (iI 3)]) (rest := []) (gs' := (fun u : Unit => [gRLC K ad, gScn K (ad 3) (ad 14) (ad 15) (ad 16) (ad 17) ou mi bo ln LF sn SF])) S C hG [] (c_X8_checkRange l K x 0 3 hx (by omega) (by omega) h1) rfl rfl (va_cwS 3 S.2.2.2.2 gX8_layer_X8_checkRange rfl rfl rfl (by decide +kernel) ⟨Nat.le_of_ble_eq_true rfl, Nat.le_of_ble_eq_true rfl⟩) rfl hl.1 rfl (Nat.le_of_ble_eq_true rfl) dX8_layer_8 ⟨Nat.le_of_ble_eq_true rfl, Nat.le_of_ble_eq_true rfl⟩ (fun _ => Nat.le_of_ble_eq_true rfl) (fun _ => rfl) (fun u H locs hp hG => ?_)
  refine lv_iload_n S.1 S.2.1 dX8_layer_11 rfl (lv_at hl 2 rfl) ?_
  refine g_iconst S dX8_layer_12 ?_
  refine g_icmp_ne (tgt := 27) S dX8_layer_13 (by decide) (by omega) (by omega) (fun q13 => ?_) (fun q13 => ?_)
  · skip
    refine lv_aload_n S.1 S.2.1 dX8_layer_27 rfl (lv_at hl 0 rfl) ?_
    refine g_get S C hG iX80 0 rfl rfl 2 (by decide) (List.mem_of_getElem? (i := 1) rfl) rfl dX8_layer_28 ?_
    refine g_get S C hG iX50 1 rfl rfl 0 (by decide) (List.mem_of_getElem? (i := 2) rfl) rfl dX8_layer_31 ?_
    refine lv_iload_n S.1 S.2.1 dX8_layer_34 rfl (lv_at hl 1 rfl) ?_
    refine lv_iload_n S.1 S.2.1 dX8_layer_35 rfl (lv_at hl 2 rfl) ?_
    have hG : gW K A s.heap [gRLC K ad, gScC K (ad 3) (ad 14) (ad 16) ou mi bo, gTab K (ad 14) (ad 15) ln LF, gTabC K (ad 16) (ad 17) sn, gArr K 60 (ad 17) SF] _ _ := hG
    refine g_invV (As := [.int (iI y), .int (iI x)]) (rest := []) (gs' := (fun u : Unit => [gRLC K ad, gScC K (ad 3) (ad 14) (ad 16) ou mi bo, gTab K (ad 14) (ad 15) ln LF, gTabC K (ad 16) (ad 17) sn, gArr K 60 (ad 17) SF])) S C hG [2] (c_X7_get l K (ad 14) (ad 15) ln LF y x (by omega) (by omega)) rfl rfl 0 rfl rfl (cwV 2 S.2.2.2.2 gX8_layer_X7_get rfl rfl rfl (by decide +kernel) ⟨Nat.le_of_ble_eq_true rfl, Nat.le_of_ble_eq_true rfl⟩) rfl hl.1 rfl (Nat.le_of_ble_eq_true rfl) dX8_layer_36 ⟨Nat.le_of_ble_eq_true rfl, Nat.le_of_ble_eq_true rfl⟩ (fun _ => Nat.le_of_ble_eq_true rfl) (fun _ => rfl) (fun v u H locs hp hG => ?_)
    subst hp
    refine g_top (w := .int (iI (N (5 + 3 * y + x)))) (congrArg (fun z : Int => Value.int (iI z)) ((e5 y x hy.1 (by omega) h1.1 (by omega)))) ?_
    have hG : gW K A s.heap [gRLC K ad, gScn K (ad 3) (ad 14) (ad 15) (ad 16) (ad 17) ou mi bo ln LF sn SF] _ _ := hG
    exact g_iret S hr hlk hQ dX8_layer_39 (Nat.le_of_ble_eq_true rfl) (Nat.le_of_ble_eq_true rfl) (() : Unit) (congrArg (fun z : Int => Value.int (iI z)) (by unfold layA <;> rw [if_neg (by omega)])) hG
  · skip
    refine lv_aload_n S.1 S.2.1 dX8_layer_16 rfl (lv_at hl 0 rfl) ?_
    refine g_get S C hG iX80 0 rfl rfl 2 (by decide) (List.mem_of_getElem? (i := 1) rfl) rfl dX8_layer_17 ?_
    refine lv_iload_n S.1 S.2.1 dX8_layer_20 rfl (lv_at hl 1 rfl) ?_
    refine g_invV (As := [.int (iI y)]) (rest := []) (gs' := (fun u : Unit => [gRLC K ad, gScn K (ad 3) (ad 14) (ad 15) (ad 16) (ad 17) ou mi bo ln LF sn SF])) S C hG [1] (c_X5_depthOf l K (ad 3) (ad 14) (ad 15) (ad 16) (ad 17) ou mi bo ln LF sn SF N y hS hN (by omega)) rfl rfl 0 rfl rfl (cwV 1 S.2.2.2.2 gX8_layer_X5_depthOf rfl rfl rfl (by decide +kernel) ⟨Nat.le_of_ble_eq_true rfl, Nat.le_of_ble_eq_true rfl⟩) rfl hl.1 rfl (Nat.le_of_ble_eq_true rfl) dX8_layer_21 ⟨Nat.le_of_ble_eq_true rfl, Nat.le_of_ble_eq_true rfl⟩ (fun _ => Nat.le_of_ble_eq_true rfl) (fun _ => rfl) (fun v u H locs hp hG => ?_)
    subst hp
    refine lv_goto (tgt := 39) S.1 S.2.1 dX8_layer_24 (by decide) ?_
    have hG : gW K A s.heap [gRLC K ad, gScn K (ad 3) (ad 14) (ad 15) (ad 16) (ad 17) ou mi bo ln LF sn SF] _ _ := hG
    exact g_iret S hr hlk hQ dX8_layer_39 (Nat.le_of_ble_eq_true rfl) (Nat.le_of_ble_eq_true rfl) (() : Unit) (congrArg (fun z : Int => Value.int (iI z)) (by unfold layA <;> rw [if_pos (by omega)])) hG
set_option maxHeartbeats 1000000 in
set_option maxRecDepth 100000 in
theorem c_X8_shot (l : Launch) (K : KC) (ad : Nat → Nat) (ou : Int) (mi : Int) (bo : Int) (ln : Int) (LF : Int → Int) (sn : Int) (SF : Int → Int) (N : Int → Int) (y : Int) (x : Int) (hS : ScOk N ou mi bo ln LF sn SF) (hN : NOk0 N) (hv : -2147483648 ≤ y ∧ y < 2147483648) (hx : -2147483648 ≤ x ∧ x < 2147483648) (hy : 0 ≤ y ∧ y < N 4) (h1 : 0 ≤ x ∧ x ≤ 2) : mG l yX8_shot wsX8_shot 2 42 K [.ref (ad 0), .int (iI y), .int (iI x)] [gRLC K ad, gScn K (ad 3) (ad 14) (ad 15) (ad 16) (ad 17) ou mi bo ln LF sn SF] (fun (v : Value) (u : Unit) => (v = .int (iI (N (35 + 3 * y + x))))) (fun (u : Unit) => [gRLC K ad, gScn K (ad 3) (ad 14) (ad 15) (ad 16) (ad 17) ou mi bo ln LF sn SF]) 0 0 := by
  refine mG_of cX8_shot 3 (by decide) rfl (Nat.le_of_ble_eq_true rfl) ?_
  intro p e s m below meth c A ls Q S C hG hl hr hlk hin hQ
  have S : CallFix p m c cX8_shot 3 s ([.ref (ad 0), .int (iI y), .int (iI x)] : List Value).toArray wsX8_shot RX8 := S
  have iX80 : ∀ w ∈ wsX80, w ∈ wsX8_shot := fun _ h => List.mem_cons_of_mem _ (List.mem_append_left _ (List.mem_append_left _ (List.mem_append_left _ (List.mem_append_left _ (List.mem_append_right _ (h))))))
  have iX50 : ∀ w ∈ wsX50, w ∈ wsX8_shot := fun _ h => List.mem_cons_of_mem _ (List.mem_append_left _ (List.mem_append_left _ (List.mem_append_left _ (List.mem_append_right _ (h)))))
  have iX70 : ∀ w ∈ wsX70, w ∈ wsX8_shot := fun _ h => List.mem_cons_of_mem _ (List.mem_append_left _ (List.mem_append_left _ (List.mem_append_right _ (h))))
  have hl : lv_has ls 3 [(0, .ref (ad 0)), (1, .int (iI y)), (2, .int (iI x))] := hl
  have hG : gW K A s.heap [gRLC K ad, gScn K (ad 3) (ad 14) (ad 15) (ad 16) (ad 17) ou mi bo ln LF sn SF] s.heap [] := hG
  obtain ⟨e0, e1, e2, e3, e4, e5, e6⟩ := id hS
  have n0 := hN.1
  have n3 := hN.2.2.2.1
  refine lv_aload_n S.1 S.2.1 dX8_shot_0 rfl (lv_at hl 0 rfl) ?_
  refine lv_iload_n S.1 S.2.1 dX8_shot_1 rfl (lv_at hl 1 rfl) ?_
  refine g_invVv (As := [.int (iI y)]) (rest := []) (gs' := (fun u : Unit => [gRLC K ad, gScn K (ad 3) (ad 14) (ad 15) (ad 16) (ad 17) ou mi bo ln LF sn SF])) S C hG [0, 1] (c_X8_checkShot l K ad ou mi bo ln LF sn SF N y hS hN hv hy) rfl rfl 0 rfl rfl (cwV 1 S.2.2.2.2 gX8_shot_X8_checkShot rfl rfl rfl (by decide +kernel) ⟨Nat.le_of_ble_eq_true rfl, Nat.le_of_ble_eq_true rfl⟩) rfl hl.1 rfl (Nat.le_of_ble_eq_true rfl) dX8_shot_2 ⟨Nat.le_of_ble_eq_true rfl, Nat.le_of_ble_eq_true rfl⟩ (fun _ => Nat.le_of_ble_eq_true rfl) (fun _ => rfl) (fun u H locs hp hG => ?_)
  refine lv_iload_n S.1 S.2.1 dX8_shot_5 rfl (lv_at hl 2 rfl) ?_
  refine g_iconst S dX8_shot_6 ?_
  refine g_iconst S dX8_shot_7 ?_
  refine g_invSv (As := [.int (iI x), .int (iI 0), .int (iI 2)]) (rest := []) (gs' := (fun u : Unit => [gRLC K ad, gScn K (ad 3) (ad 14) (ad 15) (ad 16) (ad 17) ou mi bo ln LF sn SF])) S C hG [] (c_X8_checkRange l K x 0 2 hx (by omega) (by omega) h1) rfl rfl (va_cwS 3 S.2.2.2.2 gX8_shot_X8_checkRange rfl rfl rfl (by decide +kernel) ⟨Nat.le_of_ble_eq_true rfl, Nat.le_of_ble_eq_true rfl⟩) rfl hl.1 rfl (Nat.le_of_ble_eq_true rfl) dX8_shot_8 ⟨Nat.le_of_ble_eq_true rfl, Nat.le_of_ble_eq_true rfl⟩ (fun _ => Nat.le_of_ble_eq_true rfl) (fun _ => rfl) (fun u H locs hp hG => ?_)
  refine lv_aload_n S.1 S.2.1 dX8_shot_11 rfl (lv_at hl 0 rfl) ?_
  refine g_get S C hG iX80 0 rfl rfl 2 (by decide) (List.mem_of_getElem? (i := 1) rfl) rfl dX8_shot_12 ?_
  refine g_get S C hG iX50 1 rfl rfl 1 (by decide) (List.mem_of_getElem? (i := 2) rfl) rfl dX8_shot_15 ?_
  refine lv_iload_n S.1 S.2.1 dX8_shot_18 rfl (lv_at hl 1 rfl) ?_
  refine lv_iload_n S.1 S.2.1 dX8_shot_19 rfl (lv_at hl 2 rfl) ?_
  have hG : gW K A s.heap [gRLC K ad, gScC K (ad 3) (ad 14) (ad 16) ou mi bo, gTabC K (ad 14) (ad 15) ln, gArr K 60 (ad 15) LF, gTab K (ad 16) (ad 17) sn SF] _ _ := hG
  refine g_invV (As := [.int (iI y), .int (iI x)]) (rest := []) (gs' := (fun u : Unit => [gRLC K ad, gScC K (ad 3) (ad 14) (ad 16) ou mi bo, gTabC K (ad 14) (ad 15) ln, gArr K 60 (ad 15) LF, gTab K (ad 16) (ad 17) sn SF])) S C hG [4] (c_X7_get l K (ad 16) (ad 17) sn SF y x (by omega) (by omega)) rfl rfl 0 rfl rfl (cwV 2 S.2.2.2.2 gX8_shot_X7_get rfl rfl rfl (by decide +kernel) ⟨Nat.le_of_ble_eq_true rfl, Nat.le_of_ble_eq_true rfl⟩) rfl hl.1 rfl (Nat.le_of_ble_eq_true rfl) dX8_shot_20 ⟨Nat.le_of_ble_eq_true rfl, Nat.le_of_ble_eq_true rfl⟩ (fun _ => Nat.le_of_ble_eq_true rfl) (fun _ => rfl) (fun v u H locs hp hG => ?_)
  subst hp
  refine g_top (w := .int (iI (N (35 + 3 * y + x)))) (congrArg (fun z : Int => Value.int (iI z)) ((e6 y x hy.1 (by omega) h1.1 (by omega)))) ?_
  have hG : gW K A s.heap [gRLC K ad, gScn K (ad 3) (ad 14) (ad 15) (ad 16) (ad 17) ou mi bo ln LF sn SF] _ _ := hG
  exact g_iret S hr hlk hQ dX8_shot_23 (Nat.le_of_ble_eq_true rfl) (Nat.le_of_ble_eq_true rfl) (() : Unit) rfl hG
set_option maxHeartbeats 1000000 in
set_option maxRecDepth 100000 in
theorem c_path0 (l : Launch) (K : KC) (ad : Nat → Nat) (ou : Int) (mi : Int) (bo : Int) (ln : Int) (LF : Int → Int) (sn : Int) (SF : Int → Int) (N : Int → Int) (rs : Nat) (rv : RU) (XF : Int → Int) (y : Int) (hS : ScOk N ou mi bo ln LF sn SF) (hN : NOk0 N) (hv : -2147483648 ≤ y ∧ y < 2147483648) (hs : 0 ≤ y ∧ y < N 4) : mG l yX8_path wsX8_path 5 117 K [.ref (ad 0), .int (iI y), .int (iI 0)] [gRLC K ad, gScn K (ad 3) (ad 14) (ad 15) (ad 16) (ad 17) ou mi bo ln LF sn SF, gRayU K (ad 7) (ad 23) (ad 24) (ad 25) (ad 26) rs rv XF] (fun (v : Value) (u : RU × (Int → Int)) => (v = .int (iI (gS N y : Int))) ∧ (ResU N (sP N y) (sY N y) (sD N y) u.1)) (fun (u : RU × (Int → Int)) => [gRLC K ad, gScn K (ad 3) (ad 14) (ad 15) (ad 16) (ad 17) ou mi bo ln LF sn SF, gRayU K (ad 7) (ad 23) (ad 24) (ad 25) (ad 26) (ad 3) u.1 u.2]) 0 0 := by
  refine mG_of cX8_path 4 (by decide) rfl (Nat.le_of_ble_eq_true rfl) ?_
  intro p e s m below meth c A ls Q S C hG hl hr hlk hin hQ
  have S : CallFix p m c cX8_path 4 s ([.ref (ad 0), .int (iI y), .int (iI 0)] : List Value).toArray wsX8_path RX8 := S
  have iX80 : ∀ w ∈ wsX80, w ∈ wsX8_path := fun _ h => List.mem_cons_of_mem _ (List.mem_append_left _ (List.mem_append_left _ (List.mem_append_left _ (List.mem_append_left _ (List.mem_append_left _ (List.mem_append_right _ (h)))))))
  have iX40 : ∀ w ∈ wsX40, w ∈ wsX8_path := fun _ h => List.mem_cons_of_mem _ (List.mem_append_left _ (List.mem_append_left _ (List.mem_append_left _ (List.mem_append_left _ (List.mem_append_right _ (h))))))
  have iX50 : ∀ w ∈ wsX50, w ∈ wsX8_path := fun _ h => List.mem_cons_of_mem _ (List.mem_append_left _ (List.mem_append_left _ (List.mem_append_left _ (List.mem_append_right _ (h)))))
  have iX70 : ∀ w ∈ wsX70, w ∈ wsX8_path := fun _ h => List.mem_cons_of_mem _ (List.mem_append_left _ (List.mem_append_left _ (List.mem_append_right _ (h))))
  have hl : lv_has ls 4 [(0, .ref (ad 0)), (1, .int (iI y)), (2, .int (iI 0))] := hl
  have hG : gW K A s.heap [gRLC K ad, gScn K (ad 3) (ad 14) (ad 15) (ad 16) (ad 17) ou mi bo ln LF sn SF, gRayU K (ad 7) (ad 23) (ad 24) (ad 25) (ad 26) rs rv XF] s.heap [] := hG
  obtain ⟨e0, e1, e2, e3, e4, e5, e6⟩ := id hS
  have n0 := hN.1
  have n3 := hN.2.2.2.1
  refine lv_aload_n S.1 S.2.1 dX8_path_0 rfl (lv_at hl 0 rfl) ?_
  refine lv_iload_n S.1 S.2.1 dX8_path_1 rfl (lv_at hl 1 rfl) ?_
  refine g_invVv (As := [.int (iI y)]) (rest := []) (gs' := (fun u : Unit => [gRLC K ad, gScn K (ad 3) (ad 14) (ad 15) (ad 16) (ad 17) ou mi bo ln LF sn SF, gRayU K (ad 7) (ad 23) (ad 24) (ad 25) (ad 26) rs rv XF])) S C hG [0, 1] (c_X8_checkShot l K ad ou mi bo ln LF sn SF N y hS hN hv hs) rfl rfl 0 rfl rfl (cwV 1 S.2.2.2.2 gX8_path_X8_checkShot rfl rfl rfl (by decide +kernel) ⟨Nat.le_of_ble_eq_true rfl, Nat.le_of_ble_eq_true rfl⟩) rfl hl.1 rfl (Nat.le_of_ble_eq_true rfl) dX8_path_2 ⟨Nat.le_of_ble_eq_true rfl, Nat.le_of_ble_eq_true rfl⟩ (fun _ => Nat.le_of_ble_eq_true rfl) (fun _ => rfl) (fun u H locs hp hG => ?_)
  refine lv_aload_n S.1 S.2.1 dX8_path_5 rfl (lv_at hl 0 rfl) ?_
  refine lv_aload_n S.1 S.2.1 dX8_path_6 rfl (lv_at hl 0 rfl) ?_
  refine g_get S C hG iX80 0 rfl rfl 2 (by decide) (List.mem_of_getElem? (i := 3) rfl) rfl dX8_path_7 ?_
  refine lv_iload_n S.1 S.2.1 dX8_path_10 rfl (lv_at hl 1 rfl) ?_
  refine g_invV (As := [.ref (ad 3), .int (iI y)]) (rest := []) (gs' := (fun u : RU × (Int → Int) => [gRLC K ad, gScn K (ad 3) (ad 14) (ad 15) (ad 16) (ad 17) ou mi bo ln LF sn SF, gRayU K (ad 7) (ad 23) (ad 24) (ad 25) (ad 26) (ad 3) u.1 u.2])) S C hG [0, 1, 2] (c_X8_runOf l K ad (ad 3) (ad 14) (ad 15) (ad 16) (ad 17) ou mi bo ln LF sn SF N rs rv XF y hS hN hs) rfl rfl 0 rfl rfl (cwV 2 S.2.2.2.2 gX8_path_X8_runOf rfl rfl rfl (by decide +kernel) ⟨Nat.le_of_ble_eq_true rfl, Nat.le_of_ble_eq_true rfl⟩) rfl hl.1 rfl (Nat.le_of_ble_eq_true rfl) dX8_path_11 ⟨Nat.le_of_ble_eq_true rfl, Nat.le_of_ble_eq_true rfl⟩ (fun _ => Nat.le_of_ble_eq_true rfl) (fun _ => rfl) (fun v u H locs hp hG => ?_)
  obtain ⟨rv2_11, X2_11⟩ := u
  obtain ⟨rfl, hr_11⟩ := hp
  have hr_11 : ResU N (sP N y) (sY N y) (sD N y) rv2_11 := hr_11
  have hG : gW K A s.heap [gRLC K ad, gScn K (ad 3) (ad 14) (ad 15) (ad 16) (ad 17) ou mi bo ln LF sn SF, gRayU K (ad 7) (ad 23) (ad 24) (ad 25) (ad 26) (ad 3) rv2_11 X2_11] _ _ := hG
  refine lv_astore_n (lv' := [(3, .ref (ad 7)), (0, .ref (ad 0)), (1, .int (iI y)), (2, .int (iI 0))]) S.1 S.2.1 dX8_path_14 rfl hl (by decide) rfl (fun ls hl => ?_)
  refine lv_iload_n S.1 S.2.1 dX8_path_15 rfl (lv_at hl 3 rfl) ?_
  refine lv_tableIn (off := 56) (tgt := 72) S.1 S.2.1 dX8_path_16 (by decide) (by decide) rfl (by decide) ?_
  refine lv_aload_n S.1 S.2.1 dX8_path_72 rfl (lv_at hl 0 rfl) ?_
  refine g_get S C hG iX40 6 rfl rfl 8 (by decide) (List.mem_of_getElem? (i := 4) rfl) rfl dX8_path_73 ?_
  have hG : gW K A s.heap [gRLC K ad, gScn K (ad 3) (ad 14) (ad 15) (ad 16) (ad 17) ou mi bo ln LF sn SF, gRayU K (ad 7) (ad 23) (ad 24) (ad 25) (ad 26) (ad 3) rv2_11 X2_11] _ _ := hG
  exact g_iret S hr hlk hQ dX8_path_76 (Nat.le_of_ble_eq_true rfl) (Nat.le_of_ble_eq_true rfl) ((rv2_11, X2_11) : RU × (Int → Int)) ⟨(congrArg (fun z : Int => Value.int (iI z)) hr_11.f.1), hr_11⟩ hG
set_option maxHeartbeats 1000000 in
set_option maxRecDepth 100000 in
theorem c_path1 (l : Launch) (K : KC) (ad : Nat → Nat) (ou : Int) (mi : Int) (bo : Int) (ln : Int) (LF : Int → Int) (sn : Int) (SF : Int → Int) (N : Int → Int) (rs : Nat) (rv : RU) (XF : Int → Int) (y : Int) (hS : ScOk N ou mi bo ln LF sn SF) (hN : NOk0 N) (hv : -2147483648 ≤ y ∧ y < 2147483648) (hs : 0 ≤ y ∧ y < N 4) : mG l yX8_path wsX8_path 5 117 K [.ref (ad 0), .int (iI y), .int (iI 1)] [gRLC K ad, gScn K (ad 3) (ad 14) (ad 15) (ad 16) (ad 17) ou mi bo ln LF sn SF, gRayU K (ad 7) (ad 23) (ad 24) (ad 25) (ad 26) rs rv XF] (fun (v : Value) (u : RU × (Int → Int)) => (v = .int (iI (eS N y))) ∧ (ResU N (sP N y) (sY N y) (sD N y) u.1)) (fun (u : RU × (Int → Int)) => [gRLC K ad, gScn K (ad 3) (ad 14) (ad 15) (ad 16) (ad 17) ou mi bo ln LF sn SF, gRayU K (ad 7) (ad 23) (ad 24) (ad 25) (ad 26) (ad 3) u.1 u.2]) 0 0 := by
  refine mG_of cX8_path 4 (by decide) rfl (Nat.le_of_ble_eq_true rfl) ?_
  intro p e s m below meth c A ls Q S C hG hl hr hlk hin hQ
  have S : CallFix p m c cX8_path 4 s ([.ref (ad 0), .int (iI y), .int (iI 1)] : List Value).toArray wsX8_path RX8 := S
  have iX80 : ∀ w ∈ wsX80, w ∈ wsX8_path := fun _ h => List.mem_cons_of_mem _ (List.mem_append_left _ (List.mem_append_left _ (List.mem_append_left _ (List.mem_append_left _ (List.mem_append_left _ (List.mem_append_right _ (h)))))))
  have iX40 : ∀ w ∈ wsX40, w ∈ wsX8_path := fun _ h => List.mem_cons_of_mem _ (List.mem_append_left _ (List.mem_append_left _ (List.mem_append_left _ (List.mem_append_left _ (List.mem_append_right _ (h))))))
  have iX50 : ∀ w ∈ wsX50, w ∈ wsX8_path := fun _ h => List.mem_cons_of_mem _ (List.mem_append_left _ (List.mem_append_left _ (List.mem_append_left _ (List.mem_append_right _ (h)))))
  have iX70 : ∀ w ∈ wsX70, w ∈ wsX8_path := fun _ h => List.mem_cons_of_mem _ (List.mem_append_left _ (List.mem_append_left _ (List.mem_append_right _ (h))))
  have hl : lv_has ls 4 [(0, .ref (ad 0)), (1, .int (iI y)), (2, .int (iI 1))] := hl
  have hG : gW K A s.heap [gRLC K ad, gScn K (ad 3) (ad 14) (ad 15) (ad 16) (ad 17) ou mi bo ln LF sn SF, gRayU K (ad 7) (ad 23) (ad 24) (ad 25) (ad 26) rs rv XF] s.heap [] := hG
  obtain ⟨e0, e1, e2, e3, e4, e5, e6⟩ := id hS
  have n0 := hN.1
  have n3 := hN.2.2.2.1
  refine lv_aload_n S.1 S.2.1 dX8_path_0 rfl (lv_at hl 0 rfl) ?_
  refine lv_iload_n S.1 S.2.1 dX8_path_1 rfl (lv_at hl 1 rfl) ?_
  refine g_invVv (As := [.int (iI y)]) (rest := []) (gs' := (fun u : Unit => [gRLC K ad, gScn K (ad 3) (ad 14) (ad 15) (ad 16) (ad 17) ou mi bo ln LF sn SF, gRayU K (ad 7) (ad 23) (ad 24) (ad 25) (ad 26) rs rv XF])) S C hG [0, 1] (c_X8_checkShot l K ad ou mi bo ln LF sn SF N y hS hN hv hs) rfl rfl 0 rfl rfl (cwV 1 S.2.2.2.2 gX8_path_X8_checkShot rfl rfl rfl (by decide +kernel) ⟨Nat.le_of_ble_eq_true rfl, Nat.le_of_ble_eq_true rfl⟩) rfl hl.1 rfl (Nat.le_of_ble_eq_true rfl) dX8_path_2 ⟨Nat.le_of_ble_eq_true rfl, Nat.le_of_ble_eq_true rfl⟩ (fun _ => Nat.le_of_ble_eq_true rfl) (fun _ => rfl) (fun u H locs hp hG => ?_)
  refine lv_aload_n S.1 S.2.1 dX8_path_5 rfl (lv_at hl 0 rfl) ?_
  refine lv_aload_n S.1 S.2.1 dX8_path_6 rfl (lv_at hl 0 rfl) ?_
  refine g_get S C hG iX80 0 rfl rfl 2 (by decide) (List.mem_of_getElem? (i := 3) rfl) rfl dX8_path_7 ?_
  refine lv_iload_n S.1 S.2.1 dX8_path_10 rfl (lv_at hl 1 rfl) ?_
  refine g_invV (As := [.ref (ad 3), .int (iI y)]) (rest := []) (gs' := (fun u : RU × (Int → Int) => [gRLC K ad, gScn K (ad 3) (ad 14) (ad 15) (ad 16) (ad 17) ou mi bo ln LF sn SF, gRayU K (ad 7) (ad 23) (ad 24) (ad 25) (ad 26) (ad 3) u.1 u.2])) S C hG [0, 1, 2] (c_X8_runOf l K ad (ad 3) (ad 14) (ad 15) (ad 16) (ad 17) ou mi bo ln LF sn SF N rs rv XF y hS hN hs) rfl rfl 0 rfl rfl (cwV 2 S.2.2.2.2 gX8_path_X8_runOf rfl rfl rfl (by decide +kernel) ⟨Nat.le_of_ble_eq_true rfl, Nat.le_of_ble_eq_true rfl⟩) rfl hl.1 rfl (Nat.le_of_ble_eq_true rfl) dX8_path_11 ⟨Nat.le_of_ble_eq_true rfl, Nat.le_of_ble_eq_true rfl⟩ (fun _ => Nat.le_of_ble_eq_true rfl) (fun _ => rfl) (fun v u H locs hp hG => ?_)
  obtain ⟨rv2_11, X2_11⟩ := u
  obtain ⟨rfl, hr_11⟩ := hp
  have hr_11 : ResU N (sP N y) (sY N y) (sD N y) rv2_11 := hr_11
  have hG : gW K A s.heap [gRLC K ad, gScn K (ad 3) (ad 14) (ad 15) (ad 16) (ad 17) ou mi bo ln LF sn SF, gRayU K (ad 7) (ad 23) (ad 24) (ad 25) (ad 26) (ad 3) rv2_11 X2_11] _ _ := hG
  refine lv_astore_n (lv' := [(3, .ref (ad 7)), (0, .ref (ad 0)), (1, .int (iI y)), (2, .int (iI 1))]) S.1 S.2.1 dX8_path_14 rfl hl (by decide) rfl (fun ls hl => ?_)
  refine lv_iload_n S.1 S.2.1 dX8_path_15 rfl (lv_at hl 3 rfl) ?_
  refine lv_tableIn (off := 61) (tgt := 77) S.1 S.2.1 dX8_path_16 (by decide) (by decide) rfl (by decide) ?_
  refine lv_aload_n S.1 S.2.1 dX8_path_77 rfl (lv_at hl 0 rfl) ?_
  refine g_get S C hG iX40 6 rfl rfl 9 (by decide) (List.mem_of_getElem? (i := 5) rfl) rfl dX8_path_78 ?_
  have hG : gW K A s.heap [gRLC K ad, gScn K (ad 3) (ad 14) (ad 15) (ad 16) (ad 17) ou mi bo ln LF sn SF, gRayU K (ad 7) (ad 23) (ad 24) (ad 25) (ad 26) (ad 3) rv2_11 X2_11] _ _ := hG
  exact g_iret S hr hlk hQ dX8_path_81 (Nat.le_of_ble_eq_true rfl) (Nat.le_of_ble_eq_true rfl) ((rv2_11, X2_11) : RU × (Int → Int)) ⟨(congrArg (fun z : Int => Value.int (iI z)) hr_11.f.2.1), hr_11⟩ hG
set_option maxHeartbeats 1000000 in
set_option maxRecDepth 100000 in
theorem c_path2 (l : Launch) (K : KC) (ad : Nat → Nat) (ou : Int) (mi : Int) (bo : Int) (ln : Int) (LF : Int → Int) (sn : Int) (SF : Int → Int) (N : Int → Int) (rs : Nat) (rv : RU) (XF : Int → Int) (y : Int) (hS : ScOk N ou mi bo ln LF sn SF) (hN : NOk0 N) (hv : -2147483648 ≤ y ∧ y < 2147483648) (hs : 0 ≤ y ∧ y < N 4) : mG l yX8_path wsX8_path 5 117 K [.ref (ad 0), .int (iI y), .int (iI 2)] [gRLC K ad, gScn K (ad 3) (ad 14) (ad 15) (ad 16) (ad 17) ou mi bo ln LF sn SF, gRayU K (ad 7) (ad 23) (ad 24) (ad 25) (ad 26) rs rv XF] (fun (v : Value) (u : RU × (Int → Int)) => (v = .int (iI (hS_ N y))) ∧ (ResU N (sP N y) (sY N y) (sD N y) u.1)) (fun (u : RU × (Int → Int)) => [gRLC K ad, gScn K (ad 3) (ad 14) (ad 15) (ad 16) (ad 17) ou mi bo ln LF sn SF, gRayU K (ad 7) (ad 23) (ad 24) (ad 25) (ad 26) (ad 3) u.1 u.2]) 0 0 := by
  refine mG_of cX8_path 4 (by decide) rfl (Nat.le_of_ble_eq_true rfl) ?_
  intro p e s m below meth c A ls Q S C hG hl hr hlk hin hQ
  have S : CallFix p m c cX8_path 4 s ([.ref (ad 0), .int (iI y), .int (iI 2)] : List Value).toArray wsX8_path RX8 := S
  have iX80 : ∀ w ∈ wsX80, w ∈ wsX8_path := fun _ h => List.mem_cons_of_mem _ (List.mem_append_left _ (List.mem_append_left _ (List.mem_append_left _ (List.mem_append_left _ (List.mem_append_left _ (List.mem_append_right _ (h)))))))
  have iX40 : ∀ w ∈ wsX40, w ∈ wsX8_path := fun _ h => List.mem_cons_of_mem _ (List.mem_append_left _ (List.mem_append_left _ (List.mem_append_left _ (List.mem_append_left _ (List.mem_append_right _ (h))))))
  have iX50 : ∀ w ∈ wsX50, w ∈ wsX8_path := fun _ h => List.mem_cons_of_mem _ (List.mem_append_left _ (List.mem_append_left _ (List.mem_append_left _ (List.mem_append_right _ (h)))))
  have iX70 : ∀ w ∈ wsX70, w ∈ wsX8_path := fun _ h => List.mem_cons_of_mem _ (List.mem_append_left _ (List.mem_append_left _ (List.mem_append_right _ (h))))
  have hl : lv_has ls 4 [(0, .ref (ad 0)), (1, .int (iI y)), (2, .int (iI 2))] := hl
  have hG : gW K A s.heap [gRLC K ad, gScn K (ad 3) (ad 14) (ad 15) (ad 16) (ad 17) ou mi bo ln LF sn SF, gRayU K (ad 7) (ad 23) (ad 24) (ad 25) (ad 26) rs rv XF] s.heap [] := hG
  obtain ⟨e0, e1, e2, e3, e4, e5, e6⟩ := id hS
  have n0 := hN.1
  have n3 := hN.2.2.2.1
  refine lv_aload_n S.1 S.2.1 dX8_path_0 rfl (lv_at hl 0 rfl) ?_
  refine lv_iload_n S.1 S.2.1 dX8_path_1 rfl (lv_at hl 1 rfl) ?_
  refine g_invVv (As := [.int (iI y)]) (rest := []) (gs' := (fun u : Unit => [gRLC K ad, gScn K (ad 3) (ad 14) (ad 15) (ad 16) (ad 17) ou mi bo ln LF sn SF, gRayU K (ad 7) (ad 23) (ad 24) (ad 25) (ad 26) rs rv XF])) S C hG [0, 1] (c_X8_checkShot l K ad ou mi bo ln LF sn SF N y hS hN hv hs) rfl rfl 0 rfl rfl (cwV 1 S.2.2.2.2 gX8_path_X8_checkShot rfl rfl rfl (by decide +kernel) ⟨Nat.le_of_ble_eq_true rfl, Nat.le_of_ble_eq_true rfl⟩) rfl hl.1 rfl (Nat.le_of_ble_eq_true rfl) dX8_path_2 ⟨Nat.le_of_ble_eq_true rfl, Nat.le_of_ble_eq_true rfl⟩ (fun _ => Nat.le_of_ble_eq_true rfl) (fun _ => rfl) (fun u H locs hp hG => ?_)
  refine lv_aload_n S.1 S.2.1 dX8_path_5 rfl (lv_at hl 0 rfl) ?_
  refine lv_aload_n S.1 S.2.1 dX8_path_6 rfl (lv_at hl 0 rfl) ?_
  refine g_get S C hG iX80 0 rfl rfl 2 (by decide) (List.mem_of_getElem? (i := 3) rfl) rfl dX8_path_7 ?_
  refine lv_iload_n S.1 S.2.1 dX8_path_10 rfl (lv_at hl 1 rfl) ?_
  refine g_invV (As := [.ref (ad 3), .int (iI y)]) (rest := []) (gs' := (fun u : RU × (Int → Int) => [gRLC K ad, gScn K (ad 3) (ad 14) (ad 15) (ad 16) (ad 17) ou mi bo ln LF sn SF, gRayU K (ad 7) (ad 23) (ad 24) (ad 25) (ad 26) (ad 3) u.1 u.2])) S C hG [0, 1, 2] (c_X8_runOf l K ad (ad 3) (ad 14) (ad 15) (ad 16) (ad 17) ou mi bo ln LF sn SF N rs rv XF y hS hN hs) rfl rfl 0 rfl rfl (cwV 2 S.2.2.2.2 gX8_path_X8_runOf rfl rfl rfl (by decide +kernel) ⟨Nat.le_of_ble_eq_true rfl, Nat.le_of_ble_eq_true rfl⟩) rfl hl.1 rfl (Nat.le_of_ble_eq_true rfl) dX8_path_11 ⟨Nat.le_of_ble_eq_true rfl, Nat.le_of_ble_eq_true rfl⟩ (fun _ => Nat.le_of_ble_eq_true rfl) (fun _ => rfl) (fun v u H locs hp hG => ?_)
  obtain ⟨rv2_11, X2_11⟩ := u
  obtain ⟨rfl, hr_11⟩ := hp
  have hr_11 : ResU N (sP N y) (sY N y) (sD N y) rv2_11 := hr_11
  have hG : gW K A s.heap [gRLC K ad, gScn K (ad 3) (ad 14) (ad 15) (ad 16) (ad 17) ou mi bo ln LF sn SF, gRayU K (ad 7) (ad 23) (ad 24) (ad 25) (ad 26) (ad 3) rv2_11 X2_11] _ _ := hG
  refine lv_astore_n (lv' := [(3, .ref (ad 7)), (0, .ref (ad 0)), (1, .int (iI y)), (2, .int (iI 2))]) S.1 S.2.1 dX8_path_14 rfl hl (by decide) rfl (fun ls hl => ?_)
  refine lv_iload_n S.1 S.2.1 dX8_path_15 rfl (lv_at hl 3 rfl) ?_
  refine lv_tableIn (off := 66) (tgt := 82) S.1 S.2.1 dX8_path_16 (by decide) (by decide) rfl (by decide) ?_
  refine lv_aload_n S.1 S.2.1 dX8_path_82 rfl (lv_at hl 0 rfl) ?_
  refine g_get S C hG iX40 6 rfl rfl 10 (by decide) (List.mem_of_getElem? (i := 6) rfl) rfl dX8_path_83 ?_
  have hG : gW K A s.heap [gRLC K ad, gScn K (ad 3) (ad 14) (ad 15) (ad 16) (ad 17) ou mi bo ln LF sn SF, gRayU K (ad 7) (ad 23) (ad 24) (ad 25) (ad 26) (ad 3) rv2_11 X2_11] _ _ := hG
  exact g_iret S hr hlk hQ dX8_path_86 (Nat.le_of_ble_eq_true rfl) (Nat.le_of_ble_eq_true rfl) ((rv2_11, X2_11) : RU × (Int → Int)) ⟨(congrArg (fun z : Int => Value.int (iI z)) hr_11.f.2.2.1), hr_11⟩ hG
set_option maxHeartbeats 1000000 in
set_option maxRecDepth 100000 in
theorem c_path3 (l : Launch) (K : KC) (ad : Nat → Nat) (ou : Int) (mi : Int) (bo : Int) (ln : Int) (LF : Int → Int) (sn : Int) (SF : Int → Int) (N : Int → Int) (rs : Nat) (rv : RU) (XF : Int → Int) (y : Int) (hS : ScOk N ou mi bo ln LF sn SF) (hN : NOk0 N) (hv : -2147483648 ≤ y ∧ y < 2147483648) (hs : 0 ≤ y ∧ y < N 4) : mG l yX8_path wsX8_path 5 117 K [.ref (ad 0), .int (iI y), .int (iI 3)] [gRLC K ad, gScn K (ad 3) (ad 14) (ad 15) (ad 16) (ad 17) ou mi bo ln LF sn SF, gRayU K (ad 7) (ad 23) (ad 24) (ad 25) (ad 26) rs rv XF] (fun (v : Value) (u : RU × (Int → Int)) => (v = .int (iI (leS N y))) ∧ (ResU N (sP N y) (sY N y) (sD N y) u.1)) (fun (u : RU × (Int → Int)) => [gRLC K ad, gScn K (ad 3) (ad 14) (ad 15) (ad 16) (ad 17) ou mi bo ln LF sn SF, gRayU K (ad 7) (ad 23) (ad 24) (ad 25) (ad 26) (ad 3) u.1 u.2]) 0 0 := by
  refine mG_of cX8_path 4 (by decide) rfl (Nat.le_of_ble_eq_true rfl) ?_
  intro p e s m below meth c A ls Q S C hG hl hr hlk hin hQ
  have S : CallFix p m c cX8_path 4 s ([.ref (ad 0), .int (iI y), .int (iI 3)] : List Value).toArray wsX8_path RX8 := S
  have iX80 : ∀ w ∈ wsX80, w ∈ wsX8_path := fun _ h => List.mem_cons_of_mem _ (List.mem_append_left _ (List.mem_append_left _ (List.mem_append_left _ (List.mem_append_left _ (List.mem_append_left _ (List.mem_append_right _ (h)))))))
  have iX40 : ∀ w ∈ wsX40, w ∈ wsX8_path := fun _ h => List.mem_cons_of_mem _ (List.mem_append_left _ (List.mem_append_left _ (List.mem_append_left _ (List.mem_append_left _ (List.mem_append_right _ (h))))))
  have iX50 : ∀ w ∈ wsX50, w ∈ wsX8_path := fun _ h => List.mem_cons_of_mem _ (List.mem_append_left _ (List.mem_append_left _ (List.mem_append_left _ (List.mem_append_right _ (h)))))
  have iX70 : ∀ w ∈ wsX70, w ∈ wsX8_path := fun _ h => List.mem_cons_of_mem _ (List.mem_append_left _ (List.mem_append_left _ (List.mem_append_right _ (h))))
  have hl : lv_has ls 4 [(0, .ref (ad 0)), (1, .int (iI y)), (2, .int (iI 3))] := hl
  have hG : gW K A s.heap [gRLC K ad, gScn K (ad 3) (ad 14) (ad 15) (ad 16) (ad 17) ou mi bo ln LF sn SF, gRayU K (ad 7) (ad 23) (ad 24) (ad 25) (ad 26) rs rv XF] s.heap [] := hG
  obtain ⟨e0, e1, e2, e3, e4, e5, e6⟩ := id hS
  have n0 := hN.1
  have n3 := hN.2.2.2.1
  refine lv_aload_n S.1 S.2.1 dX8_path_0 rfl (lv_at hl 0 rfl) ?_
  refine lv_iload_n S.1 S.2.1 dX8_path_1 rfl (lv_at hl 1 rfl) ?_
  refine g_invVv (As := [.int (iI y)]) (rest := []) (gs' := (fun u : Unit => [gRLC K ad, gScn K (ad 3) (ad 14) (ad 15) (ad 16) (ad 17) ou mi bo ln LF sn SF, gRayU K (ad 7) (ad 23) (ad 24) (ad 25) (ad 26) rs rv XF])) S C hG [0, 1] (c_X8_checkShot l K ad ou mi bo ln LF sn SF N y hS hN hv hs) rfl rfl 0 rfl rfl (cwV 1 S.2.2.2.2 gX8_path_X8_checkShot rfl rfl rfl (by decide +kernel) ⟨Nat.le_of_ble_eq_true rfl, Nat.le_of_ble_eq_true rfl⟩) rfl hl.1 rfl (Nat.le_of_ble_eq_true rfl) dX8_path_2 ⟨Nat.le_of_ble_eq_true rfl, Nat.le_of_ble_eq_true rfl⟩ (fun _ => Nat.le_of_ble_eq_true rfl) (fun _ => rfl) (fun u H locs hp hG => ?_)
  refine lv_aload_n S.1 S.2.1 dX8_path_5 rfl (lv_at hl 0 rfl) ?_
  refine lv_aload_n S.1 S.2.1 dX8_path_6 rfl (lv_at hl 0 rfl) ?_
  refine g_get S C hG iX80 0 rfl rfl 2 (by decide) (List.mem_of_getElem? (i := 3) rfl) rfl dX8_path_7 ?_
  refine lv_iload_n S.1 S.2.1 dX8_path_10 rfl (lv_at hl 1 rfl) ?_
  refine g_invV (As := [.ref (ad 3), .int (iI y)]) (rest := []) (gs' := (fun u : RU × (Int → Int) => [gRLC K ad, gScn K (ad 3) (ad 14) (ad 15) (ad 16) (ad 17) ou mi bo ln LF sn SF, gRayU K (ad 7) (ad 23) (ad 24) (ad 25) (ad 26) (ad 3) u.1 u.2])) S C hG [0, 1, 2] (c_X8_runOf l K ad (ad 3) (ad 14) (ad 15) (ad 16) (ad 17) ou mi bo ln LF sn SF N rs rv XF y hS hN hs) rfl rfl 0 rfl rfl (cwV 2 S.2.2.2.2 gX8_path_X8_runOf rfl rfl rfl (by decide +kernel) ⟨Nat.le_of_ble_eq_true rfl, Nat.le_of_ble_eq_true rfl⟩) rfl hl.1 rfl (Nat.le_of_ble_eq_true rfl) dX8_path_11 ⟨Nat.le_of_ble_eq_true rfl, Nat.le_of_ble_eq_true rfl⟩ (fun _ => Nat.le_of_ble_eq_true rfl) (fun _ => rfl) (fun v u H locs hp hG => ?_)
  obtain ⟨rv2_11, X2_11⟩ := u
  obtain ⟨rfl, hr_11⟩ := hp
  have hr_11 : ResU N (sP N y) (sY N y) (sD N y) rv2_11 := hr_11
  have hG : gW K A s.heap [gRLC K ad, gScn K (ad 3) (ad 14) (ad 15) (ad 16) (ad 17) ou mi bo ln LF sn SF, gRayU K (ad 7) (ad 23) (ad 24) (ad 25) (ad 26) (ad 3) rv2_11 X2_11] _ _ := hG
  refine lv_astore_n (lv' := [(3, .ref (ad 7)), (0, .ref (ad 0)), (1, .int (iI y)), (2, .int (iI 3))]) S.1 S.2.1 dX8_path_14 rfl hl (by decide) rfl (fun ls hl => ?_)
  refine lv_iload_n S.1 S.2.1 dX8_path_15 rfl (lv_at hl 3 rfl) ?_
  refine lv_tableIn (off := 71) (tgt := 87) S.1 S.2.1 dX8_path_16 (by decide) (by decide) rfl (by decide) ?_
  refine lv_aload_n S.1 S.2.1 dX8_path_87 rfl (lv_at hl 0 rfl) ?_
  refine g_get S C hG iX40 6 rfl rfl 11 (by decide) (List.mem_of_getElem? (i := 7) rfl) rfl dX8_path_88 ?_
  have hG : gW K A s.heap [gRLC K ad, gScn K (ad 3) (ad 14) (ad 15) (ad 16) (ad 17) ou mi bo ln LF sn SF, gRayU K (ad 7) (ad 23) (ad 24) (ad 25) (ad 26) (ad 3) rv2_11 X2_11] _ _ := hG
  exact g_iret S hr hlk hQ dX8_path_91 (Nat.le_of_ble_eq_true rfl) (Nat.le_of_ble_eq_true rfl) ((rv2_11, X2_11) : RU × (Int → Int)) ⟨(congrArg (fun z : Int => Value.int (iI z)) hr_11.g.1), hr_11⟩ hG
set_option maxHeartbeats 1000000 in
set_option maxRecDepth 100000 in
theorem c_path4 (l : Launch) (K : KC) (ad : Nat → Nat) (ou : Int) (mi : Int) (bo : Int) (ln : Int) (LF : Int → Int) (sn : Int) (SF : Int → Int) (N : Int → Int) (rs : Nat) (rv : RU) (XF : Int → Int) (y : Int) (hS : ScOk N ou mi bo ln LF sn SF) (hN : NOk0 N) (hv : -2147483648 ≤ y ∧ y < 2147483648) (hs : 0 ≤ y ∧ y < N 4) : mG l yX8_path wsX8_path 5 117 K [.ref (ad 0), .int (iI y), .int (iI 4)] [gRLC K ad, gScn K (ad 3) (ad 14) (ad 15) (ad 16) (ad 17) ou mi bo ln LF sn SF, gRayU K (ad 7) (ad 23) (ad 24) (ad 25) (ad 26) rs rv XF] (fun (v : Value) (u : RU × (Int → Int)) => (v = .int (iI (tS N y))) ∧ (ResU N (sP N y) (sY N y) (sD N y) u.1)) (fun (u : RU × (Int → Int)) => [gRLC K ad, gScn K (ad 3) (ad 14) (ad 15) (ad 16) (ad 17) ou mi bo ln LF sn SF, gRayU K (ad 7) (ad 23) (ad 24) (ad 25) (ad 26) (ad 3) u.1 u.2]) 0 0 := by
  refine mG_of cX8_path 4 (by decide) rfl (Nat.le_of_ble_eq_true rfl) ?_
  intro p e s m below meth c A ls Q S C hG hl hr hlk hin hQ
  have S : CallFix p m c cX8_path 4 s ([.ref (ad 0), .int (iI y), .int (iI 4)] : List Value).toArray wsX8_path RX8 := S
  have iX80 : ∀ w ∈ wsX80, w ∈ wsX8_path := fun _ h => List.mem_cons_of_mem _ (List.mem_append_left _ (List.mem_append_left _ (List.mem_append_left _ (List.mem_append_left _ (List.mem_append_left _ (List.mem_append_right _ (h)))))))
  have iX40 : ∀ w ∈ wsX40, w ∈ wsX8_path := fun _ h => List.mem_cons_of_mem _ (List.mem_append_left _ (List.mem_append_left _ (List.mem_append_left _ (List.mem_append_left _ (List.mem_append_right _ (h))))))
  have iX50 : ∀ w ∈ wsX50, w ∈ wsX8_path := fun _ h => List.mem_cons_of_mem _ (List.mem_append_left _ (List.mem_append_left _ (List.mem_append_left _ (List.mem_append_right _ (h)))))
  have iX70 : ∀ w ∈ wsX70, w ∈ wsX8_path := fun _ h => List.mem_cons_of_mem _ (List.mem_append_left _ (List.mem_append_left _ (List.mem_append_right _ (h))))
  have hl : lv_has ls 4 [(0, .ref (ad 0)), (1, .int (iI y)), (2, .int (iI 4))] := hl
  have hG : gW K A s.heap [gRLC K ad, gScn K (ad 3) (ad 14) (ad 15) (ad 16) (ad 17) ou mi bo ln LF sn SF, gRayU K (ad 7) (ad 23) (ad 24) (ad 25) (ad 26) rs rv XF] s.heap [] := hG
  obtain ⟨e0, e1, e2, e3, e4, e5, e6⟩ := id hS
  have n0 := hN.1
  have n3 := hN.2.2.2.1
  refine lv_aload_n S.1 S.2.1 dX8_path_0 rfl (lv_at hl 0 rfl) ?_
  refine lv_iload_n S.1 S.2.1 dX8_path_1 rfl (lv_at hl 1 rfl) ?_
  refine g_invVv (As := [.int (iI y)]) (rest := []) (gs' := (fun u : Unit => [gRLC K ad, gScn K (ad 3) (ad 14) (ad 15) (ad 16) (ad 17) ou mi bo ln LF sn SF, gRayU K (ad 7) (ad 23) (ad 24) (ad 25) (ad 26) rs rv XF])) S C hG [0, 1] (c_X8_checkShot l K ad ou mi bo ln LF sn SF N y hS hN hv hs) rfl rfl 0 rfl rfl (cwV 1 S.2.2.2.2 gX8_path_X8_checkShot rfl rfl rfl (by decide +kernel) ⟨Nat.le_of_ble_eq_true rfl, Nat.le_of_ble_eq_true rfl⟩) rfl hl.1 rfl (Nat.le_of_ble_eq_true rfl) dX8_path_2 ⟨Nat.le_of_ble_eq_true rfl, Nat.le_of_ble_eq_true rfl⟩ (fun _ => Nat.le_of_ble_eq_true rfl) (fun _ => rfl) (fun u H locs hp hG => ?_)
  refine lv_aload_n S.1 S.2.1 dX8_path_5 rfl (lv_at hl 0 rfl) ?_
  refine lv_aload_n S.1 S.2.1 dX8_path_6 rfl (lv_at hl 0 rfl) ?_
  refine g_get S C hG iX80 0 rfl rfl 2 (by decide) (List.mem_of_getElem? (i := 3) rfl) rfl dX8_path_7 ?_
  refine lv_iload_n S.1 S.2.1 dX8_path_10 rfl (lv_at hl 1 rfl) ?_
  refine g_invV (As := [.ref (ad 3), .int (iI y)]) (rest := []) (gs' := (fun u : RU × (Int → Int) => [gRLC K ad, gScn K (ad 3) (ad 14) (ad 15) (ad 16) (ad 17) ou mi bo ln LF sn SF, gRayU K (ad 7) (ad 23) (ad 24) (ad 25) (ad 26) (ad 3) u.1 u.2])) S C hG [0, 1, 2] (c_X8_runOf l K ad (ad 3) (ad 14) (ad 15) (ad 16) (ad 17) ou mi bo ln LF sn SF N rs rv XF y hS hN hs) rfl rfl 0 rfl rfl (cwV 2 S.2.2.2.2 gX8_path_X8_runOf rfl rfl rfl (by decide +kernel) ⟨Nat.le_of_ble_eq_true rfl, Nat.le_of_ble_eq_true rfl⟩) rfl hl.1 rfl (Nat.le_of_ble_eq_true rfl) dX8_path_11 ⟨Nat.le_of_ble_eq_true rfl, Nat.le_of_ble_eq_true rfl⟩ (fun _ => Nat.le_of_ble_eq_true rfl) (fun _ => rfl) (fun v u H locs hp hG => ?_)
  obtain ⟨rv2_11, X2_11⟩ := u
  obtain ⟨rfl, hr_11⟩ := hp
  have hr_11 : ResU N (sP N y) (sY N y) (sD N y) rv2_11 := hr_11
  have hG : gW K A s.heap [gRLC K ad, gScn K (ad 3) (ad 14) (ad 15) (ad 16) (ad 17) ou mi bo ln LF sn SF, gRayU K (ad 7) (ad 23) (ad 24) (ad 25) (ad 26) (ad 3) rv2_11 X2_11] _ _ := hG
  refine lv_astore_n (lv' := [(3, .ref (ad 7)), (0, .ref (ad 0)), (1, .int (iI y)), (2, .int (iI 4))]) S.1 S.2.1 dX8_path_14 rfl hl (by decide) rfl (fun ls hl => ?_)
  refine lv_iload_n S.1 S.2.1 dX8_path_15 rfl (lv_at hl 3 rfl) ?_
  refine lv_tableIn (off := 76) (tgt := 92) S.1 S.2.1 dX8_path_16 (by decide) (by decide) rfl (by decide) ?_
  refine lv_aload_n S.1 S.2.1 dX8_path_92 rfl (lv_at hl 0 rfl) ?_
  refine g_get S C hG iX40 6 rfl rfl 12 (by decide) (List.mem_of_getElem? (i := 8) rfl) rfl dX8_path_93 ?_
  have hG : gW K A s.heap [gRLC K ad, gScn K (ad 3) (ad 14) (ad 15) (ad 16) (ad 17) ou mi bo ln LF sn SF, gRayU K (ad 7) (ad 23) (ad 24) (ad 25) (ad 26) (ad 3) rv2_11 X2_11] _ _ := hG
  exact g_iret S hr hlk hQ dX8_path_96 (Nat.le_of_ble_eq_true rfl) (Nat.le_of_ble_eq_true rfl) ((rv2_11, X2_11) : RU × (Int → Int)) ⟨(congrArg (fun z : Int => Value.int (iI z)) hr_11.f.2.2.2.1), hr_11⟩ hG
set_option maxHeartbeats 1000000 in
set_option maxRecDepth 100000 in
theorem c_path5 (l : Launch) (K : KC) (ad : Nat → Nat) (ou : Int) (mi : Int) (bo : Int) (ln : Int) (LF : Int → Int) (sn : Int) (SF : Int → Int) (N : Int → Int) (rs : Nat) (rv : RU) (XF : Int → Int) (y : Int) (hS : ScOk N ou mi bo ln LF sn SF) (hN : NOk0 N) (hv : -2147483648 ≤ y ∧ y < 2147483648) (hs : 0 ≤ y ∧ y < N 4) : mG l yX8_path wsX8_path 5 117 K [.ref (ad 0), .int (iI y), .int (iI 5)] [gRLC K ad, gScn K (ad 3) (ad 14) (ad 15) (ad 16) (ad 17) ou mi bo ln LF sn SF, gRayU K (ad 7) (ad 23) (ad 24) (ad 25) (ad 26) rs rv XF] (fun (v : Value) (u : RU × (Int → Int)) => (v = .int (iI (pS N y))) ∧ (ResU N (sP N y) (sY N y) (sD N y) u.1)) (fun (u : RU × (Int → Int)) => [gRLC K ad, gScn K (ad 3) (ad 14) (ad 15) (ad 16) (ad 17) ou mi bo ln LF sn SF, gRayU K (ad 7) (ad 23) (ad 24) (ad 25) (ad 26) (ad 3) u.1 u.2]) 0 0 := by
  refine mG_of cX8_path 4 (by decide) rfl (Nat.le_of_ble_eq_true rfl) ?_
  intro p e s m below meth c A ls Q S C hG hl hr hlk hin hQ
  have S : CallFix p m c cX8_path 4 s ([.ref (ad 0), .int (iI y), .int (iI 5)] : List Value).toArray wsX8_path RX8 := S
  have iX80 : ∀ w ∈ wsX80, w ∈ wsX8_path := fun _ h => List.mem_cons_of_mem _ (List.mem_append_left _ (List.mem_append_left _ (List.mem_append_left _ (List.mem_append_left _ (List.mem_append_left _ (List.mem_append_right _ (h)))))))
  have iX40 : ∀ w ∈ wsX40, w ∈ wsX8_path := fun _ h => List.mem_cons_of_mem _ (List.mem_append_left _ (List.mem_append_left _ (List.mem_append_left _ (List.mem_append_left _ (List.mem_append_right _ (h))))))
  have iX50 : ∀ w ∈ wsX50, w ∈ wsX8_path := fun _ h => List.mem_cons_of_mem _ (List.mem_append_left _ (List.mem_append_left _ (List.mem_append_left _ (List.mem_append_right _ (h)))))
  have iX70 : ∀ w ∈ wsX70, w ∈ wsX8_path := fun _ h => List.mem_cons_of_mem _ (List.mem_append_left _ (List.mem_append_left _ (List.mem_append_right _ (h))))
  have hl : lv_has ls 4 [(0, .ref (ad 0)), (1, .int (iI y)), (2, .int (iI 5))] := hl
  have hG : gW K A s.heap [gRLC K ad, gScn K (ad 3) (ad 14) (ad 15) (ad 16) (ad 17) ou mi bo ln LF sn SF, gRayU K (ad 7) (ad 23) (ad 24) (ad 25) (ad 26) rs rv XF] s.heap [] := hG
  obtain ⟨e0, e1, e2, e3, e4, e5, e6⟩ := id hS
  have n0 := hN.1
  have n3 := hN.2.2.2.1
  refine lv_aload_n S.1 S.2.1 dX8_path_0 rfl (lv_at hl 0 rfl) ?_
  refine lv_iload_n S.1 S.2.1 dX8_path_1 rfl (lv_at hl 1 rfl) ?_
  refine g_invVv (As := [.int (iI y)]) (rest := []) (gs' := (fun u : Unit => [gRLC K ad, gScn K (ad 3) (ad 14) (ad 15) (ad 16) (ad 17) ou mi bo ln LF sn SF, gRayU K (ad 7) (ad 23) (ad 24) (ad 25) (ad 26) rs rv XF])) S C hG [0, 1] (c_X8_checkShot l K ad ou mi bo ln LF sn SF N y hS hN hv hs) rfl rfl 0 rfl rfl (cwV 1 S.2.2.2.2 gX8_path_X8_checkShot rfl rfl rfl (by decide +kernel) ⟨Nat.le_of_ble_eq_true rfl, Nat.le_of_ble_eq_true rfl⟩) rfl hl.1 rfl (Nat.le_of_ble_eq_true rfl) dX8_path_2 ⟨Nat.le_of_ble_eq_true rfl, Nat.le_of_ble_eq_true rfl⟩ (fun _ => Nat.le_of_ble_eq_true rfl) (fun _ => rfl) (fun u H locs hp hG => ?_)
  refine lv_aload_n S.1 S.2.1 dX8_path_5 rfl (lv_at hl 0 rfl) ?_
  refine lv_aload_n S.1 S.2.1 dX8_path_6 rfl (lv_at hl 0 rfl) ?_
  refine g_get S C hG iX80 0 rfl rfl 2 (by decide) (List.mem_of_getElem? (i := 3) rfl) rfl dX8_path_7 ?_
  refine lv_iload_n S.1 S.2.1 dX8_path_10 rfl (lv_at hl 1 rfl) ?_
  refine g_invV (As := [.ref (ad 3), .int (iI y)]) (rest := []) (gs' := (fun u : RU × (Int → Int) => [gRLC K ad, gScn K (ad 3) (ad 14) (ad 15) (ad 16) (ad 17) ou mi bo ln LF sn SF, gRayU K (ad 7) (ad 23) (ad 24) (ad 25) (ad 26) (ad 3) u.1 u.2])) S C hG [0, 1, 2] (c_X8_runOf l K ad (ad 3) (ad 14) (ad 15) (ad 16) (ad 17) ou mi bo ln LF sn SF N rs rv XF y hS hN hs) rfl rfl 0 rfl rfl (cwV 2 S.2.2.2.2 gX8_path_X8_runOf rfl rfl rfl (by decide +kernel) ⟨Nat.le_of_ble_eq_true rfl, Nat.le_of_ble_eq_true rfl⟩) rfl hl.1 rfl (Nat.le_of_ble_eq_true rfl) dX8_path_11 ⟨Nat.le_of_ble_eq_true rfl, Nat.le_of_ble_eq_true rfl⟩ (fun _ => Nat.le_of_ble_eq_true rfl) (fun _ => rfl) (fun v u H locs hp hG => ?_)
  obtain ⟨rv2_11, X2_11⟩ := u
  obtain ⟨rfl, hr_11⟩ := hp
  have hr_11 : ResU N (sP N y) (sY N y) (sD N y) rv2_11 := hr_11
  have hG : gW K A s.heap [gRLC K ad, gScn K (ad 3) (ad 14) (ad 15) (ad 16) (ad 17) ou mi bo ln LF sn SF, gRayU K (ad 7) (ad 23) (ad 24) (ad 25) (ad 26) (ad 3) rv2_11 X2_11] _ _ := hG
  refine lv_astore_n (lv' := [(3, .ref (ad 7)), (0, .ref (ad 0)), (1, .int (iI y)), (2, .int (iI 5))]) S.1 S.2.1 dX8_path_14 rfl hl (by decide) rfl (fun ls hl => ?_)
  refine lv_iload_n S.1 S.2.1 dX8_path_15 rfl (lv_at hl 3 rfl) ?_
  refine lv_tableIn (off := 81) (tgt := 97) S.1 S.2.1 dX8_path_16 (by decide) (by decide) rfl (by decide) ?_
  refine lv_aload_n S.1 S.2.1 dX8_path_97 rfl (lv_at hl 0 rfl) ?_
  refine g_get S C hG iX40 6 rfl rfl 13 (by decide) (List.mem_of_getElem? (i := 9) rfl) rfl dX8_path_98 ?_
  have hG : gW K A s.heap [gRLC K ad, gScn K (ad 3) (ad 14) (ad 15) (ad 16) (ad 17) ou mi bo ln LF sn SF, gRayU K (ad 7) (ad 23) (ad 24) (ad 25) (ad 26) (ad 3) rv2_11 X2_11] _ _ := hG
  exact g_iret S hr hlk hQ dX8_path_101 (Nat.le_of_ble_eq_true rfl) (Nat.le_of_ble_eq_true rfl) ((rv2_11, X2_11) : RU × (Int → Int)) ⟨(congrArg (fun z : Int => Value.int (iI z)) hr_11.f.2.2.2.2), hr_11⟩ hG
set_option maxHeartbeats 1000000 in
set_option maxRecDepth 100000 in
theorem c_path6 (l : Launch) (K : KC) (ad : Nat → Nat) (ou : Int) (mi : Int) (bo : Int) (ln : Int) (LF : Int → Int) (sn : Int) (SF : Int → Int) (N : Int → Int) (rs : Nat) (rv : RU) (XF : Int → Int) (y : Int) (hS : ScOk N ou mi bo ln LF sn SF) (hN : NOk0 N) (hv : -2147483648 ≤ y ∧ y < 2147483648) (hs : 0 ≤ y ∧ y < N 4) : mG l yX8_path wsX8_path 5 117 K [.ref (ad 0), .int (iI y), .int (iI 6)] [gRLC K ad, gScn K (ad 3) (ad 14) (ad 15) (ad 16) (ad 17) ou mi bo ln LF sn SF, gRayU K (ad 7) (ad 23) (ad 24) (ad 25) (ad 26) rs rv XF] (fun (v : Value) (u : RU × (Int → Int)) => (v = .int (iI (trS N y))) ∧ (ResU N (sP N y) (sY N y) (sD N y) u.1)) (fun (u : RU × (Int → Int)) => [gRLC K ad, gScn K (ad 3) (ad 14) (ad 15) (ad 16) (ad 17) ou mi bo ln LF sn SF, gRayU K (ad 7) (ad 23) (ad 24) (ad 25) (ad 26) (ad 3) u.1 u.2]) 0 0 := by
  refine mG_of cX8_path 4 (by decide) rfl (Nat.le_of_ble_eq_true rfl) ?_
  intro p e s m below meth c A ls Q S C hG hl hr hlk hin hQ
  have S : CallFix p m c cX8_path 4 s ([.ref (ad 0), .int (iI y), .int (iI 6)] : List Value).toArray wsX8_path RX8 := S
  have iX80 : ∀ w ∈ wsX80, w ∈ wsX8_path := fun _ h => List.mem_cons_of_mem _ (List.mem_append_left _ (List.mem_append_left _ (List.mem_append_left _ (List.mem_append_left _ (List.mem_append_left _ (List.mem_append_right _ (h)))))))
  have iX40 : ∀ w ∈ wsX40, w ∈ wsX8_path := fun _ h => List.mem_cons_of_mem _ (List.mem_append_left _ (List.mem_append_left _ (List.mem_append_left _ (List.mem_append_left _ (List.mem_append_right _ (h))))))
  have iX50 : ∀ w ∈ wsX50, w ∈ wsX8_path := fun _ h => List.mem_cons_of_mem _ (List.mem_append_left _ (List.mem_append_left _ (List.mem_append_left _ (List.mem_append_right _ (h)))))
  have iX70 : ∀ w ∈ wsX70, w ∈ wsX8_path := fun _ h => List.mem_cons_of_mem _ (List.mem_append_left _ (List.mem_append_left _ (List.mem_append_right _ (h))))
  have hl : lv_has ls 4 [(0, .ref (ad 0)), (1, .int (iI y)), (2, .int (iI 6))] := hl
  have hG : gW K A s.heap [gRLC K ad, gScn K (ad 3) (ad 14) (ad 15) (ad 16) (ad 17) ou mi bo ln LF sn SF, gRayU K (ad 7) (ad 23) (ad 24) (ad 25) (ad 26) rs rv XF] s.heap [] := hG
  obtain ⟨e0, e1, e2, e3, e4, e5, e6⟩ := id hS
  have n0 := hN.1
  have n3 := hN.2.2.2.1
  refine lv_aload_n S.1 S.2.1 dX8_path_0 rfl (lv_at hl 0 rfl) ?_
  refine lv_iload_n S.1 S.2.1 dX8_path_1 rfl (lv_at hl 1 rfl) ?_
  refine g_invVv (As := [.int (iI y)]) (rest := []) (gs' := (fun u : Unit => [gRLC K ad, gScn K (ad 3) (ad 14) (ad 15) (ad 16) (ad 17) ou mi bo ln LF sn SF, gRayU K (ad 7) (ad 23) (ad 24) (ad 25) (ad 26) rs rv XF])) S C hG [0, 1] (c_X8_checkShot l K ad ou mi bo ln LF sn SF N y hS hN hv hs) rfl rfl 0 rfl rfl (cwV 1 S.2.2.2.2 gX8_path_X8_checkShot rfl rfl rfl (by decide +kernel) ⟨Nat.le_of_ble_eq_true rfl, Nat.le_of_ble_eq_true rfl⟩) rfl hl.1 rfl (Nat.le_of_ble_eq_true rfl) dX8_path_2 ⟨Nat.le_of_ble_eq_true rfl, Nat.le_of_ble_eq_true rfl⟩ (fun _ => Nat.le_of_ble_eq_true rfl) (fun _ => rfl) (fun u H locs hp hG => ?_)
  refine lv_aload_n S.1 S.2.1 dX8_path_5 rfl (lv_at hl 0 rfl) ?_
  refine lv_aload_n S.1 S.2.1 dX8_path_6 rfl (lv_at hl 0 rfl) ?_
  refine g_get S C hG iX80 0 rfl rfl 2 (by decide) (List.mem_of_getElem? (i := 3) rfl) rfl dX8_path_7 ?_
  refine lv_iload_n S.1 S.2.1 dX8_path_10 rfl (lv_at hl 1 rfl) ?_
  refine g_invV (As := [.ref (ad 3), .int (iI y)]) (rest := []) (gs' := (fun u : RU × (Int → Int) => [gRLC K ad, gScn K (ad 3) (ad 14) (ad 15) (ad 16) (ad 17) ou mi bo ln LF sn SF, gRayU K (ad 7) (ad 23) (ad 24) (ad 25) (ad 26) (ad 3) u.1 u.2])) S C hG [0, 1, 2] (c_X8_runOf l K ad (ad 3) (ad 14) (ad 15) (ad 16) (ad 17) ou mi bo ln LF sn SF N rs rv XF y hS hN hs) rfl rfl 0 rfl rfl (cwV 2 S.2.2.2.2 gX8_path_X8_runOf rfl rfl rfl (by decide +kernel) ⟨Nat.le_of_ble_eq_true rfl, Nat.le_of_ble_eq_true rfl⟩) rfl hl.1 rfl (Nat.le_of_ble_eq_true rfl) dX8_path_11 ⟨Nat.le_of_ble_eq_true rfl, Nat.le_of_ble_eq_true rfl⟩ (fun _ => Nat.le_of_ble_eq_true rfl) (fun _ => rfl) (fun v u H locs hp hG => ?_)
  obtain ⟨rv2_11, X2_11⟩ := u
  obtain ⟨rfl, hr_11⟩ := hp
  have hr_11 : ResU N (sP N y) (sY N y) (sD N y) rv2_11 := hr_11
  have hG : gW K A s.heap [gRLC K ad, gScn K (ad 3) (ad 14) (ad 15) (ad 16) (ad 17) ou mi bo ln LF sn SF, gRayU K (ad 7) (ad 23) (ad 24) (ad 25) (ad 26) (ad 3) rv2_11 X2_11] _ _ := hG
  refine lv_astore_n (lv' := [(3, .ref (ad 7)), (0, .ref (ad 0)), (1, .int (iI y)), (2, .int (iI 6))]) S.1 S.2.1 dX8_path_14 rfl hl (by decide) rfl (fun ls hl => ?_)
  refine lv_iload_n S.1 S.2.1 dX8_path_15 rfl (lv_at hl 3 rfl) ?_
  refine lv_tableIn (off := 86) (tgt := 102) S.1 S.2.1 dX8_path_16 (by decide) (by decide) rfl (by decide) ?_
  refine lv_aload_n S.1 S.2.1 dX8_path_102 rfl (lv_at hl 0 rfl) ?_
  refine g_get S C hG iX40 6 rfl rfl 14 (by decide) (List.mem_of_getElem? (i := 10) rfl) rfl dX8_path_103 ?_
  have hG : gW K A s.heap [gRLC K ad, gScn K (ad 3) (ad 14) (ad 15) (ad 16) (ad 17) ou mi bo ln LF sn SF, gRayU K (ad 7) (ad 23) (ad 24) (ad 25) (ad 26) (ad 3) rv2_11 X2_11] _ _ := hG
  exact g_iret S hr hlk hQ dX8_path_106 (Nat.le_of_ble_eq_true rfl) (Nat.le_of_ble_eq_true rfl) ((rv2_11, X2_11) : RU × (Int → Int)) ⟨(congrArg (fun z : Int => Value.int (iI z)) hr_11.g.2.1), hr_11⟩ hG
set_option maxHeartbeats 1000000 in
set_option maxRecDepth 100000 in
theorem c_path7 (l : Launch) (K : KC) (ad : Nat → Nat) (ou : Int) (mi : Int) (bo : Int) (ln : Int) (LF : Int → Int) (sn : Int) (SF : Int → Int) (N : Int → Int) (rs : Nat) (rv : RU) (XF : Int → Int) (y : Int) (hS : ScOk N ou mi bo ln LF sn SF) (hN : NOk0 N) (hv : -2147483648 ≤ y ∧ y < 2147483648) (hs : 0 ≤ y ∧ y < N 4) : mG l yX8_path wsX8_path 5 117 K [.ref (ad 0), .int (iI y), .int (iI 7)] [gRLC K ad, gScn K (ad 3) (ad 14) (ad 15) (ad 16) (ad 17) ou mi bo ln LF sn SF, gRayU K (ad 7) (ad 23) (ad 24) (ad 25) (ad 26) rs rv XF] (fun (v : Value) (u : RU × (Int → Int)) => (v = .int (iI (mrS N y))) ∧ (ResU N (sP N y) (sY N y) (sD N y) u.1)) (fun (u : RU × (Int → Int)) => [gRLC K ad, gScn K (ad 3) (ad 14) (ad 15) (ad 16) (ad 17) ou mi bo ln LF sn SF, gRayU K (ad 7) (ad 23) (ad 24) (ad 25) (ad 26) (ad 3) u.1 u.2]) 0 0 := by
  refine mG_of cX8_path 4 (by decide) rfl (Nat.le_of_ble_eq_true rfl) ?_
  intro p e s m below meth c A ls Q S C hG hl hr hlk hin hQ
  have S : CallFix p m c cX8_path 4 s ([.ref (ad 0), .int (iI y), .int (iI 7)] : List Value).toArray wsX8_path RX8 := S
  have iX80 : ∀ w ∈ wsX80, w ∈ wsX8_path := fun _ h => List.mem_cons_of_mem _ (List.mem_append_left _ (List.mem_append_left _ (List.mem_append_left _ (List.mem_append_left _ (List.mem_append_left _ (List.mem_append_right _ (h)))))))
  have iX40 : ∀ w ∈ wsX40, w ∈ wsX8_path := fun _ h => List.mem_cons_of_mem _ (List.mem_append_left _ (List.mem_append_left _ (List.mem_append_left _ (List.mem_append_left _ (List.mem_append_right _ (h))))))
  have iX50 : ∀ w ∈ wsX50, w ∈ wsX8_path := fun _ h => List.mem_cons_of_mem _ (List.mem_append_left _ (List.mem_append_left _ (List.mem_append_left _ (List.mem_append_right _ (h)))))
  have iX70 : ∀ w ∈ wsX70, w ∈ wsX8_path := fun _ h => List.mem_cons_of_mem _ (List.mem_append_left _ (List.mem_append_left _ (List.mem_append_right _ (h))))
  have hl : lv_has ls 4 [(0, .ref (ad 0)), (1, .int (iI y)), (2, .int (iI 7))] := hl
  have hG : gW K A s.heap [gRLC K ad, gScn K (ad 3) (ad 14) (ad 15) (ad 16) (ad 17) ou mi bo ln LF sn SF, gRayU K (ad 7) (ad 23) (ad 24) (ad 25) (ad 26) rs rv XF] s.heap [] := hG
  obtain ⟨e0, e1, e2, e3, e4, e5, e6⟩ := id hS
  have n0 := hN.1
  have n3 := hN.2.2.2.1
  refine lv_aload_n S.1 S.2.1 dX8_path_0 rfl (lv_at hl 0 rfl) ?_
  refine lv_iload_n S.1 S.2.1 dX8_path_1 rfl (lv_at hl 1 rfl) ?_
  refine g_invVv (As := [.int (iI y)]) (rest := []) (gs' := (fun u : Unit => [gRLC K ad, gScn K (ad 3) (ad 14) (ad 15) (ad 16) (ad 17) ou mi bo ln LF sn SF, gRayU K (ad 7) (ad 23) (ad 24) (ad 25) (ad 26) rs rv XF])) S C hG [0, 1] (c_X8_checkShot l K ad ou mi bo ln LF sn SF N y hS hN hv hs) rfl rfl 0 rfl rfl (cwV 1 S.2.2.2.2 gX8_path_X8_checkShot rfl rfl rfl (by decide +kernel) ⟨Nat.le_of_ble_eq_true rfl, Nat.le_of_ble_eq_true rfl⟩) rfl hl.1 rfl (Nat.le_of_ble_eq_true rfl) dX8_path_2 ⟨Nat.le_of_ble_eq_true rfl, Nat.le_of_ble_eq_true rfl⟩ (fun _ => Nat.le_of_ble_eq_true rfl) (fun _ => rfl) (fun u H locs hp hG => ?_)
  refine lv_aload_n S.1 S.2.1 dX8_path_5 rfl (lv_at hl 0 rfl) ?_
  refine lv_aload_n S.1 S.2.1 dX8_path_6 rfl (lv_at hl 0 rfl) ?_
  refine g_get S C hG iX80 0 rfl rfl 2 (by decide) (List.mem_of_getElem? (i := 3) rfl) rfl dX8_path_7 ?_
  refine lv_iload_n S.1 S.2.1 dX8_path_10 rfl (lv_at hl 1 rfl) ?_
  refine g_invV (As := [.ref (ad 3), .int (iI y)]) (rest := []) (gs' := (fun u : RU × (Int → Int) => [gRLC K ad, gScn K (ad 3) (ad 14) (ad 15) (ad 16) (ad 17) ou mi bo ln LF sn SF, gRayU K (ad 7) (ad 23) (ad 24) (ad 25) (ad 26) (ad 3) u.1 u.2])) S C hG [0, 1, 2] (c_X8_runOf l K ad (ad 3) (ad 14) (ad 15) (ad 16) (ad 17) ou mi bo ln LF sn SF N rs rv XF y hS hN hs) rfl rfl 0 rfl rfl (cwV 2 S.2.2.2.2 gX8_path_X8_runOf rfl rfl rfl (by decide +kernel) ⟨Nat.le_of_ble_eq_true rfl, Nat.le_of_ble_eq_true rfl⟩) rfl hl.1 rfl (Nat.le_of_ble_eq_true rfl) dX8_path_11 ⟨Nat.le_of_ble_eq_true rfl, Nat.le_of_ble_eq_true rfl⟩ (fun _ => Nat.le_of_ble_eq_true rfl) (fun _ => rfl) (fun v u H locs hp hG => ?_)
  obtain ⟨rv2_11, X2_11⟩ := u
  obtain ⟨rfl, hr_11⟩ := hp
  have hr_11 : ResU N (sP N y) (sY N y) (sD N y) rv2_11 := hr_11
  have hG : gW K A s.heap [gRLC K ad, gScn K (ad 3) (ad 14) (ad 15) (ad 16) (ad 17) ou mi bo ln LF sn SF, gRayU K (ad 7) (ad 23) (ad 24) (ad 25) (ad 26) (ad 3) rv2_11 X2_11] _ _ := hG
  refine lv_astore_n (lv' := [(3, .ref (ad 7)), (0, .ref (ad 0)), (1, .int (iI y)), (2, .int (iI 7))]) S.1 S.2.1 dX8_path_14 rfl hl (by decide) rfl (fun ls hl => ?_)
  refine lv_iload_n S.1 S.2.1 dX8_path_15 rfl (lv_at hl 3 rfl) ?_
  refine lv_tableIn (off := 91) (tgt := 107) S.1 S.2.1 dX8_path_16 (by decide) (by decide) rfl (by decide) ?_
  refine lv_aload_n S.1 S.2.1 dX8_path_107 rfl (lv_at hl 0 rfl) ?_
  refine g_get S C hG iX40 6 rfl rfl 15 (by decide) (List.mem_of_getElem? (i := 11) rfl) rfl dX8_path_108 ?_
  have hG : gW K A s.heap [gRLC K ad, gScn K (ad 3) (ad 14) (ad 15) (ad 16) (ad 17) ou mi bo ln LF sn SF, gRayU K (ad 7) (ad 23) (ad 24) (ad 25) (ad 26) (ad 3) rv2_11 X2_11] _ _ := hG
  exact g_iret S hr hlk hQ dX8_path_111 (Nat.le_of_ble_eq_true rfl) (Nat.le_of_ble_eq_true rfl) ((rv2_11, X2_11) : RU × (Int → Int)) ⟨(congrArg (fun z : Int => Value.int (iI z)) hr_11.g.2.2.1), hr_11⟩ hG
set_option maxHeartbeats 1000000 in
set_option maxRecDepth 100000 in
theorem c_path8 (l : Launch) (K : KC) (ad : Nat → Nat) (ou : Int) (mi : Int) (bo : Int) (ln : Int) (LF : Int → Int) (sn : Int) (SF : Int → Int) (N : Int → Int) (rs : Nat) (rv : RU) (XF : Int → Int) (y : Int) (hS : ScOk N ou mi bo ln LF sn SF) (hN : NOk0 N) (hv : -2147483648 ≤ y ∧ y < 2147483648) (hs : 0 ≤ y ∧ y < N 4) : mG l yX8_path wsX8_path 5 117 K [.ref (ad 0), .int (iI y), .int (iI 8)] [gRLC K ad, gScn K (ad 3) (ad 14) (ad 15) (ad 16) (ad 17) ou mi bo ln LF sn SF, gRayU K (ad 7) (ad 23) (ad 24) (ad 25) (ad 26) rs rv XF] (fun (v : Value) (u : RU × (Int → Int)) => (v = .int (iI (crS N y))) ∧ (ResU N (sP N y) (sY N y) (sD N y) u.1)) (fun (u : RU × (Int → Int)) => [gRLC K ad, gScn K (ad 3) (ad 14) (ad 15) (ad 16) (ad 17) ou mi bo ln LF sn SF, gRayU K (ad 7) (ad 23) (ad 24) (ad 25) (ad 26) (ad 3) u.1 u.2]) 0 0 := by
  refine mG_of cX8_path 4 (by decide) rfl (Nat.le_of_ble_eq_true rfl) ?_
  intro p e s m below meth c A ls Q S C hG hl hr hlk hin hQ
  have S : CallFix p m c cX8_path 4 s ([.ref (ad 0), .int (iI y), .int (iI 8)] : List Value).toArray wsX8_path RX8 := S
  have iX80 : ∀ w ∈ wsX80, w ∈ wsX8_path := fun _ h => List.mem_cons_of_mem _ (List.mem_append_left _ (List.mem_append_left _ (List.mem_append_left _ (List.mem_append_left _ (List.mem_append_left _ (List.mem_append_right _ (h)))))))
  have iX40 : ∀ w ∈ wsX40, w ∈ wsX8_path := fun _ h => List.mem_cons_of_mem _ (List.mem_append_left _ (List.mem_append_left _ (List.mem_append_left _ (List.mem_append_left _ (List.mem_append_right _ (h))))))
  have iX50 : ∀ w ∈ wsX50, w ∈ wsX8_path := fun _ h => List.mem_cons_of_mem _ (List.mem_append_left _ (List.mem_append_left _ (List.mem_append_left _ (List.mem_append_right _ (h)))))
  have iX70 : ∀ w ∈ wsX70, w ∈ wsX8_path := fun _ h => List.mem_cons_of_mem _ (List.mem_append_left _ (List.mem_append_left _ (List.mem_append_right _ (h))))
  have hl : lv_has ls 4 [(0, .ref (ad 0)), (1, .int (iI y)), (2, .int (iI 8))] := hl
  have hG : gW K A s.heap [gRLC K ad, gScn K (ad 3) (ad 14) (ad 15) (ad 16) (ad 17) ou mi bo ln LF sn SF, gRayU K (ad 7) (ad 23) (ad 24) (ad 25) (ad 26) rs rv XF] s.heap [] := hG
  obtain ⟨e0, e1, e2, e3, e4, e5, e6⟩ := id hS
  have n0 := hN.1
  have n3 := hN.2.2.2.1
  refine lv_aload_n S.1 S.2.1 dX8_path_0 rfl (lv_at hl 0 rfl) ?_
  refine lv_iload_n S.1 S.2.1 dX8_path_1 rfl (lv_at hl 1 rfl) ?_
  refine g_invVv (As := [.int (iI y)]) (rest := []) (gs' := (fun u : Unit => [gRLC K ad, gScn K (ad 3) (ad 14) (ad 15) (ad 16) (ad 17) ou mi bo ln LF sn SF, gRayU K (ad 7) (ad 23) (ad 24) (ad 25) (ad 26) rs rv XF])) S C hG [0, 1] (c_X8_checkShot l K ad ou mi bo ln LF sn SF N y hS hN hv hs) rfl rfl 0 rfl rfl (cwV 1 S.2.2.2.2 gX8_path_X8_checkShot rfl rfl rfl (by decide +kernel) ⟨Nat.le_of_ble_eq_true rfl, Nat.le_of_ble_eq_true rfl⟩) rfl hl.1 rfl (Nat.le_of_ble_eq_true rfl) dX8_path_2 ⟨Nat.le_of_ble_eq_true rfl, Nat.le_of_ble_eq_true rfl⟩ (fun _ => Nat.le_of_ble_eq_true rfl) (fun _ => rfl) (fun u H locs hp hG => ?_)
  refine lv_aload_n S.1 S.2.1 dX8_path_5 rfl (lv_at hl 0 rfl) ?_
  refine lv_aload_n S.1 S.2.1 dX8_path_6 rfl (lv_at hl 0 rfl) ?_
  refine g_get S C hG iX80 0 rfl rfl 2 (by decide) (List.mem_of_getElem? (i := 3) rfl) rfl dX8_path_7 ?_
  refine lv_iload_n S.1 S.2.1 dX8_path_10 rfl (lv_at hl 1 rfl) ?_
  refine g_invV (As := [.ref (ad 3), .int (iI y)]) (rest := []) (gs' := (fun u : RU × (Int → Int) => [gRLC K ad, gScn K (ad 3) (ad 14) (ad 15) (ad 16) (ad 17) ou mi bo ln LF sn SF, gRayU K (ad 7) (ad 23) (ad 24) (ad 25) (ad 26) (ad 3) u.1 u.2])) S C hG [0, 1, 2] (c_X8_runOf l K ad (ad 3) (ad 14) (ad 15) (ad 16) (ad 17) ou mi bo ln LF sn SF N rs rv XF y hS hN hs) rfl rfl 0 rfl rfl (cwV 2 S.2.2.2.2 gX8_path_X8_runOf rfl rfl rfl (by decide +kernel) ⟨Nat.le_of_ble_eq_true rfl, Nat.le_of_ble_eq_true rfl⟩) rfl hl.1 rfl (Nat.le_of_ble_eq_true rfl) dX8_path_11 ⟨Nat.le_of_ble_eq_true rfl, Nat.le_of_ble_eq_true rfl⟩ (fun _ => Nat.le_of_ble_eq_true rfl) (fun _ => rfl) (fun v u H locs hp hG => ?_)
  obtain ⟨rv2_11, X2_11⟩ := u
  obtain ⟨rfl, hr_11⟩ := hp
  have hr_11 : ResU N (sP N y) (sY N y) (sD N y) rv2_11 := hr_11
  have hG : gW K A s.heap [gRLC K ad, gScn K (ad 3) (ad 14) (ad 15) (ad 16) (ad 17) ou mi bo ln LF sn SF, gRayU K (ad 7) (ad 23) (ad 24) (ad 25) (ad 26) (ad 3) rv2_11 X2_11] _ _ := hG
  refine lv_astore_n (lv' := [(3, .ref (ad 7)), (0, .ref (ad 0)), (1, .int (iI y)), (2, .int (iI 8))]) S.1 S.2.1 dX8_path_14 rfl hl (by decide) rfl (fun ls hl => ?_)
  refine lv_iload_n S.1 S.2.1 dX8_path_15 rfl (lv_at hl 3 rfl) ?_
  refine lv_tableIn (off := 96) (tgt := 112) S.1 S.2.1 dX8_path_16 (by decide) (by decide) rfl (by decide) ?_
  refine lv_aload_n S.1 S.2.1 dX8_path_112 rfl (lv_at hl 0 rfl) ?_
  refine g_get S C hG iX40 6 rfl rfl 16 (by decide) (List.mem_of_getElem? (i := 12) rfl) rfl dX8_path_113 ?_
  have hG : gW K A s.heap [gRLC K ad, gScn K (ad 3) (ad 14) (ad 15) (ad 16) (ad 17) ou mi bo ln LF sn SF, gRayU K (ad 7) (ad 23) (ad 24) (ad 25) (ad 26) (ad 3) rv2_11 X2_11] _ _ := hG
  exact g_iret S hr hlk hQ dX8_path_116 (Nat.le_of_ble_eq_true rfl) (Nat.le_of_ble_eq_true rfl) ((rv2_11, X2_11) : RU × (Int → Int)) ⟨(congrArg (fun z : Int => Value.int (iI z)) hr_11.g.2.2.2.1), hr_11⟩ hG
set_option maxHeartbeats 1000000 in
set_option maxRecDepth 100000 in
theorem c_path9 (l : Launch) (K : KC) (ad : Nat → Nat) (ou : Int) (mi : Int) (bo : Int) (ln : Int) (LF : Int → Int) (sn : Int) (SF : Int → Int) (N : Int → Int) (rs : Nat) (rv : RU) (XF : Int → Int) (y : Int) (hS : ScOk N ou mi bo ln LF sn SF) (hN : NOk0 N) (hv : -2147483648 ≤ y ∧ y < 2147483648) (hs : 0 ≤ y ∧ y < N 4) : mG l yX8_path wsX8_path 5 117 K [.ref (ad 0), .int (iI y), .int (iI 9)] [gRLC K ad, gScn K (ad 3) (ad 14) (ad 15) (ad 16) (ad 17) ou mi bo ln LF sn SF, gRayU K (ad 7) (ad 23) (ad 24) (ad 25) (ad 26) rs rv XF] (fun (v : Value) (u : RU × (Int → Int)) => (v = .int (iI (deS N y))) ∧ (ResU N (sP N y) (sY N y) (sD N y) u.1)) (fun (u : RU × (Int → Int)) => [gRLC K ad, gScn K (ad 3) (ad 14) (ad 15) (ad 16) (ad 17) ou mi bo ln LF sn SF, gRayU K (ad 7) (ad 23) (ad 24) (ad 25) (ad 26) (ad 3) u.1 u.2]) 0 0 := by
  refine mG_of cX8_path 4 (by decide) rfl (Nat.le_of_ble_eq_true rfl) ?_
  intro p e s m below meth c A ls Q S C hG hl hr hlk hin hQ
  have S : CallFix p m c cX8_path 4 s ([.ref (ad 0), .int (iI y), .int (iI 9)] : List Value).toArray wsX8_path RX8 := S
  have iX80 : ∀ w ∈ wsX80, w ∈ wsX8_path := fun _ h => List.mem_cons_of_mem _ (List.mem_append_left _ (List.mem_append_left _ (List.mem_append_left _ (List.mem_append_left _ (List.mem_append_left _ (List.mem_append_right _ (h)))))))
  have iX40 : ∀ w ∈ wsX40, w ∈ wsX8_path := fun _ h => List.mem_cons_of_mem _ (List.mem_append_left _ (List.mem_append_left _ (List.mem_append_left _ (List.mem_append_left _ (List.mem_append_right _ (h))))))
  have iX50 : ∀ w ∈ wsX50, w ∈ wsX8_path := fun _ h => List.mem_cons_of_mem _ (List.mem_append_left _ (List.mem_append_left _ (List.mem_append_left _ (List.mem_append_right _ (h)))))
  have iX70 : ∀ w ∈ wsX70, w ∈ wsX8_path := fun _ h => List.mem_cons_of_mem _ (List.mem_append_left _ (List.mem_append_left _ (List.mem_append_right _ (h))))
  have hl : lv_has ls 4 [(0, .ref (ad 0)), (1, .int (iI y)), (2, .int (iI 9))] := hl
  have hG : gW K A s.heap [gRLC K ad, gScn K (ad 3) (ad 14) (ad 15) (ad 16) (ad 17) ou mi bo ln LF sn SF, gRayU K (ad 7) (ad 23) (ad 24) (ad 25) (ad 26) rs rv XF] s.heap [] := hG
  obtain ⟨e0, e1, e2, e3, e4, e5, e6⟩ := id hS
  have n0 := hN.1
  have n3 := hN.2.2.2.1
  refine lv_aload_n S.1 S.2.1 dX8_path_0 rfl (lv_at hl 0 rfl) ?_
  refine lv_iload_n S.1 S.2.1 dX8_path_1 rfl (lv_at hl 1 rfl) ?_
  refine g_invVv (As := [.int (iI y)]) (rest := []) (gs' := (fun u : Unit => [gRLC K ad, gScn K (ad 3) (ad 14) (ad 15) (ad 16) (ad 17) ou mi bo ln LF sn SF, gRayU K (ad 7) (ad 23) (ad 24) (ad 25) (ad 26) rs rv XF])) S C hG [0, 1] (c_X8_checkShot l K ad ou mi bo ln LF sn SF N y hS hN hv hs) rfl rfl 0 rfl rfl (cwV 1 S.2.2.2.2 gX8_path_X8_checkShot rfl rfl rfl (by decide +kernel) ⟨Nat.le_of_ble_eq_true rfl, Nat.le_of_ble_eq_true rfl⟩) rfl hl.1 rfl (Nat.le_of_ble_eq_true rfl) dX8_path_2 ⟨Nat.le_of_ble_eq_true rfl, Nat.le_of_ble_eq_true rfl⟩ (fun _ => Nat.le_of_ble_eq_true rfl) (fun _ => rfl) (fun u H locs hp hG => ?_)
  refine lv_aload_n S.1 S.2.1 dX8_path_5 rfl (lv_at hl 0 rfl) ?_
  refine lv_aload_n S.1 S.2.1 dX8_path_6 rfl (lv_at hl 0 rfl) ?_
  refine g_get S C hG iX80 0 rfl rfl 2 (by decide) (List.mem_of_getElem? (i := 3) rfl) rfl dX8_path_7 ?_
  refine lv_iload_n S.1 S.2.1 dX8_path_10 rfl (lv_at hl 1 rfl) ?_
  refine g_invV (As := [.ref (ad 3), .int (iI y)]) (rest := []) (gs' := (fun u : RU × (Int → Int) => [gRLC K ad, gScn K (ad 3) (ad 14) (ad 15) (ad 16) (ad 17) ou mi bo ln LF sn SF, gRayU K (ad 7) (ad 23) (ad 24) (ad 25) (ad 26) (ad 3) u.1 u.2])) S C hG [0, 1, 2] (c_X8_runOf l K ad (ad 3) (ad 14) (ad 15) (ad 16) (ad 17) ou mi bo ln LF sn SF N rs rv XF y hS hN hs) rfl rfl 0 rfl rfl (cwV 2 S.2.2.2.2 gX8_path_X8_runOf rfl rfl rfl (by decide +kernel) ⟨Nat.le_of_ble_eq_true rfl, Nat.le_of_ble_eq_true rfl⟩) rfl hl.1 rfl (Nat.le_of_ble_eq_true rfl) dX8_path_11 ⟨Nat.le_of_ble_eq_true rfl, Nat.le_of_ble_eq_true rfl⟩ (fun _ => Nat.le_of_ble_eq_true rfl) (fun _ => rfl) (fun v u H locs hp hG => ?_)
  obtain ⟨rv2_11, X2_11⟩ := u
  obtain ⟨rfl, hr_11⟩ := hp
  have hr_11 : ResU N (sP N y) (sY N y) (sD N y) rv2_11 := hr_11
  have hG : gW K A s.heap [gRLC K ad, gScn K (ad 3) (ad 14) (ad 15) (ad 16) (ad 17) ou mi bo ln LF sn SF, gRayU K (ad 7) (ad 23) (ad 24) (ad 25) (ad 26) (ad 3) rv2_11 X2_11] _ _ := hG
  refine lv_astore_n (lv' := [(3, .ref (ad 7)), (0, .ref (ad 0)), (1, .int (iI y)), (2, .int (iI 9))]) S.1 S.2.1 dX8_path_14 rfl hl (by decide) rfl (fun ls hl => ?_)
  refine lv_iload_n S.1 S.2.1 dX8_path_15 rfl (lv_at hl 3 rfl) ?_
  refine lv_tableIn (off := 101) (tgt := 117) S.1 S.2.1 dX8_path_16 (by decide) (by decide) rfl (by decide) ?_
  refine lv_aload_n S.1 S.2.1 dX8_path_117 rfl (lv_at hl 0 rfl) ?_
  refine g_get S C hG iX40 6 rfl rfl 17 (by decide) (List.mem_of_getElem? (i := 13) rfl) rfl dX8_path_118 ?_
  have hG : gW K A s.heap [gRLC K ad, gScn K (ad 3) (ad 14) (ad 15) (ad 16) (ad 17) ou mi bo ln LF sn SF, gRayU K (ad 7) (ad 23) (ad 24) (ad 25) (ad 26) (ad 3) rv2_11 X2_11] _ _ := hG
  exact g_iret S hr hlk hQ dX8_path_121 (Nat.le_of_ble_eq_true rfl) (Nat.le_of_ble_eq_true rfl) ((rv2_11, X2_11) : RU × (Int → Int)) ⟨(congrArg (fun z : Int => Value.int (iI z)) hr_11.g.2.2.2.2), hr_11⟩ hG
theorem c_X8_path (l : Launch) (K : KC) (ad : Nat → Nat) (ou : Int) (mi : Int) (bo : Int) (ln : Int) (LF : Int → Int) (sn : Int) (SF : Int → Int) (N : Int → Int) (rs : Nat) (rv : RU) (XF : Int → Int) (y : Int) (x : Int) (hS : ScOk N ou mi bo ln LF sn SF) (hN : NOk0 N) (hv : -2147483648 ≤ y ∧ y < 2147483648) (hs : 0 ≤ y ∧ y < N 4) (h1 : 0 ≤ x ∧ x ≤ 9) : mG l yX8_path wsX8_path 5 117 K [.ref (ad 0), .int (iI y), .int (iI x)] [gRLC K ad, gScn K (ad 3) (ad 14) (ad 15) (ad 16) (ad 17) ou mi bo ln LF sn SF, gRayU K (ad 7) (ad 23) (ad 24) (ad 25) (ad 26) rs rv XF] (fun (v : Value) (u : RU × (Int → Int)) => (v = .int (iI (pthA N y x))) ∧ (ResU N (sP N y) (sY N y) (sD N y) u.1)) (fun (u : RU × (Int → Int)) => [gRLC K ad, gScn K (ad 3) (ad 14) (ad 15) (ad 16) (ad 17) ou mi bo ln LF sn SF, gRayU K (ad 7) (ad 23) (ad 24) (ad 25) (ad 26) (ad 3) u.1 u.2]) 0 0 := by
  rcases (show x = 0 ∨ x = 1 ∨ x = 2 ∨ x = 3 ∨ x = 4 ∨ x = 5 ∨ x = 6 ∨ x = 7 ∨ x = 8 ∨ x = 9 by omega) with rfl | rfl | rfl | rfl | rfl | rfl | rfl | rfl | rfl | rfl
  · exact c_path0 l K ad ou mi bo ln LF sn SF N rs rv XF y hS hN hv hs
  · exact c_path1 l K ad ou mi bo ln LF sn SF N rs rv XF y hS hN hv hs
  · exact c_path2 l K ad ou mi bo ln LF sn SF N rs rv XF y hS hN hv hs
  · exact c_path3 l K ad ou mi bo ln LF sn SF N rs rv XF y hS hN hv hs
  · exact c_path4 l K ad ou mi bo ln LF sn SF N rs rv XF y hS hN hv hs
  · exact c_path5 l K ad ou mi bo ln LF sn SF N rs rv XF y hS hN hv hs
  · exact c_path6 l K ad ou mi bo ln LF sn SF N rs rv XF y hS hN hv hs
  · exact c_path7 l K ad ou mi bo ln LF sn SF N rs rv XF y hS hN hv hs
  · exact c_path8 l K ad ou mi bo ln LF sn SF N rs rv XF y hS hN hv hs
  · exact c_path9 l K ad ou mi bo ln LF sn SF N rs rv XF y hS hN hv hs
set_option maxHeartbeats 1000000 in
set_option maxRecDepth 100000 in
theorem c_X8_critical (l : Launch) (K : KC) (ad : Nat → Nat) (ou : Int) (mi : Int) (bo : Int) (ln : Int) (LF : Int → Int) (sn : Int) (SF : Int → Int) (N : Int → Int) (y : Int) (x : Int) (hS : ScOk N ou mi bo ln LF sn SF) (hN : NOk0 N) (hv : -2147483648 ≤ y ∧ y < 2147483648) (hx : x = 0 ∨ x = 1) (hy : 0 ≤ y ∧ y < N 0) : mG l yX8_critical wsX8_critical 2 44 K [.ref (ad 0), .int (iI y), .int (iI x)] [gRLC K ad, gScn K (ad 3) (ad 14) (ad 15) (ad 16) (ad 17) ou mi bo ln LF sn SF] (fun (v : Value) (u : Unit) => (v = .int (iI (critZ N y (ahd y x))))) (fun (u : Unit) => [gRLC K ad, gScn K (ad 3) (ad 14) (ad 15) (ad 16) (ad 17) ou mi bo ln LF sn SF]) 0 0 := by
  refine mG_of cX8_critical 5 (by decide) rfl (Nat.le_of_ble_eq_true rfl) ?_
  intro p e s m below meth c A ls Q S C hG hl hr hlk hin hQ
  have S : CallFix p m c cX8_critical 5 s ([.ref (ad 0), .int (iI y), .int (iI x)] : List Value).toArray wsX8_critical RX8 := S
  have iX80 : ∀ w ∈ wsX80, w ∈ wsX8_critical := fun _ h => List.mem_cons_of_mem _ (List.mem_append_left _ (List.mem_append_left _ (List.mem_append_left _ (List.mem_append_right _ (h)))))
  have iX50 : ∀ w ∈ wsX50, w ∈ wsX8_critical := fun _ h => List.mem_cons_of_mem _ (List.mem_append_left _ (List.mem_append_left _ (List.mem_append_right _ (h))))
  have iX70 : ∀ w ∈ wsX70, w ∈ wsX8_critical := fun _ h => List.mem_cons_of_mem _ (List.mem_append_left _ (List.mem_append_right _ (h)))
  have hl : lv_has ls 5 [(0, .ref (ad 0)), (1, .int (iI y)), (2, .int (iI x))] := hl
  have hG : gW K A s.heap [gRLC K ad, gScn K (ad 3) (ad 14) (ad 15) (ad 16) (ad 17) ou mi bo ln LF sn SF] s.heap [] := hG
  obtain ⟨e0, e1, e2, e3, e4, e5, e6⟩ := id hS
  have n0 := hN.1
  have n3 := hN.2.2.2.1
  have i1 := ixN_bd hN (y + 1)
  have i2 := ixN_bd hN (y - 1)
  have i3 := ixN_bd hN y
  refine lv_aload_n S.1 S.2.1 dX8_critical_0 rfl (lv_at hl 0 rfl) ?_
  refine lv_iload_n S.1 S.2.1 dX8_critical_1 rfl (lv_at hl 1 rfl) ?_
  refine g_invVv (As := [.int (iI y)]) (rest := []) (gs' := (fun u : Unit => [gRLC K ad, gScn K (ad 3) (ad 14) (ad 15) (ad 16) (ad 17) ou mi bo ln LF sn SF])) S C hG [0, 1] (c_X8_checkLayer l K ad ou mi bo ln LF sn SF N y hS hN hv hy) rfl rfl 0 rfl rfl (cwV 1 S.2.2.2.2 gX8_critical_X8_checkLayer rfl rfl rfl (by decide +kernel) ⟨Nat.le_of_ble_eq_true rfl, Nat.le_of_ble_eq_true rfl⟩) rfl hl.1 rfl (Nat.le_of_ble_eq_true rfl) dX8_critical_2 ⟨Nat.le_of_ble_eq_true rfl, Nat.le_of_ble_eq_true rfl⟩ (fun _ => Nat.le_of_ble_eq_true rfl) (fun _ => rfl) (fun u H locs hp hG => ?_)
  refine lv_iload_n S.1 S.2.1 dX8_critical_5 rfl (lv_at hl 2 rfl) ?_
  refine g_if_eq (tgt := 15) S dX8_critical_6 (by decide) (by omega) (fun q6 => ?_) (fun q6 => ?_)
  · skip
    refine lv_iload_n S.1 S.2.1 dX8_critical_15 rfl (lv_at hl 1 rfl) ?_
    refine g_iconst S dX8_critical_16 ?_
    refine g_isub S dX8_critical_17 rfl ?_
    refine lv_istore_n (lv' := [(3, .int (iI (y - 1))), (0, .ref (ad 0)), (1, .int (iI y)), (2, .int (iI x))]) S.1 S.2.1 dX8_critical_18 rfl hl (by decide) rfl (fun ls hl => ?_)
    refine lv_aload_n S.1 S.2.1 dX8_critical_19 rfl (lv_at hl 1 rfl) ?_
    refine g_get S C hG iX80 0 rfl rfl 2 (by decide) (List.mem_of_getElem? (i := 1) rfl) rfl dX8_critical_20 ?_
    refine lv_iload_n S.1 S.2.1 dX8_critical_23 rfl (lv_at hl 0 rfl) ?_
    refine g_invV (As := [.int (iI (y - 1))]) (rest := []) (gs' := (fun u : Unit => [gRLC K ad, gScn K (ad 3) (ad 14) (ad 15) (ad 16) (ad 17) ou mi bo ln LF sn SF])) S C hG [1] (c_X5_isMirrorAt l K (ad 3) (ad 14) (ad 15) (ad 16) (ad 17) ou mi bo ln LF sn SF N (y - 1) hS hN (by omega)) rfl rfl 0 rfl rfl (cwV 1 S.2.2.2.2 gX8_critical_X5_isMirrorAt rfl rfl rfl (by decide +kernel) ⟨Nat.le_of_ble_eq_true rfl, Nat.le_of_ble_eq_true rfl⟩) rfl hl.1 rfl (Nat.le_of_ble_eq_true rfl) dX8_critical_24 ⟨Nat.le_of_ble_eq_true rfl, Nat.le_of_ble_eq_true rfl⟩ (fun _ => Nat.le_of_ble_eq_true rfl) (fun _ => rfl) (fun v u H locs hp hG => ?_)
    subst hp
    refine g_ifeq_b (B := (N 2 = 1 ∧ N 0 ≤ (y - 1))) (tgt := 32) S dX8_critical_27 (by decide) (fun q27 => ?_) (fun q27 => ?_)
    · skip
      refine lv_aload_n S.1 S.2.1 dX8_critical_32 rfl (lv_at hl 1 rfl) ?_
      refine g_get S C hG iX80 0 rfl rfl 2 (by decide) (List.mem_of_getElem? (i := 1) rfl) rfl dX8_critical_33 ?_
      refine lv_iload_n S.1 S.2.1 dX8_critical_36 rfl (lv_at hl 0 rfl) ?_
      refine g_invV (As := [.int (iI (y - 1))]) (rest := []) (gs' := (fun u : Unit => [gRLC K ad, gScn K (ad 3) (ad 14) (ad 15) (ad 16) (ad 17) ou mi bo ln LF sn SF])) S C hG [1] (c_X5_indexAt l K (ad 3) (ad 14) (ad 15) (ad 16) (ad 17) ou mi bo ln LF sn SF N (y - 1) hS hN (by omega)) rfl rfl 0 rfl rfl (cwV 1 S.2.2.2.2 gX8_critical_X5_indexAt rfl rfl rfl (by decide +kernel) ⟨Nat.le_of_ble_eq_true rfl, Nat.le_of_ble_eq_true rfl⟩) rfl hl.1 rfl (Nat.le_of_ble_eq_true rfl) dX8_critical_37 ⟨Nat.le_of_ble_eq_true rfl, Nat.le_of_ble_eq_true rfl⟩ (fun _ => Nat.le_of_ble_eq_true rfl) (fun _ => rfl) (fun v u H locs hp hG => ?_)
      subst hp
      refine lv_istore (lv' := [(4, .int (iI (ixN N (y - 1)))), (3, .int (iI (y - 1))), (0, .ref (ad 0)), (1, .int (iI y)), (2, .int (iI x))]) S.1 S.2.1 dX8_critical_40 hl (by decide) rfl (fun ls hl => ?_)
      refine lv_iload S.1 S.2.1 dX8_critical_42 (lv_at hl 0 rfl) ?_
      refine lv_aload_n S.1 S.2.1 dX8_critical_44 rfl (lv_at hl 2 rfl) ?_
      refine g_get S C hG iX80 0 rfl rfl 2 (by decide) (List.mem_of_getElem? (i := 1) rfl) rfl dX8_critical_45 ?_
      refine lv_iload_n S.1 S.2.1 dX8_critical_48 rfl (lv_at hl 3 rfl) ?_
      refine g_invV (As := [.int (iI y)]) (rest := [.int (iI (ixN N (y - 1)))]) (gs' := (fun u : Unit => [gRLC K ad, gScn K (ad 3) (ad 14) (ad 15) (ad 16) (ad 17) ou mi bo ln LF sn SF])) S C hG [1] (c_X5_indexAt l K (ad 3) (ad 14) (ad 15) (ad 16) (ad 17) ou mi bo ln LF sn SF N y hS hN hv) rfl rfl 0 rfl rfl (cwV 1 S.2.2.2.2 gX8_critical_X5_indexAt rfl rfl rfl (by decide +kernel) ⟨Nat.le_of_ble_eq_true rfl, Nat.le_of_ble_eq_true rfl⟩) rfl hl.1 rfl (Nat.le_of_ble_eq_true rfl) dX8_critical_49 ⟨Nat.le_of_ble_eq_true rfl, Nat.le_of_ble_eq_true rfl⟩ (fun _ => Nat.le_of_ble_eq_true rfl) (fun _ => rfl) (fun v u H locs hp hG => ?_)
      subst hp
      refine g_icmp_ge (tgt := 60) S dX8_critical_52 (by decide) (by omega) (by omega) (fun q52 => ?_) (fun q52 => ?_)
      · skip
        refine g_iconst S dX8_critical_60 ?_
        have hG : gW K A s.heap [gRLC K ad, gScn K (ad 3) (ad 14) (ad 15) (ad 16) (ad 17) ou mi bo ln LF sn SF] _ _ := hG
        exact g_iret S hr hlk hQ dX8_critical_61 (Nat.le_of_ble_eq_true rfl) (Nat.le_of_ble_eq_true rfl) (() : Unit) (congrArg (fun z : Int => Value.int (iI z)) (by rw [show ahd y x = y - 1 by (unfold ahd <;> split <;> omega)] <;> unfold critZ <;> (repeat' split) <;> omega)) hG
      · skip
        refine lv_iload S.1 S.2.1 dX8_critical_55 (lv_at hl 0 rfl) ?_
        refine lv_goto (tgt := 61) S.1 S.2.1 dX8_critical_57 (by decide) ?_
        have hG : gW K A s.heap [gRLC K ad, gScn K (ad 3) (ad 14) (ad 15) (ad 16) (ad 17) ou mi bo ln LF sn SF] _ _ := hG
        exact g_iret S hr hlk hQ dX8_critical_61 (Nat.le_of_ble_eq_true rfl) (Nat.le_of_ble_eq_true rfl) (() : Unit) (congrArg (fun z : Int => Value.int (iI z)) (by rw [show ahd y x = y - 1 by (unfold ahd <;> split <;> omega)] <;> unfold critZ <;> (repeat' split) <;> omega)) hG
    · skip
      refine g_iconst S dX8_critical_30 ?_
      have hG : gW K A s.heap [gRLC K ad, gScn K (ad 3) (ad 14) (ad 15) (ad 16) (ad 17) ou mi bo ln LF sn SF] _ _ := hG
      exact g_iret S hr hlk hQ dX8_critical_31 (Nat.le_of_ble_eq_true rfl) (Nat.le_of_ble_eq_true rfl) (() : Unit) (congrArg (fun z : Int => Value.int (iI z)) (by rw [show ahd y x = y - 1 by (unfold ahd <;> split <;> omega)] <;> unfold critZ <;> (repeat' split) <;> omega)) hG
  · skip
    refine lv_iload_n S.1 S.2.1 dX8_critical_9 rfl (lv_at hl 1 rfl) ?_
    refine g_iconst S dX8_critical_10 ?_
    refine g_iadd S dX8_critical_11 rfl ?_
    refine lv_goto (tgt := 18) S.1 S.2.1 dX8_critical_12 (by decide) ?_
    refine lv_istore_n (lv' := [(3, .int (iI (y + 1))), (0, .ref (ad 0)), (1, .int (iI y)), (2, .int (iI x))]) S.1 S.2.1 dX8_critical_18 rfl hl (by decide) rfl (fun ls hl => ?_)
    refine lv_aload_n S.1 S.2.1 dX8_critical_19 rfl (lv_at hl 1 rfl) ?_
    refine g_get S C hG iX80 0 rfl rfl 2 (by decide) (List.mem_of_getElem? (i := 1) rfl) rfl dX8_critical_20 ?_
    refine lv_iload_n S.1 S.2.1 dX8_critical_23 rfl (lv_at hl 0 rfl) ?_
    refine g_invV (As := [.int (iI (y + 1))]) (rest := []) (gs' := (fun u : Unit => [gRLC K ad, gScn K (ad 3) (ad 14) (ad 15) (ad 16) (ad 17) ou mi bo ln LF sn SF])) S C hG [1] (c_X5_isMirrorAt l K (ad 3) (ad 14) (ad 15) (ad 16) (ad 17) ou mi bo ln LF sn SF N (y + 1) hS hN (by omega)) rfl rfl 0 rfl rfl (cwV 1 S.2.2.2.2 gX8_critical_X5_isMirrorAt rfl rfl rfl (by decide +kernel) ⟨Nat.le_of_ble_eq_true rfl, Nat.le_of_ble_eq_true rfl⟩) rfl hl.1 rfl (Nat.le_of_ble_eq_true rfl) dX8_critical_24 ⟨Nat.le_of_ble_eq_true rfl, Nat.le_of_ble_eq_true rfl⟩ (fun _ => Nat.le_of_ble_eq_true rfl) (fun _ => rfl) (fun v u H locs hp hG => ?_)
    subst hp
    refine g_ifeq_b (B := (N 2 = 1 ∧ N 0 ≤ (y + 1))) (tgt := 32) S dX8_critical_27 (by decide) (fun q27 => ?_) (fun q27 => ?_)
    · skip
      refine lv_aload_n S.1 S.2.1 dX8_critical_32 rfl (lv_at hl 1 rfl) ?_
      refine g_get S C hG iX80 0 rfl rfl 2 (by decide) (List.mem_of_getElem? (i := 1) rfl) rfl dX8_critical_33 ?_
      refine lv_iload_n S.1 S.2.1 dX8_critical_36 rfl (lv_at hl 0 rfl) ?_
      refine g_invV (As := [.int (iI (y + 1))]) (rest := []) (gs' := (fun u : Unit => [gRLC K ad, gScn K (ad 3) (ad 14) (ad 15) (ad 16) (ad 17) ou mi bo ln LF sn SF])) S C hG [1] (c_X5_indexAt l K (ad 3) (ad 14) (ad 15) (ad 16) (ad 17) ou mi bo ln LF sn SF N (y + 1) hS hN (by omega)) rfl rfl 0 rfl rfl (cwV 1 S.2.2.2.2 gX8_critical_X5_indexAt rfl rfl rfl (by decide +kernel) ⟨Nat.le_of_ble_eq_true rfl, Nat.le_of_ble_eq_true rfl⟩) rfl hl.1 rfl (Nat.le_of_ble_eq_true rfl) dX8_critical_37 ⟨Nat.le_of_ble_eq_true rfl, Nat.le_of_ble_eq_true rfl⟩ (fun _ => Nat.le_of_ble_eq_true rfl) (fun _ => rfl) (fun v u H locs hp hG => ?_)
      subst hp
      refine lv_istore (lv' := [(4, .int (iI (ixN N (y + 1)))), (3, .int (iI (y + 1))), (0, .ref (ad 0)), (1, .int (iI y)), (2, .int (iI x))]) S.1 S.2.1 dX8_critical_40 hl (by decide) rfl (fun ls hl => ?_)
      refine lv_iload S.1 S.2.1 dX8_critical_42 (lv_at hl 0 rfl) ?_
      refine lv_aload_n S.1 S.2.1 dX8_critical_44 rfl (lv_at hl 2 rfl) ?_
      refine g_get S C hG iX80 0 rfl rfl 2 (by decide) (List.mem_of_getElem? (i := 1) rfl) rfl dX8_critical_45 ?_
      refine lv_iload_n S.1 S.2.1 dX8_critical_48 rfl (lv_at hl 3 rfl) ?_
      refine g_invV (As := [.int (iI y)]) (rest := [.int (iI (ixN N (y + 1)))]) (gs' := (fun u : Unit => [gRLC K ad, gScn K (ad 3) (ad 14) (ad 15) (ad 16) (ad 17) ou mi bo ln LF sn SF])) S C hG [1] (c_X5_indexAt l K (ad 3) (ad 14) (ad 15) (ad 16) (ad 17) ou mi bo ln LF sn SF N y hS hN hv) rfl rfl 0 rfl rfl (cwV 1 S.2.2.2.2 gX8_critical_X5_indexAt rfl rfl rfl (by decide +kernel) ⟨Nat.le_of_ble_eq_true rfl, Nat.le_of_ble_eq_true rfl⟩) rfl hl.1 rfl (Nat.le_of_ble_eq_true rfl) dX8_critical_49 ⟨Nat.le_of_ble_eq_true rfl, Nat.le_of_ble_eq_true rfl⟩ (fun _ => Nat.le_of_ble_eq_true rfl) (fun _ => rfl) (fun v u H locs hp hG => ?_)
      subst hp
      refine g_icmp_ge (tgt := 60) S dX8_critical_52 (by decide) (by omega) (by omega) (fun q52 => ?_) (fun q52 => ?_)
      · skip
        refine g_iconst S dX8_critical_60 ?_
        have hG : gW K A s.heap [gRLC K ad, gScn K (ad 3) (ad 14) (ad 15) (ad 16) (ad 17) ou mi bo ln LF sn SF] _ _ := hG
        exact g_iret S hr hlk hQ dX8_critical_61 (Nat.le_of_ble_eq_true rfl) (Nat.le_of_ble_eq_true rfl) (() : Unit) (congrArg (fun z : Int => Value.int (iI z)) (by rw [show ahd y x = y + 1 by (unfold ahd <;> split <;> omega)] <;> unfold critZ <;> (repeat' split) <;> omega)) hG
      · skip
        refine lv_iload S.1 S.2.1 dX8_critical_55 (lv_at hl 0 rfl) ?_
        refine lv_goto (tgt := 61) S.1 S.2.1 dX8_critical_57 (by decide) ?_
        have hG : gW K A s.heap [gRLC K ad, gScn K (ad 3) (ad 14) (ad 15) (ad 16) (ad 17) ou mi bo ln LF sn SF] _ _ := hG
        exact g_iret S hr hlk hQ dX8_critical_61 (Nat.le_of_ble_eq_true rfl) (Nat.le_of_ble_eq_true rfl) (() : Unit) (congrArg (fun z : Int => Value.int (iI z)) (by rw [show ahd y x = y + 1 by (unfold ahd <;> split <;> omega)] <;> unfold critZ <;> (repeat' split) <;> omega)) hG
    · skip
      refine g_iconst S dX8_critical_30 ?_
      have hG : gW K A s.heap [gRLC K ad, gScn K (ad 3) (ad 14) (ad 15) (ad 16) (ad 17) ou mi bo ln LF sn SF] _ _ := hG
      exact g_iret S hr hlk hQ dX8_critical_31 (Nat.le_of_ble_eq_true rfl) (Nat.le_of_ble_eq_true rfl) (() : Unit) (congrArg (fun z : Int => Value.int (iI z)) (by rw [show ahd y x = y + 1 by (unfold ahd <;> split <;> omega)] <;> unfold critZ <;> (repeat' split) <;> omega)) hG
set_option maxHeartbeats 1000000 in
set_option maxRecDepth 100000 in
theorem c_X8_endOf (l : Launch) (K : KC) (ad : Nat → Nat) (ou : Int) (mi : Int) (bo : Int) (ln : Int) (LF : Int → Int) (sn : Int) (SF : Int → Int) (N : Int → Int) (rs : Nat) (rv : RU) (XF : Int → Int) (y : Int) (x : Int) (z : Int) (hS : ScOk N ou mi bo ln LF sn SF) (hN : NOk0 N) (hv : -2147483648 ≤ y ∧ y < 2147483648) (hx : x = 0 ∨ x = 1) (hz : -2147483648 ≤ z ∧ z < 2147483648) (hy : 0 ≤ y ∧ y < N 0) (h1 : 0 ≤ z ∧ z ≤ 3999) : mG l yX8_endOf wsX8_endOf 4 94 K [.ref (ad 0), .int (iI y), .int (iI x), .int (iI z)] [gRLC K ad, gScn K (ad 3) (ad 14) (ad 15) (ad 16) (ad 17) ou mi bo ln LF sn SF, gRayU K (ad 7) (ad 23) (ad 24) (ad 25) (ad 26) rs rv XF] (fun (v : Value) (u : RU × (Int → Int)) => (v = .int (iI (enF N z y x)))) (fun (u : RU × (Int → Int)) => [gRLC K ad, gScn K (ad 3) (ad 14) (ad 15) (ad 16) (ad 17) ou mi bo ln LF sn SF, gRayU K (ad 7) (ad 23) (ad 24) (ad 25) (ad 26) (ad 3) u.1 u.2]) 0 0 := by
  refine mG_of cX8_endOf 4 (by decide) rfl (Nat.le_of_ble_eq_true rfl) ?_
  intro p e s m below meth c A ls Q S C hG hl hr hlk hin hQ
  have S : CallFix p m c cX8_endOf 4 s ([.ref (ad 0), .int (iI y), .int (iI x), .int (iI z)] : List Value).toArray wsX8_endOf RX8 := S
  have iX80 : ∀ w ∈ wsX80, w ∈ wsX8_endOf := fun _ h => List.mem_cons_of_mem _ (List.mem_append_left _ (List.mem_append_left _ (List.mem_append_left _ (List.mem_append_left _ (List.mem_append_left _ (List.mem_append_right _ (h)))))))
  have iX40 : ∀ w ∈ wsX40, w ∈ wsX8_endOf := fun _ h => List.mem_cons_of_mem _ (List.mem_append_left _ (List.mem_append_left _ (List.mem_append_left _ (List.mem_append_left _ (List.mem_append_right _ (h))))))
  have iX50 : ∀ w ∈ wsX50, w ∈ wsX8_endOf := fun _ h => List.mem_cons_of_mem _ (List.mem_append_left _ (List.mem_append_left _ (List.mem_append_left _ (List.mem_append_right _ (h)))))
  have iX70 : ∀ w ∈ wsX70, w ∈ wsX8_endOf := fun _ h => List.mem_cons_of_mem _ (List.mem_append_left _ (List.mem_append_left _ (List.mem_append_right _ (h))))
  have hl : lv_has ls 4 [(0, .ref (ad 0)), (1, .int (iI y)), (2, .int (iI x)), (3, .int (iI z))] := hl
  have hG : gW K A s.heap [gRLC K ad, gScn K (ad 3) (ad 14) (ad 15) (ad 16) (ad 17) ou mi bo ln LF sn SF, gRayU K (ad 7) (ad 23) (ad 24) (ad 25) (ad 26) rs rv XF] s.heap [] := hG
  obtain ⟨e0, e1, e2, e3, e4, e5, e6⟩ := id hS
  have n0 := hN.1
  have n3 := hN.2.2.2.1
  refine lv_aload_n S.1 S.2.1 dX8_endOf_0 rfl (lv_at hl 0 rfl) ?_
  refine lv_iload_n S.1 S.2.1 dX8_endOf_1 rfl (lv_at hl 1 rfl) ?_
  refine g_invVv (As := [.int (iI y)]) (rest := []) (gs' := (fun u : Unit => [gRLC K ad, gScn K (ad 3) (ad 14) (ad 15) (ad 16) (ad 17) ou mi bo ln LF sn SF, gRayU K (ad 7) (ad 23) (ad 24) (ad 25) (ad 26) rs rv XF])) S C hG [0, 1] (c_X8_checkLayer l K ad ou mi bo ln LF sn SF N y hS hN hv hy) rfl rfl 0 rfl rfl (cwV 1 S.2.2.2.2 gX8_endOf_X8_checkLayer rfl rfl rfl (by decide +kernel) ⟨Nat.le_of_ble_eq_true rfl, Nat.le_of_ble_eq_true rfl⟩) rfl hl.1 rfl (Nat.le_of_ble_eq_true rfl) dX8_endOf_2 ⟨Nat.le_of_ble_eq_true rfl, Nat.le_of_ble_eq_true rfl⟩ (fun _ => Nat.le_of_ble_eq_true rfl) (fun _ => rfl) (fun u H locs hp hG => ?_)
  refine lv_iload_n S.1 S.2.1 dX8_endOf_5 rfl (lv_at hl 3 rfl) ?_
  refine g_iconst S dX8_endOf_6 ?_
  refine g_sipush S dX8_endOf_7 (by decide) ?_
  refine g_invSv (As := [.int (iI z), .int (iI 0), .int (iI 3999)]) (rest := []) (gs' := (fun u : Unit => [gRLC K ad, gScn K (ad 3) (ad 14) (ad 15) (ad 16) (ad 17) ou mi bo ln LF sn SF, gRayU K (ad 7) (ad 23) (ad 24) (ad 25) (ad 26) rs rv XF])) S C hG [] (c_X8_checkRange l K z 0 3999 hz (by omega) (by omega) h1) rfl rfl (va_cwS 3 S.2.2.2.2 gX8_endOf_X8_checkRange rfl rfl rfl (by decide +kernel) ⟨Nat.le_of_ble_eq_true rfl, Nat.le_of_ble_eq_true rfl⟩) rfl hl.1 rfl (Nat.le_of_ble_eq_true rfl) dX8_endOf_10 ⟨Nat.le_of_ble_eq_true rfl, Nat.le_of_ble_eq_true rfl⟩ (fun _ => Nat.le_of_ble_eq_true rfl) (fun _ => rfl) (fun u H locs hp hG => ?_)
  refine lv_aload_n S.1 S.2.1 dX8_endOf_13 rfl (lv_at hl 0 rfl) ?_
  refine g_get S C hG iX80 0 rfl rfl 6 (by decide) (List.mem_of_getElem? (i := 1) rfl) rfl dX8_endOf_14 ?_
  refine lv_aload_n S.1 S.2.1 dX8_endOf_17 rfl (lv_at hl 0 rfl) ?_
  refine g_get S C hG iX80 0 rfl rfl 2 (by decide) (List.mem_of_getElem? (i := 2) rfl) rfl dX8_endOf_18 ?_
  refine g_invVv (As := [.ref (ad 3)]) (rest := []) (gs' := (fun u : (Int → Int) => [gRLC K ad, gScn K (ad 3) (ad 14) (ad 15) (ad 16) (ad 17) ou mi bo ln LF sn SF, gRayU K (ad 7) (ad 23) (ad 24) (ad 25) (ad 26) (ad 3) rv u])) S C hG [2, 1] (c_X4_enterU l K (ad 7) (ad 23) (ad 24) (ad 25) (ad 26) rs rv XF (ad 3) (ad 14) (ad 15) (ad 16) (ad 17) ou mi bo ln LF sn SF N hS hN) rfl rfl 0 rfl rfl (cwV 1 S.2.2.2.2 gX8_endOf_X4_enter rfl rfl rfl (by decide +kernel) ⟨Nat.le_of_ble_eq_true rfl, Nat.le_of_ble_eq_true rfl⟩) rfl hl.1 rfl (Nat.le_of_ble_eq_true rfl) dX8_endOf_21 ⟨Nat.le_of_ble_eq_true rfl, Nat.le_of_ble_eq_true rfl⟩ (fun _ => Nat.le_of_ble_eq_true rfl) (fun _ => rfl) (fun u H locs hp hG => ?_)
  obtain ⟨X2_21, rfl⟩ : ∃ z, z = u := ⟨_, rfl⟩
  have hE_21 := hp
  have hE_21 : EntOk N X2_21 := hE_21
  have hG : gW K A s.heap [gRLC K ad, gScn K (ad 3) (ad 14) (ad 15) (ad 16) (ad 17) ou mi bo ln LF sn SF, gRayU K (ad 7) (ad 23) (ad 24) (ad 25) (ad 26) (ad 3) rv X2_21] _ _ := hG
  refine lv_aload_n S.1 S.2.1 dX8_endOf_24 rfl (lv_at hl 0 rfl) ?_
  refine g_get S C hG iX80 0 rfl rfl 6 (by decide) (List.mem_of_getElem? (i := 1) rfl) rfl dX8_endOf_25 ?_
  refine lv_iload_n S.1 S.2.1 dX8_endOf_28 rfl (lv_at hl 1 rfl) ?_
  refine lv_iload_n S.1 S.2.1 dX8_endOf_29 rfl (lv_at hl 2 rfl) ?_
  refine lv_iload_n S.1 S.2.1 dX8_endOf_30 rfl (lv_at hl 3 rfl) ?_
  refine g_invVv (As := [.int (iI y), .int (iI x), .int (iI z)]) (rest := []) (gs' := (fun u : RU => [gRLC K ad, gScn K (ad 3) (ad 14) (ad 15) (ad 16) (ad 17) ou mi bo ln LF sn SF, gRayU K (ad 7) (ad 23) (ad 24) (ad 25) (ad 26) (ad 3) u X2_21])) S C hG [2, 1] (c_X4_runU l K (ad 7) (ad 23) (ad 24) (ad 25) (ad 26) (ad 3) rv X2_21 (ad 14) (ad 15) (ad 16) (ad 17) ou mi bo ln LF sn SF N y x z hS hN hE_21 hv h1 hx) rfl rfl 0 rfl rfl (cwV 3 S.2.2.2.2 gX8_endOf_X4_run rfl rfl rfl (by decide +kernel) ⟨Nat.le_of_ble_eq_true rfl, Nat.le_of_ble_eq_true rfl⟩) rfl hl.1 rfl (Nat.le_of_ble_eq_true rfl) dX8_endOf_31 ⟨Nat.le_of_ble_eq_true rfl, Nat.le_of_ble_eq_true rfl⟩ (fun _ => Nat.le_of_ble_eq_true rfl) (fun _ => rfl) (fun u H locs hp hG => ?_)
  obtain ⟨rv2_31, rfl⟩ : ∃ z, z = u := ⟨_, rfl⟩
  have hr_31 := hp
  have hr_31 : ResU N z y x rv2_31 := hr_31
  have hG : gW K A s.heap [gRLC K ad, gScn K (ad 3) (ad 14) (ad 15) (ad 16) (ad 17) ou mi bo ln LF sn SF, gRayU K (ad 7) (ad 23) (ad 24) (ad 25) (ad 26) (ad 3) rv2_31 X2_21] _ _ := hG
  refine lv_aload_n S.1 S.2.1 dX8_endOf_34 rfl (lv_at hl 0 rfl) ?_
  refine g_get S C hG iX80 0 rfl rfl 6 (by decide) (List.mem_of_getElem? (i := 1) rfl) rfl dX8_endOf_35 ?_
  refine g_get S C hG iX40 6 rfl rfl 9 (by decide) (List.mem_of_getElem? (i := 3) rfl) rfl dX8_endOf_38 ?_
  have hG : gW K A s.heap [gRLC K ad, gScn K (ad 3) (ad 14) (ad 15) (ad 16) (ad 17) ou mi bo ln LF sn SF, gRayU K (ad 7) (ad 23) (ad 24) (ad 25) (ad 26) (ad 3) rv2_31 X2_21] _ _ := hG
  exact g_iret S hr hlk hQ dX8_endOf_41 (Nat.le_of_ble_eq_true rfl) (Nat.le_of_ble_eq_true rfl) ((rv2_31, X2_21) : RU × (Int → Int)) (congrArg (fun z : Int => Value.int (iI z)) hr_31.f.2.1) hG
set_option maxHeartbeats 1000000 in
set_option maxRecDepth 100000 in
theorem c_X8_shiftOf (l : Launch) (K : KC) (ad : Nat → Nat) (ou : Int) (mi : Int) (bo : Int) (ln : Int) (LF : Int → Int) (sn : Int) (SF : Int → Int) (N : Int → Int) (rs : Nat) (rv : RU) (XF : Int → Int) (y : Int) (x : Int) (z : Int) (hS : ScOk N ou mi bo ln LF sn SF) (hN : NOk0 N) (hv : -2147483648 ≤ y ∧ y < 2147483648) (hx : x = 0 ∨ x = 1) (hz : -2147483648 ≤ z ∧ z < 2147483648) (hy : 0 ≤ y ∧ y < N 0) (h1 : 0 ≤ z ∧ z ≤ 3999) : mG l yX8_shiftOf wsX8_shiftOf 4 94 K [.ref (ad 0), .int (iI y), .int (iI x), .int (iI z)] [gRLC K ad, gScn K (ad 3) (ad 14) (ad 15) (ad 16) (ad 17) ou mi bo ln LF sn SF, gRayU K (ad 7) (ad 23) (ad 24) (ad 25) (ad 26) rs rv XF] (fun (v : Value) (u : RU × (Int → Int)) => (v = .int (iI (shiA N y x z)))) (fun (u : RU × (Int → Int)) => [gRLC K ad, gScn K (ad 3) (ad 14) (ad 15) (ad 16) (ad 17) ou mi bo ln LF sn SF, gRayU K (ad 7) (ad 23) (ad 24) (ad 25) (ad 26) (ad 3) u.1 u.2]) 0 0 := by
  refine mG_of cX8_shiftOf 4 (by decide) rfl (Nat.le_of_ble_eq_true rfl) ?_
  intro p e s m below meth c A ls Q S C hG hl hr hlk hin hQ
  have S : CallFix p m c cX8_shiftOf 4 s ([.ref (ad 0), .int (iI y), .int (iI x), .int (iI z)] : List Value).toArray wsX8_shiftOf RX8 := S
  have iX80 : ∀ w ∈ wsX80, w ∈ wsX8_shiftOf := fun _ h => List.mem_cons_of_mem _ (List.mem_append_left _ (List.mem_append_left _ (List.mem_append_left _ (List.mem_append_left _ (List.mem_append_left _ (List.mem_append_right _ (h)))))))
  have iX40 : ∀ w ∈ wsX40, w ∈ wsX8_shiftOf := fun _ h => List.mem_cons_of_mem _ (List.mem_append_left _ (List.mem_append_left _ (List.mem_append_left _ (List.mem_append_left _ (List.mem_append_right _ (h))))))
  have iX50 : ∀ w ∈ wsX50, w ∈ wsX8_shiftOf := fun _ h => List.mem_cons_of_mem _ (List.mem_append_left _ (List.mem_append_left _ (List.mem_append_left _ (List.mem_append_right _ (h)))))
  have iX70 : ∀ w ∈ wsX70, w ∈ wsX8_shiftOf := fun _ h => List.mem_cons_of_mem _ (List.mem_append_left _ (List.mem_append_left _ (List.mem_append_right _ (h))))
  have hl : lv_has ls 4 [(0, .ref (ad 0)), (1, .int (iI y)), (2, .int (iI x)), (3, .int (iI z))] := hl
  have hG : gW K A s.heap [gRLC K ad, gScn K (ad 3) (ad 14) (ad 15) (ad 16) (ad 17) ou mi bo ln LF sn SF, gRayU K (ad 7) (ad 23) (ad 24) (ad 25) (ad 26) rs rv XF] s.heap [] := hG
  obtain ⟨e0, e1, e2, e3, e4, e5, e6⟩ := id hS
  have n0 := hN.1
  have n3 := hN.2.2.2.1
  refine lv_aload_n S.1 S.2.1 dX8_shiftOf_0 rfl (lv_at hl 0 rfl) ?_
  refine lv_iload_n S.1 S.2.1 dX8_shiftOf_1 rfl (lv_at hl 1 rfl) ?_
  refine g_invVv (As := [.int (iI y)]) (rest := []) (gs' := (fun u : Unit => [gRLC K ad, gScn K (ad 3) (ad 14) (ad 15) (ad 16) (ad 17) ou mi bo ln LF sn SF, gRayU K (ad 7) (ad 23) (ad 24) (ad 25) (ad 26) rs rv XF])) S C hG [0, 1] (c_X8_checkLayer l K ad ou mi bo ln LF sn SF N y hS hN hv hy) rfl rfl 0 rfl rfl (cwV 1 S.2.2.2.2 gX8_shiftOf_X8_checkLayer rfl rfl rfl (by decide +kernel) ⟨Nat.le_of_ble_eq_true rfl, Nat.le_of_ble_eq_true rfl⟩) rfl hl.1 rfl (Nat.le_of_ble_eq_true rfl) dX8_shiftOf_2 ⟨Nat.le_of_ble_eq_true rfl, Nat.le_of_ble_eq_true rfl⟩ (fun _ => Nat.le_of_ble_eq_true rfl) (fun _ => rfl) (fun u H locs hp hG => ?_)
  refine lv_iload_n S.1 S.2.1 dX8_shiftOf_5 rfl (lv_at hl 3 rfl) ?_
  refine g_iconst S dX8_shiftOf_6 ?_
  refine g_sipush S dX8_shiftOf_7 (by decide) ?_
  refine g_invSv (As := [.int (iI z), .int (iI 0), .int (iI 3999)]) (rest := []) (gs' := (fun u : Unit => [gRLC K ad, gScn K (ad 3) (ad 14) (ad 15) (ad 16) (ad 17) ou mi bo ln LF sn SF, gRayU K (ad 7) (ad 23) (ad 24) (ad 25) (ad 26) rs rv XF])) S C hG [] (c_X8_checkRange l K z 0 3999 hz (by omega) (by omega) h1) rfl rfl (va_cwS 3 S.2.2.2.2 gX8_shiftOf_X8_checkRange rfl rfl rfl (by decide +kernel) ⟨Nat.le_of_ble_eq_true rfl, Nat.le_of_ble_eq_true rfl⟩) rfl hl.1 rfl (Nat.le_of_ble_eq_true rfl) dX8_shiftOf_10 ⟨Nat.le_of_ble_eq_true rfl, Nat.le_of_ble_eq_true rfl⟩ (fun _ => Nat.le_of_ble_eq_true rfl) (fun _ => rfl) (fun u H locs hp hG => ?_)
  refine lv_aload_n S.1 S.2.1 dX8_shiftOf_13 rfl (lv_at hl 0 rfl) ?_
  refine g_get S C hG iX80 0 rfl rfl 6 (by decide) (List.mem_of_getElem? (i := 1) rfl) rfl dX8_shiftOf_14 ?_
  refine lv_aload_n S.1 S.2.1 dX8_shiftOf_17 rfl (lv_at hl 0 rfl) ?_
  refine g_get S C hG iX80 0 rfl rfl 2 (by decide) (List.mem_of_getElem? (i := 2) rfl) rfl dX8_shiftOf_18 ?_
  refine g_invVv (As := [.ref (ad 3)]) (rest := []) (gs' := (fun u : (Int → Int) => [gRLC K ad, gScn K (ad 3) (ad 14) (ad 15) (ad 16) (ad 17) ou mi bo ln LF sn SF, gRayU K (ad 7) (ad 23) (ad 24) (ad 25) (ad 26) (ad 3) rv u])) S C hG [2, 1] (c_X4_enterU l K (ad 7) (ad 23) (ad 24) (ad 25) (ad 26) rs rv XF (ad 3) (ad 14) (ad 15) (ad 16) (ad 17) ou mi bo ln LF sn SF N hS hN) rfl rfl 0 rfl rfl (cwV 1 S.2.2.2.2 gX8_shiftOf_X4_enter rfl rfl rfl (by decide +kernel) ⟨Nat.le_of_ble_eq_true rfl, Nat.le_of_ble_eq_true rfl⟩) rfl hl.1 rfl (Nat.le_of_ble_eq_true rfl) dX8_shiftOf_21 ⟨Nat.le_of_ble_eq_true rfl, Nat.le_of_ble_eq_true rfl⟩ (fun _ => Nat.le_of_ble_eq_true rfl) (fun _ => rfl) (fun u H locs hp hG => ?_)
  obtain ⟨X2_21, rfl⟩ : ∃ z, z = u := ⟨_, rfl⟩
  have hE_21 := hp
  have hE_21 : EntOk N X2_21 := hE_21
  have hG : gW K A s.heap [gRLC K ad, gScn K (ad 3) (ad 14) (ad 15) (ad 16) (ad 17) ou mi bo ln LF sn SF, gRayU K (ad 7) (ad 23) (ad 24) (ad 25) (ad 26) (ad 3) rv X2_21] _ _ := hG
  refine lv_aload_n S.1 S.2.1 dX8_shiftOf_24 rfl (lv_at hl 0 rfl) ?_
  refine g_get S C hG iX80 0 rfl rfl 6 (by decide) (List.mem_of_getElem? (i := 1) rfl) rfl dX8_shiftOf_25 ?_
  refine lv_iload_n S.1 S.2.1 dX8_shiftOf_28 rfl (lv_at hl 1 rfl) ?_
  refine lv_iload_n S.1 S.2.1 dX8_shiftOf_29 rfl (lv_at hl 2 rfl) ?_
  refine lv_iload_n S.1 S.2.1 dX8_shiftOf_30 rfl (lv_at hl 3 rfl) ?_
  refine g_invVv (As := [.int (iI y), .int (iI x), .int (iI z)]) (rest := []) (gs' := (fun u : RU => [gRLC K ad, gScn K (ad 3) (ad 14) (ad 15) (ad 16) (ad 17) ou mi bo ln LF sn SF, gRayU K (ad 7) (ad 23) (ad 24) (ad 25) (ad 26) (ad 3) u X2_21])) S C hG [2, 1] (c_X4_runU l K (ad 7) (ad 23) (ad 24) (ad 25) (ad 26) (ad 3) rv X2_21 (ad 14) (ad 15) (ad 16) (ad 17) ou mi bo ln LF sn SF N y x z hS hN hE_21 hv h1 hx) rfl rfl 0 rfl rfl (cwV 3 S.2.2.2.2 gX8_shiftOf_X4_run rfl rfl rfl (by decide +kernel) ⟨Nat.le_of_ble_eq_true rfl, Nat.le_of_ble_eq_true rfl⟩) rfl hl.1 rfl (Nat.le_of_ble_eq_true rfl) dX8_shiftOf_31 ⟨Nat.le_of_ble_eq_true rfl, Nat.le_of_ble_eq_true rfl⟩ (fun _ => Nat.le_of_ble_eq_true rfl) (fun _ => rfl) (fun u H locs hp hG => ?_)
  obtain ⟨rv2_31, rfl⟩ : ∃ z, z = u := ⟨_, rfl⟩
  have hr_31 := hp
  have hr_31 : ResU N z y x rv2_31 := hr_31
  have hG : gW K A s.heap [gRLC K ad, gScn K (ad 3) (ad 14) (ad 15) (ad 16) (ad 17) ou mi bo ln LF sn SF, gRayU K (ad 7) (ad 23) (ad 24) (ad 25) (ad 26) (ad 3) rv2_31 X2_21] _ _ := hG
  refine lv_aload_n S.1 S.2.1 dX8_shiftOf_34 rfl (lv_at hl 0 rfl) ?_
  refine g_get S C hG iX80 0 rfl rfl 6 (by decide) (List.mem_of_getElem? (i := 1) rfl) rfl dX8_shiftOf_35 ?_
  have g1 := hr_31.f.2.1
  have g2 := hr_31.f.2.2.1
  have g3 := enF_bd N z y x
  refine g_get S C hG iX40 6 rfl rfl 9 (by decide) (List.mem_of_getElem? (i := 3) rfl) rfl dX8_shiftOf_38 ?_
  refine g_iconst S dX8_shiftOf_41 ?_
  refine g_icmp_ne (tgt := 49) S dX8_shiftOf_42 (by decide) (by omega) (by omega) (fun q42 => ?_) (fun q42 => ?_)
  · skip
    refine lv_aload_n S.1 S.2.1 dX8_shiftOf_49 rfl (lv_at hl 0 rfl) ?_
    refine g_get S C hG iX80 0 rfl rfl 6 (by decide) (List.mem_of_getElem? (i := 1) rfl) rfl dX8_shiftOf_50 ?_
    refine g_get S C hG iX40 6 rfl rfl 10 (by decide) (List.mem_of_getElem? (i := 4) rfl) rfl dX8_shiftOf_53 ?_
    have hG : gW K A s.heap [gRLC K ad, gScn K (ad 3) (ad 14) (ad 15) (ad 16) (ad 17) ou mi bo ln LF sn SF, gRayU K (ad 7) (ad 23) (ad 24) (ad 25) (ad 26) (ad 3) rv2_31 X2_21] _ _ := hG
    exact g_iret S hr hlk hQ dX8_shiftOf_56 (Nat.le_of_ble_eq_true rfl) (Nat.le_of_ble_eq_true rfl) ((rv2_31, X2_21) : RU × (Int → Int)) (congrArg (fun z : Int => Value.int (iI z)) (by unfold shiA <;> split <;> omega)) hG
  · skip
    refine g_iconst S dX8_shiftOf_45 ?_
    refine lv_goto (tgt := 56) S.1 S.2.1 dX8_shiftOf_46 (by decide) ?_
    have hG : gW K A s.heap [gRLC K ad, gScn K (ad 3) (ad 14) (ad 15) (ad 16) (ad 17) ou mi bo ln LF sn SF, gRayU K (ad 7) (ad 23) (ad 24) (ad 25) (ad 26) (ad 3) rv2_31 X2_21] _ _ := hG
    exact g_iret S hr hlk hQ dX8_shiftOf_56 (Nat.le_of_ble_eq_true rfl) (Nat.le_of_ble_eq_true rfl) ((rv2_31, X2_21) : RU × (Int → Int)) (congrArg (fun z : Int => Value.int (iI z)) (by unfold shiA <;> split <;> omega)) hG
