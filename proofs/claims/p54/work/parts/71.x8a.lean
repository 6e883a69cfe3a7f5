theorem th_ex_144 : "java/lang/IllegalArgumentException" ∈ exC := by decide
theorem th_ft_144 : Bundle.fit "java/lang/IllegalArgumentException" = true := by decide +kernel
theorem th_ng_144 : ∀ w ∈ (vx_atS RX8 144 "java/lang/IllegalArgumentException" thNs).filter (fun w => !goodWord w), w ∈ [Cond.castable "java/lang/IllegalArgumentException" "java/lang/IllegalArgumentException", Cond.declares (Bundle.initS "java/lang/RuntimeException"), Cond.declares (Bundle.initS "java/lang/Exception"), Cond.declares (Bundle.initS Bundle.tN)] := by decide +kernel
theorem th_gd_144 : ∀ w ∈ Cond.classLink RX8 140 "java/lang/IllegalArgumentException" :: Cond.initialized "java/lang/IllegalArgumentException" :: vx_atS RX8 144 "java/lang/IllegalArgumentException" thNs, vx_ot w = true := by decide +kernel
theorem th_ex_93 : "java/lang/IllegalStateException" ∈ exC := by decide
theorem th_ft_93 : Bundle.fit "java/lang/IllegalStateException" = true := by decide +kernel
theorem th_ng_93 : ∀ w ∈ (vx_atS RX8 93 "java/lang/IllegalStateException" thNs).filter (fun w => !goodWord w), w ∈ [Cond.castable "java/lang/IllegalStateException" "java/lang/IllegalStateException", Cond.declares (Bundle.initS "java/lang/RuntimeException"), Cond.declares (Bundle.initS "java/lang/Exception"), Cond.declares (Bundle.initS Bundle.tN)] := by decide +kernel
theorem th_gd_93 : ∀ w ∈ Cond.classLink RX8 89 "java/lang/IllegalStateException" :: Cond.initialized "java/lang/IllegalStateException" :: vx_atS RX8 93 "java/lang/IllegalStateException" thNs, vx_ot w = true := by decide +kernel
set_option maxHeartbeats 1000000 in
set_option maxRecDepth 100000 in
theorem c_X8_checkRange (l : Launch) (K : KC) (z : Int) (zlo : Int) (zhi : Int) (hv : -2147483648 ≤ z ∧ z < 2147483648) (hv0 : -2147483648 ≤ zlo ∧ zlo < 2147483648) (hv1 : -2147483648 ≤ zhi ∧ zhi < 2147483648) (h0 : zlo ≤ z ∧ z ≤ zhi) : mV l yX8_checkRange wsX8_checkRange 0 0 K [.int (iI z), .int (iI zlo), .int (iI zhi)] [] (fun (u : Unit) => True) (fun (u : Unit) => []) 0 0 := by
  refine mV_of cX8_checkRange 3 (by decide) rfl (Nat.le_of_ble_eq_true rfl) ?_
  intro p e s m below meth c A ls Q S C hG hl hr hlk hin hQ
  have S : CallFix p m c cX8_checkRange 3 s ([.int (iI z), .int (iI zlo), .int (iI zhi)] : List Value).toArray wsX8_checkRange RX8 := S
  have hl : lv_has ls 3 [(0, .int (iI z)), (1, .int (iI zlo)), (2, .int (iI zhi))] := hl
  have hG : gW K A s.heap [] s.heap [] := hG
  refine lv_iload_n S.1 S.2.1 dX8_checkRange_0 rfl (lv_at hl 0 rfl) ?_
  refine lv_iload_n S.1 S.2.1 dX8_checkRange_1 rfl (lv_at hl 1 rfl) ?_
  refine g_icmp_lt (tgt := 10) S dX8_checkRange_2 (by decide) (by omega) (by omega) (fun q2 => ?_) (fun q2 => ?_)
  · skip
    omega
  · skip
    refine lv_iload_n S.1 S.2.1 dX8_checkRange_5 rfl (lv_at hl 0 rfl) ?_
    refine lv_iload_n S.1 S.2.1 dX8_checkRange_6 rfl (lv_at hl 2 rfl) ?_
    refine g_icmp_le (tgt := 21) S dX8_checkRange_7 (by decide) (by omega) (by omega) (fun q7 => ?_) (fun q7 => ?_)
    · skip
      have hG : gW K A s.heap [] _ _ := hG
      exact g_vret S hr hlk hQ dX8_checkRange_21 (Nat.le_of_ble_eq_true rfl) (Nat.le_of_ble_eq_true rfl) (() : Unit) trivial hG
    · skip
      omega
set_option maxHeartbeats 1000000 in
set_option maxRecDepth 100000 in
theorem x_checkRange (l : Launch) (K : KC) (z : Int) (zlo : Int) (zhi : Int) (hv : -2147483648 ≤ z ∧ z < 2147483648) (hv0 : -2147483648 ≤ zlo ∧ zlo < 2147483648) (hv1 : -2147483648 ≤ zhi ∧ zhi < 2147483648) (h0 : ¬ (zlo ≤ z ∧ z ≤ zhi)) (hst : l.stackTraces = false) : mX l yX8_checkRange wsX8_checkRange 6 82 K [.int (iI z), .int (iI zlo), .int (iI zhi)] [] "java/lang/IllegalArgumentException" (fun (u : Unit) => True) (fun (u : Unit) => []) 1 6 := by
  refine mX_of cX8_checkRange 3 (by decide) rfl (Nat.le_of_ble_eq_true rfl) ?_
  intro p e s m below meth c A ls Q S C hG hl hex hlk hin hQ
  have S : CallFix p m c cX8_checkRange 3 s ([.int (iI z), .int (iI zlo), .int (iI zhi)] : List Value).toArray wsX8_checkRange RX8 := S
  have hl : lv_has ls 3 [(0, .int (iI z)), (1, .int (iI zlo)), (2, .int (iI zhi))] := hl
  have hG : gW K A s.heap [] s.heap [] := hG
  refine lv_iload_n S.1 S.2.1 dX8_checkRange_0 rfl (lv_at hl 0 rfl) ?_
  refine lv_iload_n S.1 S.2.1 dX8_checkRange_1 rfl (lv_at hl 1 rfl) ?_
  refine g_icmp_lt (tgt := 10) S dX8_checkRange_2 (by decide) (by omega) (by omega) (fun q2 => ?_) (fun q2 => ?_)
  · skip
    have hG : gW K A s.heap [] _ _ := hG
    exact g_thrW S C hl.1 hst hQ hex hlk th_ex_144 th_ft_144 (List.mem_of_getElem? (i := 1) rfl) (List.mem_of_getElem? (i := 2) rfl) (List.mem_of_getElem? (l := strW) (i := 11) rfl) (fun w hw => List.mem_cons_of_mem _ (List.mem_append_right _ (hw))) th_ng_144 th_gd_144 dX8_checkRange_10 dX8_checkRange_13 dX8_checkRange_14 dX8_checkRange_17 dX8_checkRange_20 ⟨Nat.le_of_ble_eq_true rfl, Nat.le_of_ble_eq_true rfl, Nat.le_of_ble_eq_true rfl, Nat.le_of_ble_eq_true rfl⟩ (Nat.le_of_ble_eq_true rfl) (Nat.le_of_ble_eq_true rfl) (() : Unit) trivial hG
  · skip
    refine lv_iload_n S.1 S.2.1 dX8_checkRange_5 rfl (lv_at hl 0 rfl) ?_
    refine lv_iload_n S.1 S.2.1 dX8_checkRange_6 rfl (lv_at hl 2 rfl) ?_
    refine g_icmp_le (tgt := 21) S dX8_checkRange_7 (by decide) (by omega) (by omega) (fun q7 => ?_) (fun q7 => ?_)
    · skip
      omega
    · skip
      have hG : gW K A s.heap [] _ _ := hG
      exact g_thrW S C hl.1 hst hQ hex hlk th_ex_144 th_ft_144 (List.mem_of_getElem? (i := 1) rfl) (List.mem_of_getElem? (i := 2) rfl) (List.mem_of_getElem? (l := strW) (i := 11) rfl) (fun w hw => List.mem_cons_of_mem _ (List.mem_append_right _ (hw))) th_ng_144 th_gd_144 dX8_checkRange_10 dX8_checkRange_13 dX8_checkRange_14 dX8_checkRange_17 dX8_checkRange_20 ⟨Nat.le_of_ble_eq_true rfl, Nat.le_of_ble_eq_true rfl, Nat.le_of_ble_eq_true rfl, Nat.le_of_ble_eq_true rfl⟩ (Nat.le_of_ble_eq_true rfl) (Nat.le_of_ble_eq_true rfl) (() : Unit) trivial hG
set_option maxHeartbeats 1000000 in
set_option maxRecDepth 100000 in
theorem c_X8_checkLayer (l : Launch) (K : KC) (ad : Nat → Nat) (ou : Int) (mi : Int) (bo : Int) (ln : Int) (LF : Int → Int) (sn : Int) (SF : Int → Int) (N : Int → Int) (y : Int) (hS : ScOk N ou mi bo ln LF sn SF) (hN : NOk0 N) (hv : -2147483648 ≤ y ∧ y < 2147483648) (h0 : 0 ≤ y ∧ y < N 0) : mV l yX8_checkLayer wsX8_checkLayer 1 21 K [.ref (ad 0), .int (iI y)] [gRLC K ad, gScn K (ad 3) (ad 14) (ad 15) (ad 16) (ad 17) ou mi bo ln LF sn SF] (fun (u : Unit) => True) (fun (u : Unit) => [gRLC K ad, gScn K (ad 3) (ad 14) (ad 15) (ad 16) (ad 17) ou mi bo ln LF sn SF]) 0 0 := by
  refine mV_of cX8_checkLayer 2 (by decide) rfl (Nat.le_of_ble_eq_true rfl) ?_
  intro p e s m below meth c A ls Q S C hG hl hr hlk hin hQ
  have S : CallFix p m c cX8_checkLayer 2 s ([.ref (ad 0), .int (iI y)] : List Value).toArray wsX8_checkLayer RX8 := S
  have iX80 : ∀ w ∈ wsX80, w ∈ wsX8_checkLayer := fun _ h => List.mem_cons_of_mem _ (List.mem_append_left _ (List.mem_append_left _ (List.mem_append_left _ (List.mem_append_right _ (h)))))
  have iX50 : ∀ w ∈ wsX50, w ∈ wsX8_checkLayer := fun _ h => List.mem_cons_of_mem _ (List.mem_append_left _ (List.mem_append_left _ (List.mem_append_right _ (h))))
  have iX70 : ∀ w ∈ wsX70, w ∈ wsX8_checkLayer := fun _ h => List.mem_cons_of_mem _ (List.mem_append_left _ (List.mem_append_right _ (h)))
  have hl : lv_has ls 2 [(0, .ref (ad 0)), (1, .int (iI y))] := hl
  have hG : gW K A s.heap [gRLC K ad, gScn K (ad 3) (ad 14) (ad 15) (ad 16) (ad 17) ou mi bo ln LF sn SF] s.heap [] := hG
  obtain ⟨e0, e1, e2, e3, e4, e5, e6⟩ := id hS
  have n0 := hN.1
  have n3 := hN.2.2.2.1
  refine lv_aload_n S.1 S.2.1 dX8_checkLayer_0 rfl (lv_at hl 0 rfl) ?_
  refine g_get S C hG iX80 0 rfl rfl 2 (by decide) (List.mem_of_getElem? (i := 3) rfl) rfl dX8_checkLayer_1 ?_
  refine g_get S C hG iX50 1 rfl rfl 0 (by decide) (List.mem_of_getElem? (i := 4) rfl) rfl dX8_checkLayer_4 ?_
  refine lv_iload_n S.1 S.2.1 dX8_checkLayer_7 rfl (lv_at hl 1 rfl) ?_
  have hG : gW K A s.heap [gRLC K ad, gScC K (ad 3) (ad 14) (ad 16) ou mi bo, gTab K (ad 14) (ad 15) ln LF, gTabC K (ad 16) (ad 17) sn, gArr K 60 (ad 17) SF] _ _ := hG
  refine g_invV (As := [.int (iI y)]) (rest := []) (gs' := (fun u : Unit => [gRLC K ad, gScC K (ad 3) (ad 14) (ad 16) ou mi bo, gTab K (ad 14) (ad 15) ln LF, gTabC K (ad 16) (ad 17) sn, gArr K 60 (ad 17) SF])) S C hG [2] (c_X7_has l K (ad 14) (ad 15) ln LF y hv (by omega)) rfl rfl 0 rfl rfl (cwV 1 S.2.2.2.2 gX8_checkLayer_X7_has rfl rfl rfl (by decide +kernel) ⟨Nat.le_of_ble_eq_true rfl, Nat.le_of_ble_eq_true rfl⟩) rfl hl.1 rfl (Nat.le_of_ble_eq_true rfl) dX8_checkLayer_8 ⟨Nat.le_of_ble_eq_true rfl, Nat.le_of_ble_eq_true rfl⟩ (fun _ => Nat.le_of_ble_eq_true rfl) (fun _ => rfl) (fun v u H locs hp hG => ?_)
  subst hp
  refine g_ifne_b (B := (0 ≤ y ∧ y < ln)) (tgt := 25) S dX8_checkLayer_11 (by decide) (fun q11 => ?_) (fun q11 => ?_)
  · skip
    have hG : gW K A s.heap [gRLC K ad, gScn K (ad 3) (ad 14) (ad 15) (ad 16) (ad 17) ou mi bo ln LF sn SF] _ _ := hG
    exact g_vret S hr hlk hQ dX8_checkLayer_25 (Nat.le_of_ble_eq_true rfl) (Nat.le_of_ble_eq_true rfl) (() : Unit) trivial hG
  · skip
    omega
set_option maxHeartbeats 1000000 in
set_option maxRecDepth 100000 in
theorem c_X8_checkShot (l : Launch) (K : KC) (ad : Nat → Nat) (ou : Int) (mi : Int) (bo : Int) (ln : Int) (LF : Int → Int) (sn : Int) (SF : Int → Int) (N : Int → Int) (y : Int) (hS : ScOk N ou mi bo ln LF sn SF) (hN : NOk0 N) (hv : -2147483648 ≤ y ∧ y < 2147483648) (h0 : 0 ≤ y ∧ y < N 4) : mV l yX8_checkShot wsX8_checkShot 1 21 K [.ref (ad 0), .int (iI y)] [gRLC K ad, gScn K (ad 3) (ad 14) (ad 15) (ad 16) (ad 17) ou mi bo ln LF sn SF] (fun (u : Unit) => True) (fun (u : Unit) => [gRLC K ad, gScn K (ad 3) (ad 14) (ad 15) (ad 16) (ad 17) ou mi bo ln LF sn SF]) 0 0 := by
  refine mV_of cX8_checkShot 2 (by decide) rfl (Nat.le_of_ble_eq_true rfl) ?_
  intro p e s m below meth c A ls Q S C hG hl hr hlk hin hQ
  have S : CallFix p m c cX8_checkShot 2 s ([.ref (ad 0), .int (iI y)] : List Value).toArray wsX8_checkShot RX8 := S
  have iX80 : ∀ w ∈ wsX80, w ∈ wsX8_checkShot := fun _ h => List.mem_cons_of_mem _ (List.mem_append_left _ (List.mem_append_left _ (List.mem_append_left _ (List.mem_append_right _ (h)))))
  have iX50 : ∀ w ∈ wsX50, w ∈ wsX8_checkShot := fun _ h => List.mem_cons_of_mem _ (List.mem_append_left _ (List.mem_append_left _ (List.mem_append_right _ (h))))
  have iX70 : ∀ w ∈ wsX70, w ∈ wsX8_checkShot := fun _ h => List.mem_cons_of_mem _ (List.mem_append_left _ (List.mem_append_right _ (h)))
  have hl : lv_has ls 2 [(0, .ref (ad 0)), (1, .int (iI y))] := hl
  have hG : gW K A s.heap [gRLC K ad, gScn K (ad 3) (ad 14) (ad 15) (ad 16) (ad 17) ou mi bo ln LF sn SF] s.heap [] := hG
  obtain ⟨e0, e1, e2, e3, e4, e5, e6⟩ := id hS
  have n0 := hN.1
  have n3 := hN.2.2.2.1
  refine lv_aload_n S.1 S.2.1 dX8_checkShot_0 rfl (lv_at hl 0 rfl) ?_
  refine g_get S C hG iX80 0 rfl rfl 2 (by decide) (List.mem_of_getElem? (i := 3) rfl) rfl dX8_checkShot_1 ?_
  refine g_get S C hG iX50 1 rfl rfl 1 (by decide) (List.mem_of_getElem? (i := 4) rfl) rfl dX8_checkShot_4 ?_
  refine lv_iload_n S.1 S.2.1 dX8_checkShot_7 rfl (lv_at hl 1 rfl) ?_
  have hG : gW K A s.heap [gRLC K ad, gScC K (ad 3) (ad 14) (ad 16) ou mi bo, gTabC K (ad 14) (ad 15) ln, gArr K 60 (ad 15) LF, gTab K (ad 16) (ad 17) sn SF] _ _ := hG
  refine g_invV (As := [.int (iI y)]) (rest := []) (gs' := (fun u : Unit => [gRLC K ad, gScC K (ad 3) (ad 14) (ad 16) ou mi bo, gTabC K (ad 14) (ad 15) ln, gArr K 60 (ad 15) LF, gTab K (ad 16) (ad 17) sn SF])) S C hG [4] (c_X7_has l K (ad 16) (ad 17) sn SF y hv (by omega)) rfl rfl 0 rfl rfl (cwV 1 S.2.2.2.2 gX8_checkShot_X7_has rfl rfl rfl (by decide +kernel) ⟨Nat.le_of_ble_eq_true rfl, Nat.le_of_ble_eq_true rfl⟩) rfl hl.1 rfl (Nat.le_of_ble_eq_true rfl) dX8_checkShot_8 ⟨Nat.le_of_ble_eq_true rfl, Nat.le_of_ble_eq_true rfl⟩ (fun _ => Nat.le_of_ble_eq_true rfl) (fun _ => rfl) (fun v u H locs hp hG => ?_)
  subst hp
  refine g_ifne_b (B := (0 ≤ y ∧ y < sn)) (tgt := 25) S dX8_checkShot_11 (by decide) (fun q11 => ?_) (fun q11 => ?_)
  · skip
    have hG : gW K A s.heap [gRLC K ad, gScn K (ad 3) (ad 14) (ad 15) (ad 16) (ad 17) ou mi bo ln LF sn SF] _ _ := hG
    exact g_vret S hr hlk hQ dX8_checkShot_25 (Nat.le_of_ble_eq_true rfl) (Nat.le_of_ble_eq_true rfl) (() : Unit) trivial hG
  · skip
    omega
set_option maxHeartbeats 1000000 in
set_option maxRecDepth 100000 in
theorem c_checkLayerValue0 (l : Launch) (K : KC) (x : Int) (hx : -2147483648 ≤ x ∧ x < 2147483648) (h0 : 1000 ≤ x ∧ x ≤ 4000) : mV l yX8_checkLayerValue wsX8_checkLayerValue 1 22 K [.int (iI 0), .int (iI x)] [] (fun (u : Unit) => True) (fun (u : Unit) => []) 0 0 := by
  refine mV_of cX8_checkLayerValue 2 (by decide) rfl (Nat.le_of_ble_eq_true rfl) ?_
  intro p e s m below meth c A ls Q S C hG hl hr hlk hin hQ
  have S : CallFix p m c cX8_checkLayerValue 2 s ([.int (iI 0), .int (iI x)] : List Value).toArray wsX8_checkLayerValue RX8 := S
  have hl : lv_has ls 2 [(0, .int (iI 0)), (1, .int (iI x))] := hl
  have hG : gW K A s.heap [] s.heap [] := hG
  refine lv_iload_n S.1 S.2.1 dX8_checkLayerValue_0 rfl (lv_at hl 0 rfl) ?_
  refine lv_tableIn (off := 27) (tgt := 28) S.1 S.2.1 dX8_checkLayerValue_1 (by decide) (by decide) rfl (by decide) ?_
  refine lv_iload_n S.1 S.2.1 dX8_checkLayerValue_28 rfl (lv_at hl 1 rfl) ?_
  refine g_sipush S dX8_checkLayerValue_29 (by decide) ?_
  refine g_sipush S dX8_checkLayerValue_32 (by decide) ?_
  refine g_invSv (As := [.int (iI x), .int (iI 1000), .int (iI 4000)]) (rest := []) (gs' := (fun u : Unit => [])) S C hG [] (c_X8_checkRange l K x 1000 4000 hx (by omega) (by omega) h0) rfl rfl (va_cwS 3 S.2.2.2.2 gX8_checkLayerValue_X8_checkRange rfl rfl rfl (by decide +kernel) ⟨Nat.le_of_ble_eq_true rfl, Nat.le_of_ble_eq_true rfl⟩) rfl hl.1 rfl (Nat.le_of_ble_eq_true rfl) dX8_checkLayerValue_35 ⟨Nat.le_of_ble_eq_true rfl, Nat.le_of_ble_eq_true rfl⟩ (fun _ => Nat.le_of_ble_eq_true rfl) (fun _ => rfl) (fun u H locs hp hG => ?_)
  refine lv_goto (tgt := 73) S.1 S.2.1 dX8_checkLayerValue_38 (by decide) ?_
  have hG : gW K A s.heap [] _ _ := hG
  exact g_vret S hr hlk hQ dX8_checkLayerValue_73 (Nat.le_of_ble_eq_true rfl) (Nat.le_of_ble_eq_true rfl) (() : Unit) trivial hG
set_option maxHeartbeats 1000000 in
set_option maxRecDepth 100000 in
theorem c_checkLayerValue1 (l : Launch) (K : KC) (x : Int) (hx : -2147483648 ≤ x ∧ x < 2147483648) (h0 : 1 ≤ x ∧ x ≤ 999) : mV l yX8_checkLayerValue wsX8_checkLayerValue 1 22 K [.int (iI 1), .int (iI x)] [] (fun (u : Unit) => True) (fun (u : Unit) => []) 0 0 := by
  refine mV_of cX8_checkLayerValue 2 (by decide) rfl (Nat.le_of_ble_eq_true rfl) ?_
  intro p e s m below meth c A ls Q S C hG hl hr hlk hin hQ
  have S : CallFix p m c cX8_checkLayerValue 2 s ([.int (iI 1), .int (iI x)] : List Value).toArray wsX8_checkLayerValue RX8 := S
  have hl : lv_has ls 2 [(0, .int (iI 1)), (1, .int (iI x))] := hl
  have hG : gW K A s.heap [] s.heap [] := hG
  refine lv_iload_n S.1 S.2.1 dX8_checkLayerValue_0 rfl (lv_at hl 0 rfl) ?_
  refine lv_tableIn (off := 40) (tgt := 41) S.1 S.2.1 dX8_checkLayerValue_1 (by decide) (by decide) rfl (by decide) ?_
  refine lv_iload_n S.1 S.2.1 dX8_checkLayerValue_41 rfl (lv_at hl 1 rfl) ?_
  refine g_iconst S dX8_checkLayerValue_42 ?_
  refine g_sipush S dX8_checkLayerValue_43 (by decide) ?_
  refine g_invSv (As := [.int (iI x), .int (iI 1), .int (iI 999)]) (rest := []) (gs' := (fun u : Unit => [])) S C hG [] (c_X8_checkRange l K x 1 999 hx (by omega) (by omega) h0) rfl rfl (va_cwS 3 S.2.2.2.2 gX8_checkLayerValue_X8_checkRange rfl rfl rfl (by decide +kernel) ⟨Nat.le_of_ble_eq_true rfl, Nat.le_of_ble_eq_true rfl⟩) rfl hl.1 rfl (Nat.le_of_ble_eq_true rfl) dX8_checkLayerValue_46 ⟨Nat.le_of_ble_eq_true rfl, Nat.le_of_ble_eq_true rfl⟩ (fun _ => Nat.le_of_ble_eq_true rfl) (fun _ => rfl) (fun u H locs hp hG => ?_)
  refine lv_goto (tgt := 73) S.1 S.2.1 dX8_checkLayerValue_49 (by decide) ?_
  have hG : gW K A s.heap [] _ _ := hG
  exact g_vret S hr hlk hQ dX8_checkLayerValue_73 (Nat.le_of_ble_eq_true rfl) (Nat.le_of_ble_eq_true rfl) (() : Unit) trivial hG
set_option maxHeartbeats 1000000 in
set_option maxRecDepth 100000 in
theorem c_checkLayerValue2 (l : Launch) (K : KC) (x : Int) (hx : -2147483648 ≤ x ∧ x < 2147483648) (h0 : 0 ≤ x ∧ x ≤ 99) : mV l yX8_checkLayerValue wsX8_checkLayerValue 1 22 K [.int (iI 2), .int (iI x)] [] (fun (u : Unit) => True) (fun (u : Unit) => []) 0 0 := by
  refine mV_of cX8_checkLayerValue 2 (by decide) rfl (Nat.le_of_ble_eq_true rfl) ?_
  intro p e s m below meth c A ls Q S C hG hl hr hlk hin hQ
  have S : CallFix p m c cX8_checkLayerValue 2 s ([.int (iI 2), .int (iI x)] : List Value).toArray wsX8_checkLayerValue RX8 := S
  have hl : lv_has ls 2 [(0, .int (iI 2)), (1, .int (iI x))] := hl
  have hG : gW K A s.heap [] s.heap [] := hG
  refine lv_iload_n S.1 S.2.1 dX8_checkLayerValue_0 rfl (lv_at hl 0 rfl) ?_
  refine lv_tableIn (off := 51) (tgt := 52) S.1 S.2.1 dX8_checkLayerValue_1 (by decide) (by decide) rfl (by decide) ?_
  refine lv_iload_n S.1 S.2.1 dX8_checkLayerValue_52 rfl (lv_at hl 1 rfl) ?_
  refine g_iconst S dX8_checkLayerValue_53 ?_
  refine g_bipush S dX8_checkLayerValue_54 (by decide) ?_
  refine g_invSv (As := [.int (iI x), .int (iI 0), .int (iI 99)]) (rest := []) (gs' := (fun u : Unit => [])) S C hG [] (c_X8_checkRange l K x 0 99 hx (by omega) (by omega) h0) rfl rfl (va_cwS 3 S.2.2.2.2 gX8_checkLayerValue_X8_checkRange rfl rfl rfl (by decide +kernel) ⟨Nat.le_of_ble_eq_true rfl, Nat.le_of_ble_eq_true rfl⟩) rfl hl.1 rfl (Nat.le_of_ble_eq_true rfl) dX8_checkLayerValue_56 ⟨Nat.le_of_ble_eq_true rfl, Nat.le_of_ble_eq_true rfl⟩ (fun _ => Nat.le_of_ble_eq_true rfl) (fun _ => rfl) (fun u H locs hp hG => ?_)
  refine lv_goto (tgt := 73) S.1 S.2.1 dX8_checkLayerValue_59 (by decide) ?_
  have hG : gW K A s.heap [] _ _ := hG
  exact g_vret S hr hlk hQ dX8_checkLayerValue_73 (Nat.le_of_ble_eq_true rfl) (Nat.le_of_ble_eq_true rfl) (() : Unit) trivial hG
def isVal (w x : Int) : Prop := w = 0 ∧ 1000 ≤ x ∧ x ≤ 4000 ∨ w = 1 ∧ 1 ≤ x ∧ x ≤ 999 ∨ w = 2 ∧ 0 ≤ x ∧ x ≤ 99
theorem c_X8_checkLayerValue (l : Launch) (K : KC) (y : Int) (x : Int) (hv : -2147483648 ≤ y ∧ y < 2147483648) (hx : -2147483648 ≤ x ∧ x < 2147483648) (h0 : isVal y x) : mV l yX8_checkLayerValue wsX8_checkLayerValue 1 22 K [.int (iI y), .int (iI x)] [] (fun (u : Unit) => True) (fun (u : Unit) => []) 0 0 := by
  rcases h0 with ⟨rfl, h⟩ | ⟨rfl, h⟩ | ⟨rfl, h⟩
  · exact c_checkLayerValue0 l K x hx h
  · exact c_checkLayerValue1 l K x hx h
  · exact c_checkLayerValue2 l K x hx h
set_option maxHeartbeats 1000000 in
set_option maxRecDepth 100000 in
theorem c_X8_runOf (l : Launch) (K : KC) (ad : Nat → Nat) (s2 : Nat) (la : Nat) (lb : Nat) (sa : Nat) (sb : Nat) (ou : Int) (mi : Int) (bo : Int) (ln : Int) (LF : Int → Int) (sn : Int) (SF : Int → Int) (N : Int → Int) (rs : Nat) (rv : RU) (XF : Int → Int) (y : Int) (hS : ScOk N ou mi bo ln LF sn SF) (hN : NOk0 N) (hs : 0 ≤ y ∧ y < N 4) : mG l yX8_runOf wsX8_runOf 4 94 K [.ref (ad 0), .ref s2, .int (iI y)] [gRLC K ad, gScn K s2 la lb sa sb ou mi bo ln LF sn SF, gRayU K (ad 7) (ad 23) (ad 24) (ad 25) (ad 26) rs rv XF] (fun (v : Value) (u : RU × (Int → Int)) => (v = .ref (ad 7)) ∧ (ResU N (sP N y) (sY N y) (sD N y) u.1)) (fun (u : RU × (Int → Int)) => [gRLC K ad, gScn K s2 la lb sa sb ou mi bo ln LF sn SF, gRayU K (ad 7) (ad 23) (ad 24) (ad 25) (ad 26) s2 u.1 u.2]) 0 0 := by
  refine mG_of cX8_runOf 4 (by decide) rfl (Nat.le_of_ble_eq_true rfl) ?_
  intro p e s m below meth c A ls Q S C hG hl hr hlk hin hQ
  have S : CallFix p m c cX8_runOf 4 s ([.ref (ad 0), .ref s2, .int (iI y)] : List Value).toArray wsX8_runOf RX8 := S
  have iX50 : ∀ w ∈ wsX50, w ∈ wsX8_runOf := fun _ h => List.mem_cons_of_mem _ (List.mem_append_left _ (List.mem_append_left _ (List.mem_append_left _ (List.mem_append_right _ (h)))))
  have iX80 : ∀ w ∈ wsX80, w ∈ wsX8_runOf := fun _ h => List.mem_cons_of_mem _ (List.mem_append_left _ (List.mem_append_left _ (List.mem_append_right _ (h))))
  have iX40 : ∀ w ∈ wsX40, w ∈ wsX8_runOf := fun _ h => List.mem_cons_of_mem _ (List.mem_append_left _ (List.mem_append_right _ (h)))
  have iX70 : ∀ w ∈ wsX70, w ∈ wsX8_runOf := fun _ h => List.mem_cons_of_mem _ (List.mem_append_right _ (h))
  have hl : lv_has ls 4 [(0, .ref (ad 0)), (1, .ref s2), (2, .int (iI y))] := hl
  have hG : gW K A s.heap [gRLC K ad, gScn K s2 la lb sa sb ou mi bo ln LF sn SF, gRayU K (ad 7) (ad 23) (ad 24) (ad 25) (ad 26) rs rv XF] s.heap [] := hG
  obtain ⟨e0, e1, e2, e3, e4, e5, e6⟩ := id hS
  have n0 := hN.1
  have n3 := hN.2.2.2.1
  have sb0 := sho_bd hN hs.1 hs.2
  refine lv_aload_n S.1 S.2.1 dX8_runOf_0 rfl (lv_at hl 1 rfl) ?_
  refine g_get S C hG iX50 1 rfl rfl 1 (by decide) (List.mem_of_getElem? (i := 1) rfl) rfl dX8_runOf_1 ?_
  refine lv_astore_n (lv' := [(3, .ref sa), (0, .ref (ad 0)), (1, .ref s2), (2, .int (iI y))]) S.1 S.2.1 dX8_runOf_4 rfl hl (by decide) rfl (fun ls hl => ?_)
  refine lv_aload_n S.1 S.2.1 dX8_runOf_5 rfl (lv_at hl 1 rfl) ?_
  refine g_get S C hG iX80 0 rfl rfl 6 (by decide) (List.mem_of_getElem? (i := 2) rfl) rfl dX8_runOf_6 ?_
  refine lv_aload_n S.1 S.2.1 dX8_runOf_9 rfl (lv_at hl 2 rfl) ?_
  refine g_invVv (As := [.ref s2]) (rest := []) (gs' := (fun u : (Int → Int) => [gRLC K ad, gScn K s2 la lb sa sb ou mi bo ln LF sn SF, gRayU K (ad 7) (ad 23) (ad 24) (ad 25) (ad 26) s2 rv u])) S C hG [2, 1] (c_X4_enterU l K (ad 7) (ad 23) (ad 24) (ad 25) (ad 26) rs rv XF s2 la lb sa sb ou mi bo ln LF sn SF N hS hN) rfl rfl 0 rfl rfl (cwV 1 S.2.2.2.2 gX8_runOf_X4_enter rfl rfl rfl (by decide +kernel) ⟨Nat.le_of_ble_eq_true rfl, Nat.le_of_ble_eq_true rfl⟩) rfl hl.1 rfl (Nat.le_of_ble_eq_true rfl) dX8_runOf_10 ⟨Nat.le_of_ble_eq_true rfl, Nat.le_of_ble_eq_true rfl⟩ (fun _ => Nat.le_of_ble_eq_true rfl) (fun _ => rfl) (fun u H locs hp hG => ?_)
  obtain ⟨X2_10, rfl⟩ : ∃ z, z = u := ⟨_, rfl⟩
  have hE_10 := hp
  have hE_10 : EntOk N X2_10 := hE_10
  have hG : gW K A s.heap [gRLC K ad, gScn K s2 la lb sa sb ou mi bo ln LF sn SF, gRayU K (ad 7) (ad 23) (ad 24) (ad 25) (ad 26) s2 rv X2_10] _ _ := hG
  refine lv_aload_n S.1 S.2.1 dX8_runOf_13 rfl (lv_at hl 1 rfl) ?_
  refine g_get S C hG iX80 0 rfl rfl 6 (by decide) (List.mem_of_getElem? (i := 2) rfl) rfl dX8_runOf_14 ?_
  refine lv_aload_n S.1 S.2.1 dX8_runOf_17 rfl (lv_at hl 0 rfl) ?_
  refine lv_iload_n S.1 S.2.1 dX8_runOf_18 rfl (lv_at hl 3 rfl) ?_
  refine g_iconst S dX8_runOf_19 ?_
  have hG : gW K A s.heap [gRLC K ad, gScC K s2 la sa ou mi bo, gTabC K la lb ln, gArr K 60 lb LF, gTab K sa sb sn SF, gRayU K (ad 7) (ad 23) (ad 24) (ad 25) (ad 26) s2 rv X2_10] _ _ := hG
  refine g_invV (As := [.int (iI y), .int (iI 0)]) (rest := [.ref (ad 7)]) (gs' := (fun u : Unit => [gRLC K ad, gScC K s2 la sa ou mi bo, gTabC K la lb ln, gArr K 60 lb LF, gTab K sa sb sn SF, gRayU K (ad 7) (ad 23) (ad 24) (ad 25) (ad 26) s2 rv X2_10])) S C hG [4] (c_X7_get l K sa sb sn SF y 0 (by omega) (by omega)) rfl rfl 0 rfl rfl (cwV 2 S.2.2.2.2 gX8_runOf_X7_get rfl rfl rfl (by decide +kernel) ⟨Nat.le_of_ble_eq_true rfl, Nat.le_of_ble_eq_true rfl⟩) rfl hl.1 rfl (Nat.le_of_ble_eq_true rfl) dX8_runOf_20 ⟨Nat.le_of_ble_eq_true rfl, Nat.le_of_ble_eq_true rfl⟩ (fun _ => Nat.le_of_ble_eq_true rfl) (fun _ => rfl) (fun v u H locs hp hG => ?_)
  subst hp
  refine g_top (w := .int (iI (sY N y))) (congrArg (fun z : Int => Value.int (iI z)) ((e6 y 0 hs.1 (by omega) (by decide) (by decide)))) ?_
  refine lv_aload_n S.1 S.2.1 dX8_runOf_23 rfl (lv_at hl 0 rfl) ?_
  refine lv_iload_n S.1 S.2.1 dX8_runOf_24 rfl (lv_at hl 3 rfl) ?_
  refine g_iconst S dX8_runOf_25 ?_
  refine g_invV (As := [.int (iI y), .int (iI 1)]) (rest := [.int (iI (sY N y)), .ref (ad 7)]) (gs' := (fun u : Unit => [gRLC K ad, gScC K s2 la sa ou mi bo, gTabC K la lb ln, gArr K 60 lb LF, gTab K sa sb sn SF, gRayU K (ad 7) (ad 23) (ad 24) (ad 25) (ad 26) s2 rv X2_10])) S C hG [4] (c_X7_get l K sa sb sn SF y 1 (by omega) (by omega)) rfl rfl 0 rfl rfl (cwV 2 S.2.2.2.2 gX8_runOf_X7_get rfl rfl rfl (by decide +kernel) ⟨Nat.le_of_ble_eq_true rfl, Nat.le_of_ble_eq_true rfl⟩) rfl hl.1 rfl (Nat.le_of_ble_eq_true rfl) dX8_runOf_26 ⟨Nat.le_of_ble_eq_true rfl, Nat.le_of_ble_eq_true rfl⟩ (fun _ => Nat.le_of_ble_eq_true rfl) (fun _ => rfl) (fun v u H locs hp hG => ?_)
  subst hp
  refine g_top (w := .int (iI (sD N y))) (congrArg (fun z : Int => Value.int (iI z)) ((e6 y 1 hs.1 (by omega) (by decide) (by decide)))) ?_
  refine g_iconst S dX8_runOf_29 ?_
  refine g_icmp_ne (tgt := 37) S dX8_runOf_30 (by decide) (by omega) (by omega) (fun q30 => ?_) (fun q30 => ?_)
  · skip
    refine g_iconst S dX8_runOf_37 ?_
    refine g_top (w := .int (iI (sD N y))) (congrArg (fun z : Int => Value.int (iI z)) ((by omega))) ?_
    refine lv_aload_n S.1 S.2.1 dX8_runOf_38 rfl (lv_at hl 0 rfl) ?_
    refine lv_iload_n S.1 S.2.1 dX8_runOf_39 rfl (lv_at hl 3 rfl) ?_
    refine g_iconst S dX8_runOf_40 ?_
    refine g_invV (As := [.int (iI y), .int (iI 2)]) (rest := [.int (iI (sD N y)), .int (iI (sY N y)), .ref (ad 7)]) (gs' := (fun u : Unit => [gRLC K ad, gScC K s2 la sa ou mi bo, gTabC K la lb ln, gArr K 60 lb LF, gTab K sa sb sn SF, gRayU K (ad 7) (ad 23) (ad 24) (ad 25) (ad 26) s2 rv X2_10])) S C hG [4] (c_X7_get l K sa sb sn SF y 2 (by omega) (by omega)) rfl rfl 0 rfl rfl (cwV 2 S.2.2.2.2 gX8_runOf_X7_get rfl rfl rfl (by decide +kernel) ⟨Nat.le_of_ble_eq_true rfl, Nat.le_of_ble_eq_true rfl⟩) rfl hl.1 rfl (Nat.le_of_ble_eq_true rfl) dX8_runOf_41 ⟨Nat.le_of_ble_eq_true rfl, Nat.le_of_ble_eq_true rfl⟩ (fun _ => Nat.le_of_ble_eq_true rfl) (fun _ => rfl) (fun v u H locs hp hG => ?_)
    subst hp
    refine g_top (w := .int (iI (sP N y))) (congrArg (fun z : Int => Value.int (iI z)) ((e6 y 2 hs.1 (by omega) (by decide) (by decide)))) ?_
    have hG : gW K A s.heap [gRLC K ad, gScn K s2 la lb sa sb ou mi bo ln LF sn SF, gRayU K (ad 7) (ad 23) (ad 24) (ad 25) (ad 26) s2 rv X2_10] _ _ := hG
    refine g_invVv (As := [.int (iI (sY N y)), .int (iI (sD N y)), .int (iI (sP N y))]) (rest := []) (gs' := (fun u : RU => [gRLC K ad, gScn K s2 la lb sa sb ou mi bo ln LF sn SF, gRayU K (ad 7) (ad 23) (ad 24) (ad 25) (ad 26) s2 u X2_10])) S C hG [2, 1] (c_X4_runU l K (ad 7) (ad 23) (ad 24) (ad 25) (ad 26) s2 rv X2_10 la lb sa sb ou mi bo ln LF sn SF N (sY N y) (sD N y) (sP N y) hS hN hE_10 (by omega) (by omega) (by omega)) rfl rfl 0 rfl rfl (cwV 3 S.2.2.2.2 gX8_runOf_X4_run rfl rfl rfl (by decide +kernel) ⟨Nat.le_of_ble_eq_true rfl, Nat.le_of_ble_eq_true rfl⟩) rfl hl.1 rfl (Nat.le_of_ble_eq_true rfl) dX8_runOf_44 ⟨Nat.le_of_ble_eq_true rfl, Nat.le_of_ble_eq_true rfl⟩ (fun _ => Nat.le_of_ble_eq_true rfl) (fun _ => rfl) (fun u H locs hp hG => ?_)
    obtain ⟨rv2_44, rfl⟩ : ∃ z, z = u := ⟨_, rfl⟩
    have hr_44 := hp
    have hr_44 : ResU N (sP N y) (sY N y) (sD N y) rv2_44 := hr_44
    have hG : gW K A s.heap [gRLC K ad, gScn K s2 la lb sa sb ou mi bo ln LF sn SF, gRayU K (ad 7) (ad 23) (ad 24) (ad 25) (ad 26) s2 rv2_44 X2_10] _ _ := hG
    refine lv_aload_n S.1 S.2.1 dX8_runOf_47 rfl (lv_at hl 1 rfl) ?_
    refine g_get S C hG iX80 0 rfl rfl 6 (by decide) (List.mem_of_getElem? (i := 2) rfl) rfl dX8_runOf_48 ?_
    have hG : gW K A s.heap [gRLC K ad, gScn K s2 la lb sa sb ou mi bo ln LF sn SF, gRayU K (ad 7) (ad 23) (ad 24) (ad 25) (ad 26) s2 rv2_44 X2_10] _ _ := hG
    exact g_aret S hr hlk hQ (Or.inr ⟨_, rfl⟩) dX8_runOf_51 (Nat.le_of_ble_eq_true rfl) (Nat.le_of_ble_eq_true rfl) ((rv2_44, X2_10) : RU × (Int → Int)) ⟨rfl, hr_44⟩ hG
  · skip
    refine g_iconst S dX8_runOf_33 ?_
    refine g_top (w := .int (iI (sD N y))) (congrArg (fun z : Int => Value.int (iI z)) ((by omega))) ?_
    refine lv_goto (tgt := 38) S.1 S.2.1 dX8_runOf_34 (by decide) ?_
    refine lv_aload_n S.1 S.2.1 dX8_runOf_38 rfl (lv_at hl 0 rfl) ?_
    refine lv_iload_n S.1 S.2.1 dX8_runOf_39 rfl (lv_at hl 3 rfl) ?_
    refine g_iconst S dX8_runOf_40 ?_
    refine g_invV (As := [.int (iI y), .int (iI 2)]) (rest := [.int (iI (sD N y)), .int (iI (sY N y)), .ref (ad 7)]) (gs' := (fun u : Unit => [gRLC K ad, gScC K s2 la sa ou mi bo, gTabC K la lb ln, gArr K 60 lb LF, gTab K sa sb sn SF, gRayU K (ad 7) (ad 23) (ad 24) (ad 25) (ad 26) s2 rv X2_10])) S C hG [4] (c_X7_get l K sa sb sn SF y 2 (by omega) (by omega)) rfl rfl 0 rfl rfl (cwV 2 S.2.2.2.2 gX8_runOf_X7_get rfl rfl rfl (by decide +kernel) ⟨Nat.le_of_ble_eq_true rfl, Nat.le_of_ble_eq_true rfl⟩) rfl hl.1 rfl (Nat.le_of_ble_eq_true rfl) dX8_runOf_41 ⟨Nat.le_of_ble_eq_true rfl, Nat.le_of_ble_eq_true rfl⟩ (fun _ => Nat.le_of_ble_eq_true rfl) (fun _ => rfl) (fun v u H locs hp hG => ?_)
    subst hp
    refine g_top (w := .int (iI (sP N y))) (congrArg (fun z : Int => Value.int (iI z)) ((e6 y 2 hs.1 (by omega) (by decide) (by decide)))) ?_
    have hG : gW K A s.heap [gRLC K ad, gScn K s2 la lb sa sb ou mi bo ln LF sn SF, gRayU K (ad 7) (ad 23) (ad 24) (ad 25) (ad 26) s2 rv X2_10] _ _ := hG
    refine g_invVv (As := [.int (iI (sY N y)), .int (iI (sD N y)), .int (iI (sP N y))]) (rest := []) (gs' := (fun u : RU => [gRLC K ad, gScn K s2 la lb sa sb ou mi bo ln LF sn SF, gRayU K (ad 7) (ad 23) (ad 24) (ad 25) (ad 26) s2 u X2_10])) S C hG [2, 1] (c_X4_runU l K (ad 7) (ad 23) (ad 24) (ad 25) (ad 26) s2 rv X2_10 la lb sa sb ou mi bo ln LF sn SF N (sY N y) (sD N y) (sP N y) hS hN hE_10 (by omega) (by omega) (by omega)) rfl rfl 0 rfl rfl (cwV 3 S.2.2.2.2 gX8_runOf_X4_run rfl rfl rfl (by decide +kernel) ⟨Nat.le_of_ble_eq_true rfl, Nat.le_of_ble_eq_true rfl⟩) rfl hl.1 rfl (Nat.le_of_ble_eq_true rfl) dX8_runOf_44 ⟨Nat.le_of_ble_eq_true rfl, Nat.le_of_ble_eq_true rfl⟩ (fun _ => Nat.le_of_ble_eq_true rfl) (fun _ => rfl) (fun u H locs hp hG => ?_)
    obtain ⟨rv2_44, rfl⟩ : ∃ z, z = u := ⟨_, rfl⟩
    have hr_44 := hp
    have hr_44 : ResU N (sP N y) (sY N y) (sD N y) rv2_44 := hr_44
    have hG : gW K A s.heap [gRLC K ad, gScn K s2 la lb sa sb ou mi bo ln LF sn SF, gRayU K (ad 7) (ad 23) (ad 24) (ad 25) (ad 26) s2 rv2_44 X2_10] _ _ := hG
    refine lv_aload_n S.1 S.2.1 dX8_runOf_47 rfl (lv_at hl 1 rfl) ?_
    refine g_get S C hG iX80 0 rfl rfl 6 (by decide) (List.mem_of_getElem? (i := 2) rfl) rfl dX8_runOf_48 ?_
    have hG : gW K A s.heap [gRLC K ad, gScn K s2 la lb sa sb ou mi bo ln LF sn SF, gRayU K (ad 7) (ad 23) (ad 24) (ad 25) (ad 26) s2 rv2_44 X2_10] _ _ := hG
    exact g_aret S hr hlk hQ (Or.inr ⟨_, rfl⟩) dX8_runOf_51 (Nat.le_of_ble_eq_true rfl) (Nat.le_of_ble_eq_true rfl) ((rv2_44, X2_10) : RU × (Int → Int)) ⟨rfl, hr_44⟩ hG
set_option maxHeartbeats 1000000 in
set_option maxRecDepth 100000 in
theorem c_X8_pathOf (l : Launch) (K : KC) (ad : Nat → Nat) (ou : Int) (mi : Int) (bo : Int) (ln : Int) (LF : Int → Int) (sn : Int) (SF : Int → Int) (N : Int → Int) (pa : Nat) (nb : Nat) (rp : Nat) (r0 : Nat) (r1 : Nat) (r2 : Nat) (r3 : Nat) (r4 : Nat) (r5 : Nat) (r6 : Nat) (xa : Nat) (sha : Nat) (lea : Nat) (tma : Nat) (pv : PV) (ps : Nat) (pr : RU) (pX : Int → Int) (y : Int) (hS : ScOk N ou mi bo ln LF sn SF) (hN : NOk0 N) (hs : 0 ≤ y ∧ y < N 4) : mG l yX8_pathOf wsX8_pathOf 4 96 K [.ref (ad 0), .ref pa, .int (iI y)] [gRLC K ad, gPthV K pa nb rp r0 r1 r2 r3 r4 r5 r6 pv, gRayU K rp xa sha lea tma ps pr pX, gScn K (ad 3) (ad 14) (ad 15) (ad 16) (ad 17) ou mi bo ln LF sn SF] (fun (v : Value) (u : PV × RU × (Int → Int)) => (v = .ref pa) ∧ (PthR N (sP N y) (sY N y) (sD N y) u.1)) (fun (u : PV × RU × (Int → Int)) => [gRLC K ad, gPthV K pa nb rp r0 r1 r2 r3 r4 r5 r6 u.1, gRayU K rp xa sha lea tma (ad 3) u.2.1 u.2.2, gScn K (ad 3) (ad 14) (ad 15) (ad 16) (ad 17) ou mi bo ln LF sn SF]) 0 0 := by
  refine mG_of cX8_pathOf 4 (by decide) rfl (Nat.le_of_ble_eq_true rfl) ?_
  intro p e s m below meth c A ls Q S C hG hl hr hlk hin hQ
  have S : CallFix p m c cX8_pathOf 4 s ([.ref (ad 0), .ref pa, .int (iI y)] : List Value).toArray wsX8_pathOf RX8 := S
  have iX80 : ∀ w ∈ wsX80, w ∈ wsX8_pathOf := fun _ h => List.mem_cons_of_mem _ (List.mem_append_left _ (List.mem_append_left _ (List.mem_append_left _ (List.mem_append_left _ (List.mem_append_right _ (h))))))
  have iX50 : ∀ w ∈ wsX50, w ∈ wsX8_pathOf := fun _ h => List.mem_cons_of_mem _ (List.mem_append_left _ (List.mem_append_left _ (List.mem_append_left _ (List.mem_append_right _ (h)))))
  have iX70 : ∀ w ∈ wsX70, w ∈ wsX8_pathOf := fun _ h => List.mem_cons_of_mem _ (List.mem_append_left _ (List.mem_append_left _ (List.mem_append_right _ (h))))
  have iX30 : ∀ w ∈ wsX30, w ∈ wsX8_pathOf := fun _ h => List.mem_cons_of_mem _ (List.mem_append_left _ (List.mem_append_right _ (h)))
  have iX40 : ∀ w ∈ wsX40, w ∈ wsX8_pathOf := fun _ h => List.mem_cons_of_mem _ (List.mem_append_right _ (h))
  have hl : lv_has ls 4 [(0, .ref (ad 0)), (1, .ref pa), (2, .int (iI y))] := hl
  have hG : gW K A s.heap [gRLC K ad, gPthV K pa nb rp r0 r1 r2 r3 r4 r5 r6 pv, gRayU K rp xa sha lea tma ps pr pX, gScn K (ad 3) (ad 14) (ad 15) (ad 16) (ad 17) ou mi bo ln LF sn SF] s.heap [] := hG
  obtain ⟨e0, e1, e2, e3, e4, e5, e6⟩ := id hS
  have n0 := hN.1
  have n3 := hN.2.2.2.1
  have sb0 := sho_bd hN hs.1 hs.2
  refine lv_aload_n S.1 S.2.1 dX8_pathOf_0 rfl (lv_at hl 0 rfl) ?_
  refine g_get S C hG iX80 0 rfl rfl 2 (by decide) (List.mem_of_getElem? (i := 1) rfl) rfl dX8_pathOf_1 ?_
  refine g_get S C hG iX50 15 rfl rfl 1 (by decide) (List.mem_of_getElem? (i := 2) rfl) rfl dX8_pathOf_4 ?_
  refine lv_astore_n (lv' := [(3, .ref (ad 16)), (0, .ref (ad 0)), (1, .ref pa), (2, .int (iI y))]) S.1 S.2.1 dX8_pathOf_7 rfl hl (by decide) rfl (fun ls hl => ?_)
  refine lv_aload_n S.1 S.2.1 dX8_pathOf_8 rfl (lv_at hl 2 rfl) ?_
  refine lv_aload_n S.1 S.2.1 dX8_pathOf_9 rfl (lv_at hl 1 rfl) ?_
  refine g_get S C hG iX80 0 rfl rfl 2 (by decide) (List.mem_of_getElem? (i := 1) rfl) rfl dX8_pathOf_10 ?_
  refine lv_aload_n S.1 S.2.1 dX8_pathOf_13 rfl (lv_at hl 0 rfl) ?_
  refine lv_iload_n S.1 S.2.1 dX8_pathOf_14 rfl (lv_at hl 3 rfl) ?_
  refine g_iconst S dX8_pathOf_15 ?_
  have hG : gW K A s.heap [gRLC K ad, gPthV K pa nb rp r0 r1 r2 r3 r4 r5 r6 pv, gRayU K rp xa sha lea tma ps pr pX, gScC K (ad 3) (ad 14) (ad 16) ou mi bo, gTabC K (ad 14) (ad 15) ln, gArr K 60 (ad 15) LF, gTab K (ad 16) (ad 17) sn SF] _ _ := hG
  refine g_invV (As := [.int (iI y), .int (iI 0)]) (rest := [.ref (ad 3), .ref pa]) (gs' := (fun u : Unit => [gRLC K ad, gPthV K pa nb rp r0 r1 r2 r3 r4 r5 r6 pv, gRayU K rp xa sha lea tma ps pr pX, gScC K (ad 3) (ad 14) (ad 16) ou mi bo, gTabC K (ad 14) (ad 15) ln, gArr K 60 (ad 15) LF, gTab K (ad 16) (ad 17) sn SF])) S C hG [6] (c_X7_get l K (ad 16) (ad 17) sn SF y 0 (by omega) (by omega)) rfl rfl 0 rfl rfl (cwV 2 S.2.2.2.2 gX8_pathOf_X7_get rfl rfl rfl (by decide +kernel) ⟨Nat.le_of_ble_eq_true rfl, Nat.le_of_ble_eq_true rfl⟩) rfl hl.1 rfl (Nat.le_of_ble_eq_true rfl) dX8_pathOf_16 ⟨Nat.le_of_ble_eq_true rfl, Nat.le_of_ble_eq_true rfl⟩ (fun _ => Nat.le_of_ble_eq_true rfl) (fun _ => rfl) (fun v u H locs hp hG => ?_)
  subst hp
  refine g_top (w := .int (iI (sY N y))) (congrArg (fun z : Int => Value.int (iI z)) ((e6 y 0 hs.1 (by omega) (by decide) (by decide)))) ?_
  refine lv_aload_n S.1 S.2.1 dX8_pathOf_19 rfl (lv_at hl 0 rfl) ?_
  refine lv_iload_n S.1 S.2.1 dX8_pathOf_20 rfl (lv_at hl 3 rfl) ?_
  refine g_iconst S dX8_pathOf_21 ?_
  refine g_invV (As := [.int (iI y), .int (iI 1)]) (rest := [.int (iI (sY N y)), .ref (ad 3), .ref pa]) (gs' := (fun u : Unit => [gRLC K ad, gPthV K pa nb rp r0 r1 r2 r3 r4 r5 r6 pv, gRayU K rp xa sha lea tma ps pr pX, gScC K (ad 3) (ad 14) (ad 16) ou mi bo, gTabC K (ad 14) (ad 15) ln, gArr K 60 (ad 15) LF, gTab K (ad 16) (ad 17) sn SF])) S C hG [6] (c_X7_get l K (ad 16) (ad 17) sn SF y 1 (by omega) (by omega)) rfl rfl 0 rfl rfl (cwV 2 S.2.2.2.2 gX8_pathOf_X7_get rfl rfl rfl (by decide +kernel) ⟨Nat.le_of_ble_eq_true rfl, Nat.le_of_ble_eq_true rfl⟩) rfl hl.1 rfl (Nat.le_of_ble_eq_true rfl) dX8_pathOf_22 ⟨Nat.le_of_ble_eq_true rfl, Nat.le_of_ble_eq_true rfl⟩ (fun _ => Nat.le_of_ble_eq_true rfl) (fun _ => rfl) (fun v u H locs hp hG => ?_)
  subst hp
  refine g_top (w := .int (iI (sD N y))) (congrArg (fun z : Int => Value.int (iI z)) ((e6 y 1 hs.1 (by omega) (by decide) (by decide)))) ?_
  refine g_iconst S dX8_pathOf_25 ?_
  refine g_icmp_ne (tgt := 33) S dX8_pathOf_26 (by decide) (by omega) (by omega) (fun q26 => ?_) (fun q26 => ?_)
  · skip
    refine g_iconst S dX8_pathOf_33 ?_
    refine g_top (w := .int (iI (sD N y))) (congrArg (fun z : Int => Value.int (iI z)) ((by omega))) ?_
    refine lv_aload_n S.1 S.2.1 dX8_pathOf_34 rfl (lv_at hl 0 rfl) ?_
    refine lv_iload_n S.1 S.2.1 dX8_pathOf_35 rfl (lv_at hl 3 rfl) ?_
    refine g_iconst S dX8_pathOf_36 ?_
    refine g_invV (As := [.int (iI y), .int (iI 2)]) (rest := [.int (iI (sD N y)), .int (iI (sY N y)), .ref (ad 3), .ref pa]) (gs' := (fun u : Unit => [gRLC K ad, gPthV K pa nb rp r0 r1 r2 r3 r4 r5 r6 pv, gRayU K rp xa sha lea tma ps pr pX, gScC K (ad 3) (ad 14) (ad 16) ou mi bo, gTabC K (ad 14) (ad 15) ln, gArr K 60 (ad 15) LF, gTab K (ad 16) (ad 17) sn SF])) S C hG [6] (c_X7_get l K (ad 16) (ad 17) sn SF y 2 (by omega) (by omega)) rfl rfl 0 rfl rfl (cwV 2 S.2.2.2.2 gX8_pathOf_X7_get rfl rfl rfl (by decide +kernel) ⟨Nat.le_of_ble_eq_true rfl, Nat.le_of_ble_eq_true rfl⟩) rfl hl.1 rfl (Nat.le_of_ble_eq_true rfl) dX8_pathOf_37 ⟨Nat.le_of_ble_eq_true rfl, Nat.le_of_ble_eq_true rfl⟩ (fun _ => Nat.le_of_ble_eq_true rfl) (fun _ => rfl) (fun v u H locs hp hG => ?_)
    subst hp
    refine g_top (w := .int (iI (sP N y))) (congrArg (fun z : Int => Value.int (iI z)) ((e6 y 2 hs.1 (by omega) (by decide) (by decide)))) ?_
    have hG : gW K A s.heap [gRLC K ad, gPthV K pa nb rp r0 r1 r2 r3 r4 r5 r6 pv, gRayU K rp xa sha lea tma ps pr pX, gScn K (ad 3) (ad 14) (ad 15) (ad 16) (ad 17) ou mi bo ln LF sn SF] _ _ := hG
    refine g_invVv (As := [.ref (ad 3), .int (iI (sY N y)), .int (iI (sD N y)), .int (iI (sP N y))]) (rest := []) (gs' := (fun u : PV × RU × (Int → Int) => [gRLC K ad, gPthV K pa nb rp r0 r1 r2 r3 r4 r5 r6 u.1, gRayU K rp xa sha lea tma (ad 3) u.2.1 u.2.2, gScn K (ad 3) (ad 14) (ad 15) (ad 16) (ad 17) ou mi bo ln LF sn SF])) S C hG [1, 2, 3] (c_X3_traceV l K pa nb rp r0 r1 r2 r3 r4 r5 r6 pv xa sha lea tma ps pr pX (ad 3) (ad 14) (ad 15) (ad 16) (ad 17) ou mi bo ln LF sn SF N (sY N y) (sD N y) (sP N y) hS hN (by omega) (by omega) (by omega)) rfl rfl 0 rfl rfl (cwV 4 S.2.2.2.2 gX8_pathOf_X3_trace rfl rfl rfl (by decide +kernel) ⟨Nat.le_of_ble_eq_true rfl, Nat.le_of_ble_eq_true rfl⟩) rfl hl.1 rfl (Nat.le_of_ble_eq_true rfl) dX8_pathOf_40 ⟨Nat.le_of_ble_eq_true rfl, Nat.le_of_ble_eq_true rfl⟩ (fun _ => Nat.le_of_ble_eq_true rfl) (fun _ => rfl) (fun u H locs hp hG => ?_)
    obtain ⟨pv2_40, rv2_40, X2_40⟩ := u
    have hp_40 := hp
    have hp_40 : PthR N (sP N y) (sY N y) (sD N y) pv2_40 := hp_40
    have hG : gW K A s.heap [gRLC K ad, gPthV K pa nb rp r0 r1 r2 r3 r4 r5 r6 pv2_40, gRayU K rp xa sha lea tma (ad 3) rv2_40 X2_40, gScn K (ad 3) (ad 14) (ad 15) (ad 16) (ad 17) ou mi bo ln LF sn SF] _ _ := hG
    refine lv_aload_n S.1 S.2.1 dX8_pathOf_43 rfl (lv_at hl 2 rfl) ?_
    have hG : gW K A s.heap [gRLC K ad, gPthV K pa nb rp r0 r1 r2 r3 r4 r5 r6 pv2_40, gRayU K rp xa sha lea tma (ad 3) rv2_40 X2_40, gScn K (ad 3) (ad 14) (ad 15) (ad 16) (ad 17) ou mi bo ln LF sn SF] _ _ := hG
    exact g_aret S hr hlk hQ (Or.inr ⟨_, rfl⟩) dX8_pathOf_44 (Nat.le_of_ble_eq_true rfl) (Nat.le_of_ble_eq_true rfl) ((pv2_40, rv2_40, X2_40) : PV × RU × (Int → Int)) ⟨rfl, hp_40⟩ hG
  · skip
    refine g_iconst S dX8_pathOf_29 ?_
    refine g_top (w := .int (iI (sD N y))) (congrArg (fun z : Int => Value.int (iI z)) ((by omega))) ?_
    refine lv_goto (tgt := 34) S.1 S.2.1 dX8_pathOf_30 (by decide) ?_
    refine lv_aload_n S.1 S.2.1 dX8_pathOf_34 rfl (lv_at hl 0 rfl) ?_
    refine lv_iload_n S.1 S.2.1 dX8_pathOf_35 rfl (lv_at hl 3 rfl) ?_
    refine g_iconst S dX8_pathOf_36 ?_
    refine g_invV (As := [.int (iI y), .int (iI 2)]) (rest := [.int (iI (sD N y)), .int (iI (sY N y)), .ref (ad 3), .ref pa]) (gs' := (fun u : Unit => [gRLC K ad, gPthV K pa nb rp r0 r1 r2 r3 r4 r5 r6 pv, gRayU K rp xa sha lea tma ps pr pX, gScC K (ad 3) (ad 14) (ad 16) ou mi bo, gTabC K (ad 14) (ad 15) ln, gArr K 60 (ad 15) LF, gTab K (ad 16) (ad 17) sn SF])) S C hG [6] (c_X7_get l K (ad 16) (ad 17) sn SF y 2 (by omega) (by omega)) rfl rfl 0 rfl rfl (cwV 2 S.2.2.2.2 gX8_pathOf_X7_get rfl rfl rfl (by decide +kernel) ⟨Nat.le_of_ble_eq_true rfl, Nat.le_of_ble_eq_true rfl⟩) rfl hl.1 rfl (Nat.le_of_ble_eq_true rfl) dX8_pathOf_37 ⟨Nat.le_of_ble_eq_true rfl, Nat.le_of_ble_eq_true rfl⟩ (fun _ => Nat.le_of_ble_eq_true rfl) (fun _ => rfl) (fun v u H locs hp hG => ?_)
    subst hp
    refine g_top (w := .int (iI (sP N y))) (congrArg (fun z : Int => Value.int (iI z)) ((e6 y 2 hs.1 (by omega) (by decide) (by decide)))) ?_
    have hG : gW K A s.heap [gRLC K ad, gPthV K pa nb rp r0 r1 r2 r3 r4 r5 r6 pv, gRayU K rp xa sha lea tma ps pr pX, gScn K (ad 3) (ad 14) (ad 15) (ad 16) (ad 17) ou mi bo ln LF sn SF] _ _ := hG
    refine g_invVv (As := [.ref (ad 3), .int (iI (sY N y)), .int (iI (sD N y)), .int (iI (sP N y))]) (rest := []) (gs' := (fun u : PV × RU × (Int → Int) => [gRLC K ad, gPthV K pa nb rp r0 r1 r2 r3 r4 r5 r6 u.1, gRayU K rp xa sha lea tma (ad 3) u.2.1 u.2.2, gScn K (ad 3) (ad 14) (ad 15) (ad 16) (ad 17) ou mi bo ln LF sn SF])) S C hG [1, 2, 3] (c_X3_traceV l K pa nb rp r0 r1 r2 r3 r4 r5 r6 pv xa sha lea tma ps pr pX (ad 3) (ad 14) (ad 15) (ad 16) (ad 17) ou mi bo ln LF sn SF N (sY N y) (sD N y) (sP N y) hS hN (by omega) (by omega) (by omega)) rfl rfl 0 rfl rfl (cwV 4 S.2.2.2.2 gX8_pathOf_X3_trace rfl rfl rfl (by decide +kernel) ⟨Nat.le_of_ble_eq_true rfl, Nat.le_of_ble_eq_true rfl⟩) rfl hl.1 rfl (Nat.le_of_ble_eq_true rfl) dX8_pathOf_40 ⟨Nat.le_of_ble_eq_true rfl, Nat.le_of_ble_eq_true rfl⟩ (fun _ => Nat.le_of_ble_eq_true rfl) (fun _ => rfl) (fun u H locs hp hG => ?_)
    obtain ⟨pv2_40, rv2_40, X2_40⟩ := u
    have hp_40 := hp
    have hp_40 : PthR N (sP N y) (sY N y) (sD N y) pv2_40 := hp_40
    have hG : gW K A s.heap [gRLC K ad, gPthV K pa nb rp r0 r1 r2 r3 r4 r5 r6 pv2_40, gRayU K rp xa sha lea tma (ad 3) rv2_40 X2_40, gScn K (ad 3) (ad 14) (ad 15) (ad 16) (ad 17) ou mi bo ln LF sn SF] _ _ := hG
    refine lv_aload_n S.1 S.2.1 dX8_pathOf_43 rfl (lv_at hl 2 rfl) ?_
    have hG : gW K A s.heap [gRLC K ad, gPthV K pa nb rp r0 r1 r2 r3 r4 r5 r6 pv2_40, gRayU K rp xa sha lea tma (ad 3) rv2_40 X2_40, gScn K (ad 3) (ad 14) (ad 15) (ad 16) (ad 17) ou mi bo ln LF sn SF] _ _ := hG
    exact g_aret S hr hlk hQ (Or.inr ⟨_, rfl⟩) dX8_pathOf_44 (Nat.le_of_ble_eq_true rfl) (Nat.le_of_ble_eq_true rfl) ((pv2_40, rv2_40, X2_40) : PV × RU × (Int → Int)) ⟨rfl, hp_40⟩ hG
