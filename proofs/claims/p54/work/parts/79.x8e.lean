set_option maxHeartbeats 1000000 in
set_option maxRecDepth 100000 in
theorem c_X8_addLayer (l : Launch) (K : KC) (ad : Nat → Nat) (ou : Int) (mi : Int) (bo : Int) (ln : Int) (LF : Int → Int) (sn : Int) (SF : Int → Int) (N : Int → Int) (nx : Int) (sz : Int) (o : Nat → Option SR) (y : Int) (a1 : Int) (a2 : Int) (a3 : Int) (hS : ScOk N ou mi bo ln LF sn SF) (hN : NOk0 N) (hnx : 0 ≤ nx ∧ nx < 6) (hsz : 0 ≤ sz ∧ sz ≤ 6) (hv : -2147483648 ≤ y ∧ y < 2147483648) (hv1 : -2147483648 ≤ a1 ∧ a1 < 2147483648) (hv2 : -2147483648 ≤ a2 ∧ a2 < 2147483648) (hv3 : -2147483648 ≤ a3 ∧ a3 < 2147483648) (hy : 0 ≤ y ∧ y ≤ N 0) (c1 : 1000 ≤ a1 ∧ a1 ≤ 4000) (c2 : 1 ≤ a2 ∧ a2 ≤ 999) (c3 : 0 ≤ a3 ∧ a3 ≤ 99) (h7 : N 0 < 10) : mG l yX8_addLayer wsX8_addLayer 4 124 K [.ref (ad 0), .int (iI y), .int (iI a1), .int (iI a2), .int (iI a3)] [gRLC K ad, gScn K (ad 3) (ad 14) (ad 15) (ad 16) (ad 17) ou mi bo ln LF sn SF, gHisC K (ad 5) (ad 22) nx sz, gQS K (ad 22) 6 (oP o), gSOs K o (List.range 6)] (fun (v : Value) (u : SR × (Int → Int)) => (v = .int (iI (N 0 + 1))) ∧ (ScR N u.1) ∧ (ScOk (insLN N y a1 a2 a3) ou mi bo (ln + 1) u.2 sn SF)) (fun (u : SR × (Int → Int)) => [gRLC K ad, gScn K (ad 3) (ad 14) (ad 15) (ad 16) (ad 17) ou mi bo (ln + 1) u.2 sn SF, gHisC K (ad 5) (ad 22) ((nx + 1) % 6) (min (sz + 1) 6), gQS K (ad 22) 6 (oP (oup o nx.toNat u.1)), gSOs K (oup o nx.toNat u.1) (List.range 6)]) 5 129 := by
  refine mG_of cX8_addLayer 5 (by decide) rfl (Nat.le_of_ble_eq_true rfl) ?_
  intro p e s m below meth c A ls Q S C hG hl hr hlk hin hQ
  have S : CallFix p m c cX8_addLayer 5 s ([.ref (ad 0), .int (iI y), .int (iI a1), .int (iI a2), .int (iI a3)] : List Value).toArray wsX8_addLayer RX8 := S
  have iX80 : ∀ w ∈ wsX80, w ∈ wsX8_addLayer := fun _ h => List.mem_cons_of_mem _ (List.mem_append_left _ (List.mem_append_left _ (List.mem_append_left _ (List.mem_append_left _ (List.mem_append_left _ (List.mem_append_left _ (List.mem_append_right _ (h))))))))
  have iX50 : ∀ w ∈ wsX50, w ∈ wsX8_addLayer := fun _ h => List.mem_cons_of_mem _ (List.mem_append_left _ (List.mem_append_left _ (List.mem_append_left _ (List.mem_append_left _ (List.mem_append_left _ (List.mem_append_right _ (h)))))))
  have iX70 : ∀ w ∈ wsX70, w ∈ wsX8_addLayer := fun _ h => List.mem_cons_of_mem _ (List.mem_append_left _ (List.mem_append_left _ (List.mem_append_left _ (List.mem_append_left _ (List.mem_append_right _ (h))))))
  have iX10 : ∀ w ∈ wsX10, w ∈ wsX8_addLayer := fun _ h => List.mem_cons_of_mem _ (List.mem_append_left _ (List.mem_append_left _ (List.mem_append_left _ (List.mem_append_right _ (h)))))
  have hl : lv_has ls 5 [(0, .ref (ad 0)), (1, .int (iI y)), (2, .int (iI a1)), (3, .int (iI a2)), (4, .int (iI a3))] := hl
  have hG : gW K A s.heap [gRLC K ad, gScn K (ad 3) (ad 14) (ad 15) (ad 16) (ad 17) ou mi bo ln LF sn SF, gHisC K (ad 5) (ad 22) nx sz, gQS K (ad 22) 6 (oP o), gSOs K o (List.range 6)] s.heap [] := hG
  obtain ⟨e0, e1, e2, e3, e4, e5, e6⟩ := id hS
  have n0 := hN.1
  have n3 := hN.2.2.2.1
  refine lv_iload_n S.1 S.2.1 dX8_addLayer_0 rfl (lv_at hl 1 rfl) ?_
  refine g_if_lt (tgt := 18) S dX8_addLayer_1 (by decide) (by omega) (fun q1 => ?_) (fun q1 => ?_)
  · skip
    omega
  · skip
    refine lv_iload_n S.1 S.2.1 dX8_addLayer_4 rfl (lv_at hl 1 rfl) ?_
    refine lv_aload_n S.1 S.2.1 dX8_addLayer_5 rfl (lv_at hl 0 rfl) ?_
    refine g_get S C hG iX80 0 rfl rfl 2 (by decide) (List.mem_of_getElem? (i := 5) rfl) rfl dX8_addLayer_6 ?_
    refine g_get S C hG iX50 1 rfl rfl 0 (by decide) (List.mem_of_getElem? (i := 6) rfl) rfl dX8_addLayer_9 ?_
    refine g_get S C hG iX70 2 rfl rfl 1 (by decide) (List.mem_of_getElem? (i := 7) rfl) rfl dX8_addLayer_12 ?_
    refine g_icmp_le (tgt := 29) S dX8_addLayer_15 (by decide) (by omega) (by omega) (fun q15 => ?_) (fun q15 => ?_)
    · skip
      refine lv_iload_n S.1 S.2.1 dX8_addLayer_29 rfl (lv_at hl 2 rfl) ?_
      refine g_sipush S dX8_addLayer_30 (by decide) ?_
      refine g_sipush S dX8_addLayer_33 (by decide) ?_
      refine g_invSv (As := [.int (iI a1), .int (iI 1000), .int (iI 4000)]) (rest := []) (gs' := (fun u : Unit => [gRLC K ad, gScn K (ad 3) (ad 14) (ad 15) (ad 16) (ad 17) ou mi bo ln LF sn SF, gHisC K (ad 5) (ad 22) nx sz, gQS K (ad 22) 6 (oP o), gSOs K o (List.range 6)])) S C hG [] (c_X8_checkRange l K a1 1000 4000 hv1 (by omega) (by omega) c1) rfl rfl (va_cwS 3 S.2.2.2.2 gX8_addLayer_X8_checkRange rfl rfl rfl (by decide +kernel) ⟨Nat.le_of_ble_eq_true rfl, Nat.le_of_ble_eq_true rfl⟩) rfl hl.1 rfl (Nat.le_of_ble_eq_true rfl) dX8_addLayer_36 ⟨Nat.le_of_ble_eq_true rfl, Nat.le_of_ble_eq_true rfl⟩ (fun _ => Nat.le_of_ble_eq_true rfl) (fun _ => rfl) (fun u H locs hp hG => ?_)
      refine lv_iload_n S.1 S.2.1 dX8_addLayer_39 rfl (lv_at hl 3 rfl) ?_
      refine g_iconst S dX8_addLayer_40 ?_
      refine g_sipush S dX8_addLayer_41 (by decide) ?_
      refine g_invSv (As := [.int (iI a2), .int (iI 1), .int (iI 999)]) (rest := []) (gs' := (fun u : Unit => [gRLC K ad, gScn K (ad 3) (ad 14) (ad 15) (ad 16) (ad 17) ou mi bo ln LF sn SF, gHisC K (ad 5) (ad 22) nx sz, gQS K (ad 22) 6 (oP o), gSOs K o (List.range 6)])) S C hG [] (c_X8_checkRange l K a2 1 999 hv2 (by omega) (by omega) c2) rfl rfl (va_cwS 3 S.2.2.2.2 gX8_addLayer_X8_checkRange rfl rfl rfl (by decide +kernel) ⟨Nat.le_of_ble_eq_true rfl, Nat.le_of_ble_eq_true rfl⟩) rfl hl.1 rfl (Nat.le_of_ble_eq_true rfl) dX8_addLayer_44 ⟨Nat.le_of_ble_eq_true rfl, Nat.le_of_ble_eq_true rfl⟩ (fun _ => Nat.le_of_ble_eq_true rfl) (fun _ => rfl) (fun u H locs hp hG => ?_)
      refine lv_iload S.1 S.2.1 dX8_addLayer_47 (lv_at hl 4 rfl) ?_
      refine g_iconst S dX8_addLayer_49 ?_
      refine g_bipush S dX8_addLayer_50 (by decide) ?_
      refine g_invSv (As := [.int (iI a3), .int (iI 0), .int (iI 99)]) (rest := []) (gs' := (fun u : Unit => [gRLC K ad, gScn K (ad 3) (ad 14) (ad 15) (ad 16) (ad 17) ou mi bo ln LF sn SF, gHisC K (ad 5) (ad 22) nx sz, gQS K (ad 22) 6 (oP o), gSOs K o (List.range 6)])) S C hG [] (c_X8_checkRange l K a3 0 99 hv3 (by omega) (by omega) c3) rfl rfl (va_cwS 3 S.2.2.2.2 gX8_addLayer_X8_checkRange rfl rfl rfl (by decide +kernel) ⟨Nat.le_of_ble_eq_true rfl, Nat.le_of_ble_eq_true rfl⟩) rfl hl.1 rfl (Nat.le_of_ble_eq_true rfl) dX8_addLayer_52 ⟨Nat.le_of_ble_eq_true rfl, Nat.le_of_ble_eq_true rfl⟩ (fun _ => Nat.le_of_ble_eq_true rfl) (fun _ => rfl) (fun u H locs hp hG => ?_)
      refine lv_aload_n S.1 S.2.1 dX8_addLayer_55 rfl (lv_at hl 0 rfl) ?_
      refine g_get S C hG iX80 0 rfl rfl 2 (by decide) (List.mem_of_getElem? (i := 5) rfl) rfl dX8_addLayer_56 ?_
      refine g_get S C hG iX50 1 rfl rfl 0 (by decide) (List.mem_of_getElem? (i := 6) rfl) rfl dX8_addLayer_59 ?_
      refine g_get S C hG iX70 2 rfl rfl 1 (by decide) (List.mem_of_getElem? (i := 7) rfl) rfl dX8_addLayer_62 ?_
      refine g_bipush S dX8_addLayer_65 (by decide) ?_
      refine g_icmp_lt (tgt := 81) S dX8_addLayer_67 (by decide) (by omega) (by omega) (fun q67 => ?_) (fun q67 => ?_)
      · skip
        refine lv_aload_n S.1 S.2.1 dX8_addLayer_81 rfl (lv_at hl 0 rfl) ?_
        refine g_get S C hG iX80 0 rfl rfl 4 (by decide) (List.mem_of_getElem? (i := 8) rfl) rfl dX8_addLayer_82 ?_
        refine lv_aload_n S.1 S.2.1 dX8_addLayer_85 rfl (lv_at hl 0 rfl) ?_
        refine g_get S C hG iX80 0 rfl rfl 2 (by decide) (List.mem_of_getElem? (i := 5) rfl) rfl dX8_addLayer_86 ?_
        refine g_invVv (As := [.ref (ad 3)]) (rest := []) (gs' := (fun u : SR => [gRLC K ad, gScn K (ad 3) (ad 14) (ad 15) (ad 16) (ad 17) ou mi bo ln LF sn SF, gHisC K (ad 5) (ad 22) ((nx + 1) % 6) (min (sz + 1) 6), gQS K (ad 22) 6 (oP (oup o nx.toNat u)), gSOs K (oup o nx.toNat u) (List.range 6)])) S C hG [2, 3, 1, 4] (c_X1_remember l K (ad 5) (ad 22) nx sz o (ad 3) (ad 14) (ad 15) (ad 16) (ad 17) ou mi bo ln LF sn SF N hnx hsz hS hN) rfl rfl 0 rfl rfl (cwV 1 S.2.2.2.2 gX8_addLayer_X1_remember rfl rfl rfl (by decide +kernel) ⟨Nat.le_of_ble_eq_true rfl, Nat.le_of_ble_eq_true rfl⟩) rfl hl.1 rfl (Nat.le_of_ble_eq_true rfl) dX8_addLayer_89 ⟨Nat.le_of_ble_eq_true rfl, Nat.le_of_ble_eq_true rfl⟩ (fun _ => Nat.le_of_ble_eq_true rfl) (fun _ => rfl) (fun u H locs hp hG => ?_)
        obtain ⟨u9_89, rfl⟩ : ∃ z, z = u := ⟨_, rfl⟩
        have hr_89 := hp
        have hr_89 : ScR N u9_89 := hr_89
        have hG : gW K A s.heap [gRLC K ad, gScn K (ad 3) (ad 14) (ad 15) (ad 16) (ad 17) ou mi bo ln LF sn SF, gHisC K (ad 5) (ad 22) ((nx + 1) % 6) (min (sz + 1) 6), gQS K (ad 22) 6 (oP (oup o nx.toNat u9_89)), gSOs K (oup o nx.toNat u9_89) (List.range 6)] _ _ := hG
        refine lv_aload_n S.1 S.2.1 dX8_addLayer_92 rfl (lv_at hl 0 rfl) ?_
        refine g_get S C hG iX80 0 rfl rfl 2 (by decide) (List.mem_of_getElem? (i := 5) rfl) rfl dX8_addLayer_93 ?_
        refine g_get S C hG iX50 1 rfl rfl 0 (by decide) (List.mem_of_getElem? (i := 6) rfl) rfl dX8_addLayer_96 ?_
        refine lv_iload_n S.1 S.2.1 dX8_addLayer_99 rfl (lv_at hl 1 rfl) ?_
        refine lv_iload_n S.1 S.2.1 dX8_addLayer_100 rfl (lv_at hl 2 rfl) ?_
        refine lv_iload_n S.1 S.2.1 dX8_addLayer_101 rfl (lv_at hl 3 rfl) ?_
        refine lv_iload S.1 S.2.1 dX8_addLayer_102 (lv_at hl 4 rfl) ?_
        have hG : gW K A s.heap [gRLC K ad, gScC K (ad 3) (ad 14) (ad 16) ou mi bo, gTab K (ad 14) (ad 15) ln LF, gTabC K (ad 16) (ad 17) sn, gArr K 60 (ad 17) SF, gHisC K (ad 5) (ad 22) ((nx + 1) % 6) (min (sz + 1) 6), gQS K (ad 22) 6 (oP (oup o nx.toNat u9_89)), gSOs K (oup o nx.toNat u9_89) (List.range 6)] _ _ := hG
        refine g_invVv (As := [.int (iI y), .int (iI a1), .int (iI a2), .int (iI a3)]) (rest := []) (gs' := (fun u : (Int → Int) => [gRLC K ad, gScC K (ad 3) (ad 14) (ad 16) ou mi bo, gTab K (ad 14) (ad 15) (ln + 1) u, gTabC K (ad 16) (ad 17) sn, gArr K 60 (ad 17) SF, gHisC K (ad 5) (ad 22) ((nx + 1) % 6) (min (sz + 1) 6), gQS K (ad 22) 6 (oP (oup o nx.toNat u9_89)), gSOs K (oup o nx.toNat u9_89) (List.range 6)])) S C hG [2] (c_X7_insert l K (ad 14) (ad 15) ln LF y a1 a2 a3 (by omega) (by omega)) rfl rfl 0 rfl rfl (cwV 4 S.2.2.2.2 gX8_addLayer_X7_insert rfl rfl rfl (by decide +kernel) ⟨Nat.le_of_ble_eq_true rfl, Nat.le_of_ble_eq_true rfl⟩) rfl hl.1 rfl (Nat.le_of_ble_eq_true rfl) dX8_addLayer_104 ⟨Nat.le_of_ble_eq_true rfl, Nat.le_of_ble_eq_true rfl⟩ (fun _ => Nat.le_of_ble_eq_true rfl) (fun _ => rfl) (fun u H locs hp hG => ?_)
        obtain ⟨F2_104, rfl⟩ : ∃ z, z = u := ⟨_, rfl⟩
        have hF_104 := hp
        have hF_104 : ∀ r k : Int, 0 ≤ k → k < 3 → F2_104 (r * 3 + k) = if r = y then sel3 k a1 a2 a3 else if y < r ∧ r ≤ ln then LF ((r - 1) * 3 + k) else LF (r * 3 + k) := hF_104
        have hG : gW K A s.heap [gRLC K ad, gScC K (ad 3) (ad 14) (ad 16) ou mi bo, gTab K (ad 14) (ad 15) (ln + 1) F2_104, gTabC K (ad 16) (ad 17) sn, gArr K 60 (ad 17) SF, gHisC K (ad 5) (ad 22) ((nx + 1) % 6) (min (sz + 1) 6), gQS K (ad 22) 6 (oP (oup o nx.toNat u9_89)), gSOs K (oup o nx.toNat u9_89) (List.range 6)] _ _ := hG
        refine lv_aload_n S.1 S.2.1 dX8_addLayer_107 rfl (lv_at hl 0 rfl) ?_
        refine g_get S C hG iX80 0 rfl rfl 2 (by decide) (List.mem_of_getElem? (i := 5) rfl) rfl dX8_addLayer_108 ?_
        refine g_get S C hG iX50 1 rfl rfl 0 (by decide) (List.mem_of_getElem? (i := 6) rfl) rfl dX8_addLayer_111 ?_
        refine g_get S C hG iX70 2 rfl rfl 1 (by decide) (List.mem_of_getElem? (i := 7) rfl) rfl dX8_addLayer_114 ?_
        have hG : gW K A s.heap [gRLC K ad, gScn K (ad 3) (ad 14) (ad 15) (ad 16) (ad 17) ou mi bo (ln + 1) F2_104 sn SF, gHisC K (ad 5) (ad 22) ((nx + 1) % 6) (min (sz + 1) 6), gQS K (ad 22) 6 (oP (oup o nx.toNat u9_89)), gSOs K (oup o nx.toNat u9_89) (List.range 6)] _ _ := hG
        exact g_iret S hr hlk hQ dX8_addLayer_117 (Nat.le_of_ble_eq_true rfl) (Nat.le_of_ble_eq_true rfl) ((u9_89, F2_104) : SR × (Int → Int)) ⟨(congrArg (fun z : Int => Value.int (iI z)) (by omega)), hr_89, (hS.ins hN h7 hy hF_104)⟩ hG
      · skip
        omega
    · skip
      omega
set_option maxHeartbeats 1000000 in
set_option maxRecDepth 100000 in
theorem x3_addLayer (l : Launch) (K : KC) (ad : Nat → Nat) (ou : Int) (mi : Int) (bo : Int) (ln : Int) (LF : Int → Int) (sn : Int) (SF : Int → Int) (N : Int → Int) (y : Int) (a1 : Int) (a2 : Int) (a3 : Int) (hS : ScOk N ou mi bo ln LF sn SF) (hN : NOk0 N) (hv : -2147483648 ≤ y ∧ y < 2147483648) (hv1 : -2147483648 ≤ a1 ∧ a1 < 2147483648) (hv2 : -2147483648 ≤ a2 ∧ a2 < 2147483648) (hv3 : -2147483648 ≤ a3 ∧ a3 < 2147483648) (hy : 0 ≤ y ∧ y ≤ N 0) (c1 : 1000 ≤ a1 ∧ a1 ≤ 4000) (c2 : 1 ≤ a2 ∧ a2 ≤ 999) (c3 : 0 ≤ a3 ∧ a3 ≤ 99) (h7 : ¬ N 0 < 10) (hst : l.stackTraces = false) : mX l yX8_addLayer wsX8_addLayer 6 82 K [.ref (ad 0), .int (iI y), .int (iI a1), .int (iI a2), .int (iI a3)] [gRLC K ad, gScn K (ad 3) (ad 14) (ad 15) (ad 16) (ad 17) ou mi bo ln LF sn SF] "java/lang/IllegalStateException" (fun (u : Unit) => True) (fun (u : Unit) => [gRLC K ad, gScn K (ad 3) (ad 14) (ad 15) (ad 16) (ad 17) ou mi bo ln LF sn SF]) 1 6 := by
  refine mX_of cX8_addLayer 5 (by decide) rfl (Nat.le_of_ble_eq_true rfl) ?_
  intro p e s m below meth c A ls Q S C hG hl hex hlk hin hQ
  have S : CallFix p m c cX8_addLayer 5 s ([.ref (ad 0), .int (iI y), .int (iI a1), .int (iI a2), .int (iI a3)] : List Value).toArray wsX8_addLayer RX8 := S
  have iX80 : ∀ w ∈ wsX80, w ∈ wsX8_addLayer := fun _ h => List.mem_cons_of_mem _ (List.mem_append_left _ (List.mem_append_left _ (List.mem_append_left _ (List.mem_append_left _ (List.mem_append_left _ (List.mem_append_left _ (List.mem_append_right _ (h))))))))
  have iX50 : ∀ w ∈ wsX50, w ∈ wsX8_addLayer := fun _ h => List.mem_cons_of_mem _ (List.mem_append_left _ (List.mem_append_left _ (List.mem_append_left _ (List.mem_append_left _ (List.mem_append_left _ (List.mem_append_right _ (h)))))))
  have iX70 : ∀ w ∈ wsX70, w ∈ wsX8_addLayer := fun _ h => List.mem_cons_of_mem _ (List.mem_append_left _ (List.mem_append_left _ (List.mem_append_left _ (List.mem_append_left _ (List.mem_append_right _ (h))))))
  have iX10 : ∀ w ∈ wsX10, w ∈ wsX8_addLayer := fun _ h => List.mem_cons_of_mem _ (List.mem_append_left _ (List.mem_append_left _ (List.mem_append_left _ (List.mem_append_right _ (h)))))
  have hl : lv_has ls 5 [(0, .ref (ad 0)), (1, .int (iI y)), (2, .int (iI a1)), (3, .int (iI a2)), (4, .int (iI a3))] := hl
  have hG : gW K A s.heap [gRLC K ad, gScn K (ad 3) (ad 14) (ad 15) (ad 16) (ad 17) ou mi bo ln LF sn SF] s.heap [] := hG
  obtain ⟨e0, e1, e2, e3, e4, e5, e6⟩ := id hS
  have n0 := hN.1
  have n3 := hN.2.2.2.1
  refine lv_iload_n S.1 S.2.1 dX8_addLayer_0 rfl (lv_at hl 1 rfl) ?_
  refine g_if_lt (tgt := 18) S dX8_addLayer_1 (by decide) (by omega) (fun q1 => ?_) (fun q1 => ?_)
  · skip
    omega
  · skip
    refine lv_iload_n S.1 S.2.1 dX8_addLayer_4 rfl (lv_at hl 1 rfl) ?_
    refine lv_aload_n S.1 S.2.1 dX8_addLayer_5 rfl (lv_at hl 0 rfl) ?_
    refine g_get S C hG iX80 0 rfl rfl 2 (by decide) (List.mem_of_getElem? (i := 5) rfl) rfl dX8_addLayer_6 ?_
    refine g_get S C hG iX50 1 rfl rfl 0 (by decide) (List.mem_of_getElem? (i := 6) rfl) rfl dX8_addLayer_9 ?_
    refine g_get S C hG iX70 2 rfl rfl 1 (by decide) (List.mem_of_getElem? (i := 7) rfl) rfl dX8_addLayer_12 ?_
    refine g_icmp_le (tgt := 29) S dX8_addLayer_15 (by decide) (by omega) (by omega) (fun q15 => ?_) (fun q15 => ?_)
    · skip
      refine lv_iload_n S.1 S.2.1 dX8_addLayer_29 rfl (lv_at hl 2 rfl) ?_
      refine g_sipush S dX8_addLayer_30 (by decide) ?_
      refine g_sipush S dX8_addLayer_33 (by decide) ?_
      refine g_invSv (As := [.int (iI a1), .int (iI 1000), .int (iI 4000)]) (rest := []) (gs' := (fun u : Unit => [gRLC K ad, gScn K (ad 3) (ad 14) (ad 15) (ad 16) (ad 17) ou mi bo ln LF sn SF])) S C hG [] (c_X8_checkRange l K a1 1000 4000 hv1 (by omega) (by omega) c1) rfl rfl (va_cwS 3 S.2.2.2.2 gX8_addLayer_X8_checkRange rfl rfl rfl (by decide +kernel) ⟨Nat.le_of_ble_eq_true rfl, Nat.le_of_ble_eq_true rfl⟩) rfl hl.1 rfl (Nat.le_of_ble_eq_true rfl) dX8_addLayer_36 ⟨Nat.le_of_ble_eq_true rfl, Nat.le_of_ble_eq_true rfl⟩ (fun _ => Nat.le_of_ble_eq_true rfl) (fun _ => rfl) (fun u H locs hp hG => ?_)
      refine lv_iload_n S.1 S.2.1 dX8_addLayer_39 rfl (lv_at hl 3 rfl) ?_
      refine g_iconst S dX8_addLayer_40 ?_
      refine g_sipush S dX8_addLayer_41 (by decide) ?_
      refine g_invSv (As := [.int (iI a2), .int (iI 1), .int (iI 999)]) (rest := []) (gs' := (fun u : Unit => [gRLC K ad, gScn K (ad 3) (ad 14) (ad 15) (ad 16) (ad 17) ou mi bo ln LF sn SF])) S C hG [] (c_X8_checkRange l K a2 1 999 hv2 (by omega) (by omega) c2) rfl rfl (va_cwS 3 S.2.2.2.2 gX8_addLayer_X8_checkRange rfl rfl rfl (by decide +kernel) ⟨Nat.le_of_ble_eq_true rfl, Nat.le_of_ble_eq_true rfl⟩) rfl hl.1 rfl (Nat.le_of_ble_eq_true rfl) dX8_addLayer_44 ⟨Nat.le_of_ble_eq_true rfl, Nat.le_of_ble_eq_true rfl⟩ (fun _ => Nat.le_of_ble_eq_true rfl) (fun _ => rfl) (fun u H locs hp hG => ?_)
      refine lv_iload S.1 S.2.1 dX8_addLayer_47 (lv_at hl 4 rfl) ?_
      refine g_iconst S dX8_addLayer_49 ?_
      refine g_bipush S dX8_addLayer_50 (by decide) ?_
      refine g_invSv (As := [.int (iI a3), .int (iI 0), .int (iI 99)]) (rest := []) (gs' := (fun u : Unit => [gRLC K ad, gScn K (ad 3) (ad 14) (ad 15) (ad 16) (ad 17) ou mi bo ln LF sn SF])) S C hG [] (c_X8_checkRange l K a3 0 99 hv3 (by omega) (by omega) c3) rfl rfl (va_cwS 3 S.2.2.2.2 gX8_addLayer_X8_checkRange rfl rfl rfl (by decide +kernel) ⟨Nat.le_of_ble_eq_true rfl, Nat.le_of_ble_eq_true rfl⟩) rfl hl.1 rfl (Nat.le_of_ble_eq_true rfl) dX8_addLayer_52 ⟨Nat.le_of_ble_eq_true rfl, Nat.le_of_ble_eq_true rfl⟩ (fun _ => Nat.le_of_ble_eq_true rfl) (fun _ => rfl) (fun u H locs hp hG => ?_)
      refine lv_aload_n S.1 S.2.1 dX8_addLayer_55 rfl (lv_at hl 0 rfl) ?_
      refine g_get S C hG iX80 0 rfl rfl 2 (by decide) (List.mem_of_getElem? (i := 5) rfl) rfl dX8_addLayer_56 ?_
      refine g_get S C hG iX50 1 rfl rfl 0 (by decide) (List.mem_of_getElem? (i := 6) rfl) rfl dX8_addLayer_59 ?_
      refine g_get S C hG iX70 2 rfl rfl 1 (by decide) (List.mem_of_getElem? (i := 7) rfl) rfl dX8_addLayer_62 ?_
      refine g_bipush S dX8_addLayer_65 (by decide) ?_
      refine g_icmp_lt (tgt := 81) S dX8_addLayer_67 (by decide) (by omega) (by omega) (fun q67 => ?_) (fun q67 => ?_)
      · skip
        omega
      · skip
        have hG : gW K A s.heap [gRLC K ad, gScn K (ad 3) (ad 14) (ad 15) (ad 16) (ad 17) ou mi bo ln LF sn SF] _ _ := hG
        exact g_thrW S C hl.1 hst hQ hex hlk th_ex_93 th_ft_93 (List.mem_of_getElem? (i := 3) rfl) (List.mem_of_getElem? (i := 4) rfl) (List.mem_of_getElem? (l := strW) (i := 20) rfl) (fun w hw => List.mem_cons_of_mem _ (List.mem_append_left _ (List.mem_append_right _ (hw)))) th_ng_93 th_gd_93 dX8_addLayer_70 dX8_addLayer_73 dX8_addLayer_74 dX8_addLayer_77 dX8_addLayer_80 ⟨Nat.le_of_ble_eq_true rfl, Nat.le_of_ble_eq_true rfl, Nat.le_of_ble_eq_true rfl, Nat.le_of_ble_eq_true rfl⟩ (Nat.le_of_ble_eq_true rfl) (Nat.le_of_ble_eq_true rfl) (() : Unit) trivial hG
    · skip
      omega
set_option maxHeartbeats 1000000 in
set_option maxRecDepth 100000 in
theorem c_X8_removeLayer (l : Launch) (K : KC) (ad : Nat → Nat) (ou : Int) (mi : Int) (bo : Int) (ln : Int) (LF : Int → Int) (sn : Int) (SF : Int → Int) (N : Int → Int) (nx : Int) (sz : Int) (o : Nat → Option SR) (y : Int) (hS : ScOk N ou mi bo ln LF sn SF) (hN : NOk0 N) (hnx : 0 ≤ nx ∧ nx < 6) (hsz : 0 ≤ sz ∧ sz ≤ 6) (hv : -2147483648 ≤ y ∧ y < 2147483648) (hy : 0 ≤ y ∧ y < N 0) (h7 : 1 < N 0) : mG l yX8_removeLayer wsX8_removeLayer 4 124 K [.ref (ad 0), .int (iI y)] [gRLC K ad, gScn K (ad 3) (ad 14) (ad 15) (ad 16) (ad 17) ou mi bo ln LF sn SF, gHisC K (ad 5) (ad 22) nx sz, gQS K (ad 22) 6 (oP o), gSOs K o (List.range 6)] (fun (v : Value) (u : SR × (Int → Int)) => (v = .int (iI (N 0 - 1))) ∧ (ScR N u.1) ∧ (ScOk (remLN N y) ou mi bo (ln - 1) u.2 sn SF)) (fun (u : SR × (Int → Int)) => [gRLC K ad, gScn K (ad 3) (ad 14) (ad 15) (ad 16) (ad 17) ou mi bo (ln - 1) u.2 sn SF, gHisC K (ad 5) (ad 22) ((nx + 1) % 6) (min (sz + 1) 6), gQS K (ad 22) 6 (oP (oup o nx.toNat u.1)), gSOs K (oup o nx.toNat u.1) (List.range 6)]) 5 129 := by
  refine mG_of cX8_removeLayer 2 (by decide) rfl (Nat.le_of_ble_eq_true rfl) ?_
  intro p e s m below meth c A ls Q S C hG hl hr hlk hin hQ
  have S : CallFix p m c cX8_removeLayer 2 s ([.ref (ad 0), .int (iI y)] : List Value).toArray wsX8_removeLayer RX8 := S
  have iX80 : ∀ w ∈ wsX80, w ∈ wsX8_removeLayer := fun _ h => List.mem_cons_of_mem _ (List.mem_append_left _ (List.mem_append_left _ (List.mem_append_left _ (List.mem_append_left _ (List.mem_append_left _ (List.mem_append_right _ (h)))))))
  have iX50 : ∀ w ∈ wsX50, w ∈ wsX8_removeLayer := fun _ h => List.mem_cons_of_mem _ (List.mem_append_left _ (List.mem_append_left _ (List.mem_append_left _ (List.mem_append_left _ (List.mem_append_right _ (h))))))
  have iX70 : ∀ w ∈ wsX70, w ∈ wsX8_removeLayer := fun _ h => List.mem_cons_of_mem _ (List.mem_append_left _ (List.mem_append_left _ (List.mem_append_left _ (List.mem_append_right _ (h)))))
  have iX10 : ∀ w ∈ wsX10, w ∈ wsX8_removeLayer := fun _ h => List.mem_cons_of_mem _ (List.mem_append_left _ (List.mem_append_left _ (List.mem_append_right _ (h))))
  have hl : lv_has ls 2 [(0, .ref (ad 0)), (1, .int (iI y))] := hl
  have hG : gW K A s.heap [gRLC K ad, gScn K (ad 3) (ad 14) (ad 15) (ad 16) (ad 17) ou mi bo ln LF sn SF, gHisC K (ad 5) (ad 22) nx sz, gQS K (ad 22) 6 (oP o), gSOs K o (List.range 6)] s.heap [] := hG
  obtain ⟨e0, e1, e2, e3, e4, e5, e6⟩ := id hS
  have n0 := hN.1
  have n3 := hN.2.2.2.1
  refine lv_aload_n S.1 S.2.1 dX8_removeLayer_0 rfl (lv_at hl 0 rfl) ?_
  refine lv_iload_n S.1 S.2.1 dX8_removeLayer_1 rfl (lv_at hl 1 rfl) ?_
  refine g_invVv (As := [.int (iI y)]) (rest := []) (gs' := (fun u : Unit => [gRLC K ad, gScn K (ad 3) (ad 14) (ad 15) (ad 16) (ad 17) ou mi bo ln LF sn SF, gHisC K (ad 5) (ad 22) nx sz, gQS K (ad 22) 6 (oP o), gSOs K o (List.range 6)])) S C hG [0, 1] (c_X8_checkLayer l K ad ou mi bo ln LF sn SF N y hS hN hv hy) rfl rfl 0 rfl rfl (cwV 1 S.2.2.2.2 gX8_removeLayer_X8_checkLayer rfl rfl rfl (by decide +kernel) ⟨Nat.le_of_ble_eq_true rfl, Nat.le_of_ble_eq_true rfl⟩) rfl hl.1 rfl (Nat.le_of_ble_eq_true rfl) dX8_removeLayer_2 ⟨Nat.le_of_ble_eq_true rfl, Nat.le_of_ble_eq_true rfl⟩ (fun _ => Nat.le_of_ble_eq_true rfl) (fun _ => rfl) (fun u H locs hp hG => ?_)
  refine lv_aload_n S.1 S.2.1 dX8_removeLayer_5 rfl (lv_at hl 0 rfl) ?_
  refine g_get S C hG iX80 0 rfl rfl 2 (by decide) (List.mem_of_getElem? (i := 3) rfl) rfl dX8_removeLayer_6 ?_
  refine g_get S C hG iX50 1 rfl rfl 0 (by decide) (List.mem_of_getElem? (i := 4) rfl) rfl dX8_removeLayer_9 ?_
  refine g_get S C hG iX70 2 rfl rfl 1 (by decide) (List.mem_of_getElem? (i := 5) rfl) rfl dX8_removeLayer_12 ?_
  refine g_iconst S dX8_removeLayer_15 ?_
  refine g_icmp_ge (tgt := 30) S dX8_removeLayer_16 (by decide) (by omega) (by omega) (fun q16 => ?_) (fun q16 => ?_)
  · skip
    refine lv_aload_n S.1 S.2.1 dX8_removeLayer_30 rfl (lv_at hl 0 rfl) ?_
    refine g_get S C hG iX80 0 rfl rfl 4 (by decide) (List.mem_of_getElem? (i := 6) rfl) rfl dX8_removeLayer_31 ?_
    refine lv_aload_n S.1 S.2.1 dX8_removeLayer_34 rfl (lv_at hl 0 rfl) ?_
    refine g_get S C hG iX80 0 rfl rfl 2 (by decide) (List.mem_of_getElem? (i := 3) rfl) rfl dX8_removeLayer_35 ?_
    refine g_invVv (As := [.ref (ad 3)]) (rest := []) (gs' := (fun u : SR => [gRLC K ad, gScn K (ad 3) (ad 14) (ad 15) (ad 16) (ad 17) ou mi bo ln LF sn SF, gHisC K (ad 5) (ad 22) ((nx + 1) % 6) (min (sz + 1) 6), gQS K (ad 22) 6 (oP (oup o nx.toNat u)), gSOs K (oup o nx.toNat u) (List.range 6)])) S C hG [2, 3, 1, 4] (c_X1_remember l K (ad 5) (ad 22) nx sz o (ad 3) (ad 14) (ad 15) (ad 16) (ad 17) ou mi bo ln LF sn SF N hnx hsz hS hN) rfl rfl 0 rfl rfl (cwV 1 S.2.2.2.2 gX8_removeLayer_X1_remember rfl rfl rfl (by decide +kernel) ⟨Nat.le_of_ble_eq_true rfl, Nat.le_of_ble_eq_true rfl⟩) rfl hl.1 rfl (Nat.le_of_ble_eq_true rfl) dX8_removeLayer_38 ⟨Nat.le_of_ble_eq_true rfl, Nat.le_of_ble_eq_true rfl⟩ (fun _ => Nat.le_of_ble_eq_true rfl) (fun _ => rfl) (fun u H locs hp hG => ?_)
    obtain ⟨u9_38, rfl⟩ : ∃ z, z = u := ⟨_, rfl⟩
    have hr_38 := hp
    have hr_38 : ScR N u9_38 := hr_38
    have hG : gW K A s.heap [gRLC K ad, gScn K (ad 3) (ad 14) (ad 15) (ad 16) (ad 17) ou mi bo ln LF sn SF, gHisC K (ad 5) (ad 22) ((nx + 1) % 6) (min (sz + 1) 6), gQS K (ad 22) 6 (oP (oup o nx.toNat u9_38)), gSOs K (oup o nx.toNat u9_38) (List.range 6)] _ _ := hG
    refine lv_aload_n S.1 S.2.1 dX8_removeLayer_41 rfl (lv_at hl 0 rfl) ?_
    refine g_get S C hG iX80 0 rfl rfl 2 (by decide) (List.mem_of_getElem? (i := 3) rfl) rfl dX8_removeLayer_42 ?_
    refine g_get S C hG iX50 1 rfl rfl 0 (by decide) (List.mem_of_getElem? (i := 4) rfl) rfl dX8_removeLayer_45 ?_
    refine lv_iload_n S.1 S.2.1 dX8_removeLayer_48 rfl (lv_at hl 1 rfl) ?_
    have hG : gW K A s.heap [gRLC K ad, gScC K (ad 3) (ad 14) (ad 16) ou mi bo, gTab K (ad 14) (ad 15) ln LF, gTabC K (ad 16) (ad 17) sn, gArr K 60 (ad 17) SF, gHisC K (ad 5) (ad 22) ((nx + 1) % 6) (min (sz + 1) 6), gQS K (ad 22) 6 (oP (oup o nx.toNat u9_38)), gSOs K (oup o nx.toNat u9_38) (List.range 6)] _ _ := hG
    refine g_invVv (As := [.int (iI y)]) (rest := []) (gs' := (fun u : (Int → Int) => [gRLC K ad, gScC K (ad 3) (ad 14) (ad 16) ou mi bo, gTab K (ad 14) (ad 15) (ln - 1) u, gTabC K (ad 16) (ad 17) sn, gArr K 60 (ad 17) SF, gHisC K (ad 5) (ad 22) ((nx + 1) % 6) (min (sz + 1) 6), gQS K (ad 22) 6 (oP (oup o nx.toNat u9_38)), gSOs K (oup o nx.toNat u9_38) (List.range 6)])) S C hG [2] (c_X7_remove l K (ad 14) (ad 15) ln LF y (by omega) (by omega)) rfl rfl 0 rfl rfl (cwV 1 S.2.2.2.2 gX8_removeLayer_X7_remove rfl rfl rfl (by decide +kernel) ⟨Nat.le_of_ble_eq_true rfl, Nat.le_of_ble_eq_true rfl⟩) rfl hl.1 rfl (Nat.le_of_ble_eq_true rfl) dX8_removeLayer_49 ⟨Nat.le_of_ble_eq_true rfl, Nat.le_of_ble_eq_true rfl⟩ (fun _ => Nat.le_of_ble_eq_true rfl) (fun _ => rfl) (fun u H locs hp hG => ?_)
    obtain ⟨F2_49, rfl⟩ : ∃ z, z = u := ⟨_, rfl⟩
    have hF_49 := hp
    have hF_49 : ∀ r k : Int, 0 ≤ k → k < 3 → F2_49 (r * 3 + k) = if y ≤ r ∧ r < ln - 1 then LF ((r + 1) * 3 + k) else LF (r * 3 + k) := hF_49
    have hG : gW K A s.heap [gRLC K ad, gScC K (ad 3) (ad 14) (ad 16) ou mi bo, gTab K (ad 14) (ad 15) (ln - 1) F2_49, gTabC K (ad 16) (ad 17) sn, gArr K 60 (ad 17) SF, gHisC K (ad 5) (ad 22) ((nx + 1) % 6) (min (sz + 1) 6), gQS K (ad 22) 6 (oP (oup o nx.toNat u9_38)), gSOs K (oup o nx.toNat u9_38) (List.range 6)] _ _ := hG
    refine lv_aload_n S.1 S.2.1 dX8_removeLayer_52 rfl (lv_at hl 0 rfl) ?_
    refine g_get S C hG iX80 0 rfl rfl 2 (by decide) (List.mem_of_getElem? (i := 3) rfl) rfl dX8_removeLayer_53 ?_
    refine g_get S C hG iX50 1 rfl rfl 0 (by decide) (List.mem_of_getElem? (i := 4) rfl) rfl dX8_removeLayer_56 ?_
    refine g_get S C hG iX70 2 rfl rfl 1 (by decide) (List.mem_of_getElem? (i := 5) rfl) rfl dX8_removeLayer_59 ?_
    have hG : gW K A s.heap [gRLC K ad, gScn K (ad 3) (ad 14) (ad 15) (ad 16) (ad 17) ou mi bo (ln - 1) F2_49 sn SF, gHisC K (ad 5) (ad 22) ((nx + 1) % 6) (min (sz + 1) 6), gQS K (ad 22) 6 (oP (oup o nx.toNat u9_38)), gSOs K (oup o nx.toNat u9_38) (List.range 6)] _ _ := hG
    exact g_iret S hr hlk hQ dX8_removeLayer_62 (Nat.le_of_ble_eq_true rfl) (Nat.le_of_ble_eq_true rfl) ((u9_38, F2_49) : SR × (Int → Int)) ⟨(congrArg (fun z : Int => Value.int (iI z)) (by omega)), hr_38, (hS.rem hN hy hF_49)⟩ hG
  · skip
    omega
set_option maxHeartbeats 1000000 in
set_option maxRecDepth 100000 in
theorem x2_removeLayer (l : Launch) (K : KC) (ad : Nat → Nat) (ou : Int) (mi : Int) (bo : Int) (ln : Int) (LF : Int → Int) (sn : Int) (SF : Int → Int) (N : Int → Int) (y : Int) (hS : ScOk N ou mi bo ln LF sn SF) (hN : NOk0 N) (hv : -2147483648 ≤ y ∧ y < 2147483648) (hy : 0 ≤ y ∧ y < N 0) (h7 : ¬ 1 < N 0) (hst : l.stackTraces = false) : mX l yX8_removeLayer wsX8_removeLayer 6 82 K [.ref (ad 0), .int (iI y)] [gRLC K ad, gScn K (ad 3) (ad 14) (ad 15) (ad 16) (ad 17) ou mi bo ln LF sn SF] "java/lang/IllegalStateException" (fun (u : Unit) => True) (fun (u : Unit) => [gRLC K ad, gScn K (ad 3) (ad 14) (ad 15) (ad 16) (ad 17) ou mi bo ln LF sn SF]) 1 6 := by
  refine mX_of cX8_removeLayer 2 (by decide) rfl (Nat.le_of_ble_eq_true rfl) ?_
  intro p e s m below meth c A ls Q S C hG hl hex hlk hin hQ
  have S : CallFix p m c cX8_removeLayer 2 s ([.ref (ad 0), .int (iI y)] : List Value).toArray wsX8_removeLayer RX8 := S
  have iX80 : ∀ w ∈ wsX80, w ∈ wsX8_removeLayer := fun _ h => List.mem_cons_of_mem _ (List.mem_append_left _ (List.mem_append_left _ (List.mem_append_left _ (List.mem_append_left _ (List.mem_append_left _ (List.mem_append_right _ (h)))))))
  have iX50 : ∀ w ∈ wsX50, w ∈ wsX8_removeLayer := fun _ h => List.mem_cons_of_mem _ (List.mem_append_left _ (List.mem_append_left _ (List.mem_append_left _ (List.mem_append_left _ (List.mem_append_right _ (h))))))
  have iX70 : ∀ w ∈ wsX70, w ∈ wsX8_removeLayer := fun _ h => List.mem_cons_of_mem _ (List.mem_append_left _ (List.mem_append_left _ (List.mem_append_left _ (List.mem_append_right _ (h)))))
  have iX10 : ∀ w ∈ wsX10, w ∈ wsX8_removeLayer := fun _ h => List.mem_cons_of_mem _ (List.mem_append_left _ (List.mem_append_left _ (List.mem_append_right _ (h))))
  have hl : lv_has ls 2 [(0, .ref (ad 0)), (1, .int (iI y))] := hl
  have hG : gW K A s.heap [gRLC K ad, gScn K (ad 3) (ad 14) (ad 15) (ad 16) (ad 17) ou mi bo ln LF sn SF] s.heap [] := hG
  obtain ⟨e0, e1, e2, e3, e4, e5, e6⟩ := id hS
  have n0 := hN.1
  have n3 := hN.2.2.2.1
  refine lv_aload_n S.1 S.2.1 dX8_removeLayer_0 rfl (lv_at hl 0 rfl) ?_
  refine lv_iload_n S.1 S.2.1 dX8_removeLayer_1 rfl (lv_at hl 1 rfl) ?_
  refine g_invVv (As := [.int (iI y)]) (rest := []) (gs' := (fun u : Unit => [gRLC K ad, gScn K (ad 3) (ad 14) (ad 15) (ad 16) (ad 17) ou mi bo ln LF sn SF])) S C hG [0, 1] (c_X8_checkLayer l K ad ou mi bo ln LF sn SF N y hS hN hv hy) rfl rfl 0 rfl rfl (cwV 1 S.2.2.2.2 gX8_removeLayer_X8_checkLayer rfl rfl rfl (by decide +kernel) ⟨Nat.le_of_ble_eq_true rfl, Nat.le_of_ble_eq_true rfl⟩) rfl hl.1 rfl (Nat.le_of_ble_eq_true rfl) dX8_removeLayer_2 ⟨Nat.le_of_ble_eq_true rfl, Nat.le_of_ble_eq_true rfl⟩ (fun _ => Nat.le_of_ble_eq_true rfl) (fun _ => rfl) (fun u H locs hp hG => ?_)
  refine lv_aload_n S.1 S.2.1 dX8_removeLayer_5 rfl (lv_at hl 0 rfl) ?_
  refine g_get S C hG iX80 0 rfl rfl 2 (by decide) (List.mem_of_getElem? (i := 3) rfl) rfl dX8_removeLayer_6 ?_
  refine g_get S C hG iX50 1 rfl rfl 0 (by decide) (List.mem_of_getElem? (i := 4) rfl) rfl dX8_removeLayer_9 ?_
  refine g_get S C hG iX70 2 rfl rfl 1 (by decide) (List.mem_of_getElem? (i := 5) rfl) rfl dX8_removeLayer_12 ?_
  refine g_iconst S dX8_removeLayer_15 ?_
  refine g_icmp_ge (tgt := 30) S dX8_removeLayer_16 (by decide) (by omega) (by omega) (fun q16 => ?_) (fun q16 => ?_)
  · skip
    omega
  · skip
    have hG : gW K A s.heap [gRLC K ad, gScn K (ad 3) (ad 14) (ad 15) (ad 16) (ad 17) ou mi bo ln LF sn SF] _ _ := hG
    exact g_thrW S C hl.1 hst hQ hex hlk th_ex_93 th_ft_93 (List.mem_of_getElem? (i := 1) rfl) (List.mem_of_getElem? (i := 2) rfl) (List.mem_of_getElem? (l := strW) (i := 21) rfl) (fun w hw => List.mem_cons_of_mem _ (List.mem_append_left _ (List.mem_append_right _ (hw)))) th_ng_93 th_gd_93 dX8_removeLayer_19 dX8_removeLayer_22 dX8_removeLayer_23 dX8_removeLayer_26 dX8_removeLayer_29 ⟨Nat.le_of_ble_eq_true rfl, Nat.le_of_ble_eq_true rfl, Nat.le_of_ble_eq_true rfl, Nat.le_of_ble_eq_true rfl⟩ (Nat.le_of_ble_eq_true rfl) (Nat.le_of_ble_eq_true rfl) (() : Unit) trivial hG
set_option maxHeartbeats 1000000 in
set_option maxRecDepth 100000 in
theorem c_X8_setLayer (l : Launch) (K : KC) (ad : Nat → Nat) (ou : Int) (mi : Int) (bo : Int) (ln : Int) (LF : Int → Int) (sn : Int) (SF : Int → Int) (N : Int → Int) (nx : Int) (sz : Int) (o : Nat → Option SR) (y : Int) (w : Int) (x : Int) (hS : ScOk N ou mi bo ln LF sn SF) (hN : NOk0 N) (hnx : 0 ≤ nx ∧ nx < 6) (hsz : 0 ≤ sz ∧ sz ≤ 6) (hv : -2147483648 ≤ y ∧ y < 2147483648) (hw : -2147483648 ≤ w ∧ w < 2147483648) (hx : -2147483648 ≤ x ∧ x < 2147483648) (hy : 0 ≤ y ∧ y < N 0) (hi : isVal w x) : mG l yX8_setLayer wsX8_setLayer 4 124 K [.ref (ad 0), .int (iI y), .int (iI w), .int (iI x)] [gRLC K ad, gScn K (ad 3) (ad 14) (ad 15) (ad 16) (ad 17) ou mi bo ln LF sn SF, gHisC K (ad 5) (ad 22) nx sz, gQS K (ad 22) 6 (oP o), gSOs K o (List.range 6)] (fun (v : Value) (u : SR × (Int → Int)) => (v = .int (iI (N (5 + 3 * y + w)))) ∧ (ScR N u.1) ∧ (ScOk (upI N (5 + 3 * y + w) x) ou mi bo ln u.2 sn SF)) (fun (u : SR × (Int → Int)) => [gRLC K ad, gScn K (ad 3) (ad 14) (ad 15) (ad 16) (ad 17) ou mi bo ln u.2 sn SF, gHisC K (ad 5) (ad 22) ((nx + 1) % 6) (min (sz + 1) 6), gQS K (ad 22) 6 (oP (oup o nx.toNat u.1)), gSOs K (oup o nx.toNat u.1) (List.range 6)]) 5 129 := by
  refine mG_of cX8_setLayer 5 (by decide) rfl (Nat.le_of_ble_eq_true rfl) ?_
  intro p e s m below meth c A ls Q S C hG hl hr hlk hin hQ
  have S : CallFix p m c cX8_setLayer 5 s ([.ref (ad 0), .int (iI y), .int (iI w), .int (iI x)] : List Value).toArray wsX8_setLayer RX8 := S
  have iX80 : ∀ w ∈ wsX80, w ∈ wsX8_setLayer := fun _ h => List.mem_cons_of_mem _ (List.mem_append_left _ (List.mem_append_left _ (List.mem_append_left _ (List.mem_append_left _ (List.mem_append_left _ (List.mem_append_right _ (h)))))))
  have iX50 : ∀ w ∈ wsX50, w ∈ wsX8_setLayer := fun _ h => List.mem_cons_of_mem _ (List.mem_append_left _ (List.mem_append_left _ (List.mem_append_left _ (List.mem_append_left _ (List.mem_append_right _ (h))))))
  have iX70 : ∀ w ∈ wsX70, w ∈ wsX8_setLayer := fun _ h => List.mem_cons_of_mem _ (List.mem_append_left _ (List.mem_append_left _ (List.mem_append_left _ (List.mem_append_right _ (h)))))
  have iX10 : ∀ w ∈ wsX10, w ∈ wsX8_setLayer := fun _ h => List.mem_cons_of_mem _ (List.mem_append_left _ (List.mem_append_left _ (List.mem_append_right _ (h))))
  have hl : lv_has ls 5 [(0, .ref (ad 0)), (1, .int (iI y)), (2, .int (iI w)), (3, .int (iI x))] := hl
  have hG : gW K A s.heap [gRLC K ad, gScn K (ad 3) (ad 14) (ad 15) (ad 16) (ad 17) ou mi bo ln LF sn SF, gHisC K (ad 5) (ad 22) nx sz, gQS K (ad 22) 6 (oP o), gSOs K o (List.range 6)] s.heap [] := hG
  obtain ⟨e0, e1, e2, e3, e4, e5, e6⟩ := id hS
  have n0 := hN.1
  have n3 := hN.2.2.2.1
  have h3 : 0 ≤ w ∧ w < 3 := by unfold isVal at hi <;> omega
  refine lv_aload_n S.1 S.2.1 dX8_setLayer_0 rfl (lv_at hl 0 rfl) ?_
  refine lv_iload_n S.1 S.2.1 dX8_setLayer_1 rfl (lv_at hl 1 rfl) ?_
  refine g_invVv (As := [.int (iI y)]) (rest := []) (gs' := (fun u : Unit => [gRLC K ad, gScn K (ad 3) (ad 14) (ad 15) (ad 16) (ad 17) ou mi bo ln LF sn SF, gHisC K (ad 5) (ad 22) nx sz, gQS K (ad 22) 6 (oP o), gSOs K o (List.range 6)])) S C hG [0, 1] (c_X8_checkLayer l K ad ou mi bo ln LF sn SF N y hS hN hv hy) rfl rfl 0 rfl rfl (cwV 1 S.2.2.2.2 gX8_setLayer_X8_checkLayer rfl rfl rfl (by decide +kernel) ⟨Nat.le_of_ble_eq_true rfl, Nat.le_of_ble_eq_true rfl⟩) rfl hl.1 rfl (Nat.le_of_ble_eq_true rfl) dX8_setLayer_2 ⟨Nat.le_of_ble_eq_true rfl, Nat.le_of_ble_eq_true rfl⟩ (fun _ => Nat.le_of_ble_eq_true rfl) (fun _ => rfl) (fun u H locs hp hG => ?_)
  refine lv_iload_n S.1 S.2.1 dX8_setLayer_5 rfl (lv_at hl 2 rfl) ?_
  refine lv_iload_n S.1 S.2.1 dX8_setLayer_6 rfl (lv_at hl 3 rfl) ?_
  refine g_invSv (As := [.int (iI w), .int (iI x)]) (rest := []) (gs' := (fun u : Unit => [gRLC K ad, gScn K (ad 3) (ad 14) (ad 15) (ad 16) (ad 17) ou mi bo ln LF sn SF, gHisC K (ad 5) (ad 22) nx sz, gQS K (ad 22) 6 (oP o), gSOs K o (List.range 6)])) S C hG [] (c_X8_checkLayerValue l K w x hw hx hi) rfl rfl (va_cwS 2 S.2.2.2.2 gX8_setLayer_X8_checkLayerValue rfl rfl rfl (by decide +kernel) ⟨Nat.le_of_ble_eq_true rfl, Nat.le_of_ble_eq_true rfl⟩) rfl hl.1 rfl (Nat.le_of_ble_eq_true rfl) dX8_setLayer_7 ⟨Nat.le_of_ble_eq_true rfl, Nat.le_of_ble_eq_true rfl⟩ (fun _ => Nat.le_of_ble_eq_true rfl) (fun _ => rfl) (fun u H locs hp hG => ?_)
  refine lv_aload_n S.1 S.2.1 dX8_setLayer_10 rfl (lv_at hl 0 rfl) ?_
  refine g_get S C hG iX80 0 rfl rfl 4 (by decide) (List.mem_of_getElem? (i := 1) rfl) rfl dX8_setLayer_11 ?_
  refine lv_aload_n S.1 S.2.1 dX8_setLayer_14 rfl (lv_at hl 0 rfl) ?_
  refine g_get S C hG iX80 0 rfl rfl 2 (by decide) (List.mem_of_getElem? (i := 2) rfl) rfl dX8_setLayer_15 ?_
  refine g_invVv (As := [.ref (ad 3)]) (rest := []) (gs' := (fun u : SR => [gRLC K ad, gScn K (ad 3) (ad 14) (ad 15) (ad 16) (ad 17) ou mi bo ln LF sn SF, gHisC K (ad 5) (ad 22) ((nx + 1) % 6) (min (sz + 1) 6), gQS K (ad 22) 6 (oP (oup o nx.toNat u)), gSOs K (oup o nx.toNat u) (List.range 6)])) S C hG [2, 3, 1, 4] (c_X1_remember l K (ad 5) (ad 22) nx sz o (ad 3) (ad 14) (ad 15) (ad 16) (ad 17) ou mi bo ln LF sn SF N hnx hsz hS hN) rfl rfl 0 rfl rfl (cwV 1 S.2.2.2.2 gX8_setLayer_X1_remember rfl rfl rfl (by decide +kernel) ⟨Nat.le_of_ble_eq_true rfl, Nat.le_of_ble_eq_true rfl⟩) rfl hl.1 rfl (Nat.le_of_ble_eq_true rfl) dX8_setLayer_18 ⟨Nat.le_of_ble_eq_true rfl, Nat.le_of_ble_eq_true rfl⟩ (fun _ => Nat.le_of_ble_eq_true rfl) (fun _ => rfl) (fun u H locs hp hG => ?_)
  obtain ⟨u9_18, rfl⟩ : ∃ z, z = u := ⟨_, rfl⟩
  have hr_18 := hp
  have hr_18 : ScR N u9_18 := hr_18
  have hG : gW K A s.heap [gRLC K ad, gScn K (ad 3) (ad 14) (ad 15) (ad 16) (ad 17) ou mi bo ln LF sn SF, gHisC K (ad 5) (ad 22) ((nx + 1) % 6) (min (sz + 1) 6), gQS K (ad 22) 6 (oP (oup o nx.toNat u9_18)), gSOs K (oup o nx.toNat u9_18) (List.range 6)] _ _ := hG
  refine lv_aload_n S.1 S.2.1 dX8_setLayer_21 rfl (lv_at hl 0 rfl) ?_
  refine g_get S C hG iX80 0 rfl rfl 2 (by decide) (List.mem_of_getElem? (i := 2) rfl) rfl dX8_setLayer_22 ?_
  refine g_get S C hG iX50 1 rfl rfl 0 (by decide) (List.mem_of_getElem? (i := 3) rfl) rfl dX8_setLayer_25 ?_
  refine lv_iload_n S.1 S.2.1 dX8_setLayer_28 rfl (lv_at hl 1 rfl) ?_
  refine lv_iload_n S.1 S.2.1 dX8_setLayer_29 rfl (lv_at hl 2 rfl) ?_
  have hG : gW K A s.heap [gRLC K ad, gScC K (ad 3) (ad 14) (ad 16) ou mi bo, gTab K (ad 14) (ad 15) ln LF, gTabC K (ad 16) (ad 17) sn, gArr K 60 (ad 17) SF, gHisC K (ad 5) (ad 22) ((nx + 1) % 6) (min (sz + 1) 6), gQS K (ad 22) 6 (oP (oup o nx.toNat u9_18)), gSOs K (oup o nx.toNat u9_18) (List.range 6)] _ _ := hG
  refine g_invV (As := [.int (iI y), .int (iI w)]) (rest := []) (gs' := (fun u : Unit => [gRLC K ad, gScC K (ad 3) (ad 14) (ad 16) ou mi bo, gTab K (ad 14) (ad 15) ln LF, gTabC K (ad 16) (ad 17) sn, gArr K 60 (ad 17) SF, gHisC K (ad 5) (ad 22) ((nx + 1) % 6) (min (sz + 1) 6), gQS K (ad 22) 6 (oP (oup o nx.toNat u9_18)), gSOs K (oup o nx.toNat u9_18) (List.range 6)])) S C hG [2] (c_X7_get l K (ad 14) (ad 15) ln LF y w (by omega) (by omega)) rfl rfl 0 rfl rfl (cwV 2 S.2.2.2.2 gX8_setLayer_X7_get rfl rfl rfl (by decide +kernel) ⟨Nat.le_of_ble_eq_true rfl, Nat.le_of_ble_eq_true rfl⟩) rfl hl.1 rfl (Nat.le_of_ble_eq_true rfl) dX8_setLayer_30 ⟨Nat.le_of_ble_eq_true rfl, Nat.le_of_ble_eq_true rfl⟩ (fun _ => Nat.le_of_ble_eq_true rfl) (fun _ => rfl) (fun v u H locs hp hG => ?_)
  subst hp
  refine g_top (w := .int (iI (N (5 + 3 * y + w)))) (congrArg (fun z : Int => Value.int (iI z)) ((e5 y w hy.1 (by omega) h3.1 h3.2))) ?_
  refine lv_istore (lv' := [(4, .int (iI (N (5 + 3 * y + w)))), (0, .ref (ad 0)), (1, .int (iI y)), (2, .int (iI w)), (3, .int (iI x))]) S.1 S.2.1 dX8_setLayer_33 hl (by decide) rfl (fun ls hl => ?_)
  refine lv_aload_n S.1 S.2.1 dX8_setLayer_35 rfl (lv_at hl 1 rfl) ?_
  refine g_get S C hG iX80 0 rfl rfl 2 (by decide) (List.mem_of_getElem? (i := 2) rfl) rfl dX8_setLayer_36 ?_
  refine g_get S C hG iX50 1 rfl rfl 0 (by decide) (List.mem_of_getElem? (i := 3) rfl) rfl dX8_setLayer_39 ?_
  refine lv_iload_n S.1 S.2.1 dX8_setLayer_42 rfl (lv_at hl 2 rfl) ?_
  refine lv_iload_n S.1 S.2.1 dX8_setLayer_43 rfl (lv_at hl 3 rfl) ?_
  refine lv_iload_n S.1 S.2.1 dX8_setLayer_44 rfl (lv_at hl 4 rfl) ?_
  refine g_invVv (As := [.int (iI y), .int (iI w), .int (iI x)]) (rest := []) (gs' := (fun u : Unit => [gRLC K ad, gScC K (ad 3) (ad 14) (ad 16) ou mi bo, gTab K (ad 14) (ad 15) ln (upI LF (y * 3 + w) x), gTabC K (ad 16) (ad 17) sn, gArr K 60 (ad 17) SF, gHisC K (ad 5) (ad 22) ((nx + 1) % 6) (min (sz + 1) 6), gQS K (ad 22) 6 (oP (oup o nx.toNat u9_18)), gSOs K (oup o nx.toNat u9_18) (List.range 6)])) S C hG [2] (c_X7_set l K (ad 14) (ad 15) ln LF y w x (by omega) (by omega)) rfl rfl 0 rfl rfl (cwV 3 S.2.2.2.2 gX8_setLayer_X7_set rfl rfl rfl (by decide +kernel) ⟨Nat.le_of_ble_eq_true rfl, Nat.le_of_ble_eq_true rfl⟩) rfl hl.1 rfl (Nat.le_of_ble_eq_true rfl) dX8_setLayer_45 ⟨Nat.le_of_ble_eq_true rfl, Nat.le_of_ble_eq_true rfl⟩ (fun _ => Nat.le_of_ble_eq_true rfl) (fun _ => rfl) (fun u H locs hp hG => ?_)
  refine lv_iload S.1 S.2.1 dX8_setLayer_48 (lv_at hl 0 rfl) ?_
  have hG : gW K A s.heap [gRLC K ad, gScn K (ad 3) (ad 14) (ad 15) (ad 16) (ad 17) ou mi bo ln (upI LF (y * 3 + w) x) sn SF, gHisC K (ad 5) (ad 22) ((nx + 1) % 6) (min (sz + 1) 6), gQS K (ad 22) 6 (oP (oup o nx.toNat u9_18)), gSOs K (oup o nx.toNat u9_18) (List.range 6)] _ _ := hG
  exact g_iret S hr hlk hQ dX8_setLayer_50 (Nat.le_of_ble_eq_true rfl) (Nat.le_of_ble_eq_true rfl) ((u9_18, (upI LF (y * 3 + w) x)) : SR × (Int → Int)) ⟨rfl, hr_18, (hS.setL hN hy h3)⟩ hG
set_option maxHeartbeats 1000000 in
set_option maxRecDepth 100000 in
theorem c_X8_setOutside (l : Launch) (K : KC) (ad : Nat → Nat) (ou : Int) (mi : Int) (bo : Int) (ln : Int) (LF : Int → Int) (sn : Int) (SF : Int → Int) (N : Int → Int) (nx : Int) (sz : Int) (o : Nat → Option SR) (x : Int) (hS : ScOk N ou mi bo ln LF sn SF) (hN : NOk0 N) (hnx : 0 ≤ nx ∧ nx < 6) (hsz : 0 ≤ sz ∧ sz ≤ 6) (hx : -2147483648 ≤ x ∧ x < 2147483648) (h1 : 1000 ≤ x ∧ x ≤ 4000) : mG l yX8_setOutside wsX8_setOutside 4 124 K [.ref (ad 0), .int (iI x)] [gRLC K ad, gScn K (ad 3) (ad 14) (ad 15) (ad 16) (ad 17) ou mi bo ln LF sn SF, gHisC K (ad 5) (ad 22) nx sz, gQS K (ad 22) 6 (oP o), gSOs K o (List.range 6)] (fun (v : Value) (u : SR) => (v = .int (iI (N 1))) ∧ (ScR N u) ∧ (ScOk (upI N 1 x) x mi bo ln LF sn SF)) (fun (u : SR) => [gRLC K ad, gScn K (ad 3) (ad 14) (ad 15) (ad 16) (ad 17) x mi bo ln LF sn SF, gHisC K (ad 5) (ad 22) ((nx + 1) % 6) (min (sz + 1) 6), gQS K (ad 22) 6 (oP (oup o nx.toNat u)), gSOs K (oup o nx.toNat u) (List.range 6)]) 5 129 := by
  refine mG_of cX8_setOutside 3 (by decide) rfl (Nat.le_of_ble_eq_true rfl) ?_
  intro p e s m below meth c A ls Q S C hG hl hr hlk hin hQ
  have S : CallFix p m c cX8_setOutside 3 s ([.ref (ad 0), .int (iI x)] : List Value).toArray wsX8_setOutside RX8 := S
  have iX80 : ∀ w ∈ wsX80, w ∈ wsX8_setOutside := fun _ h => List.mem_cons_of_mem _ (List.mem_append_left _ (List.mem_append_left _ (List.mem_append_left _ (List.mem_append_left _ (List.mem_append_right _ (h))))))
  have iX50 : ∀ w ∈ wsX50, w ∈ wsX8_setOutside := fun _ h => List.mem_cons_of_mem _ (List.mem_append_left _ (List.mem_append_left _ (List.mem_append_left _ (List.mem_append_right _ (h)))))
  have iX10 : ∀ w ∈ wsX10, w ∈ wsX8_setOutside := fun _ h => List.mem_cons_of_mem _ (List.mem_append_left _ (List.mem_append_left _ (List.mem_append_right _ (h))))
  have iX70 : ∀ w ∈ wsX70, w ∈ wsX8_setOutside := fun _ h => List.mem_cons_of_mem _ (List.mem_append_left _ (List.mem_append_right _ (h)))
  have hl : lv_has ls 3 [(0, .ref (ad 0)), (1, .int (iI x))] := hl
  have hG : gW K A s.heap [gRLC K ad, gScn K (ad 3) (ad 14) (ad 15) (ad 16) (ad 17) ou mi bo ln LF sn SF, gHisC K (ad 5) (ad 22) nx sz, gQS K (ad 22) 6 (oP o), gSOs K o (List.range 6)] s.heap [] := hG
  obtain ⟨e0, e1, e2, e3, e4, e5, e6⟩ := id hS
  have n0 := hN.1
  have n3 := hN.2.2.2.1
  refine lv_iload_n S.1 S.2.1 dX8_setOutside_0 rfl (lv_at hl 1 rfl) ?_
  refine g_sipush S dX8_setOutside_1 (by decide) ?_
  refine g_sipush S dX8_setOutside_4 (by decide) ?_
  refine g_invSv (As := [.int (iI x), .int (iI 1000), .int (iI 4000)]) (rest := []) (gs' := (fun u : Unit => [gRLC K ad, gScn K (ad 3) (ad 14) (ad 15) (ad 16) (ad 17) ou mi bo ln LF sn SF, gHisC K (ad 5) (ad 22) nx sz, gQS K (ad 22) 6 (oP o), gSOs K o (List.range 6)])) S C hG [] (c_X8_checkRange l K x 1000 4000 hx (by omega) (by omega) h1) rfl rfl (va_cwS 3 S.2.2.2.2 gX8_setOutside_X8_checkRange rfl rfl rfl (by decide +kernel) ⟨Nat.le_of_ble_eq_true rfl, Nat.le_of_ble_eq_true rfl⟩) rfl hl.1 rfl (Nat.le_of_ble_eq_true rfl) dX8_setOutside_7 ⟨Nat.le_of_ble_eq_true rfl, Nat.le_of_ble_eq_true rfl⟩ (fun _ => Nat.le_of_ble_eq_true rfl) (fun _ => rfl) (fun u H locs hp hG => ?_)
  refine lv_aload_n S.1 S.2.1 dX8_setOutside_10 rfl (lv_at hl 0 rfl) ?_
  refine g_get S C hG iX80 0 rfl rfl 4 (by decide) (List.mem_of_getElem? (i := 1) rfl) rfl dX8_setOutside_11 ?_
  refine lv_aload_n S.1 S.2.1 dX8_setOutside_14 rfl (lv_at hl 0 rfl) ?_
  refine g_get S C hG iX80 0 rfl rfl 2 (by decide) (List.mem_of_getElem? (i := 2) rfl) rfl dX8_setOutside_15 ?_
  refine g_invVv (As := [.ref (ad 3)]) (rest := []) (gs' := (fun u : SR => [gRLC K ad, gScn K (ad 3) (ad 14) (ad 15) (ad 16) (ad 17) ou mi bo ln LF sn SF, gHisC K (ad 5) (ad 22) ((nx + 1) % 6) (min (sz + 1) 6), gQS K (ad 22) 6 (oP (oup o nx.toNat u)), gSOs K (oup o nx.toNat u) (List.range 6)])) S C hG [2, 3, 1, 4] (c_X1_remember l K (ad 5) (ad 22) nx sz o (ad 3) (ad 14) (ad 15) (ad 16) (ad 17) ou mi bo ln LF sn SF N hnx hsz hS hN) rfl rfl 0 rfl rfl (cwV 1 S.2.2.2.2 gX8_setOutside_X1_remember rfl rfl rfl (by decide +kernel) ⟨Nat.le_of_ble_eq_true rfl, Nat.le_of_ble_eq_true rfl⟩) rfl hl.1 rfl (Nat.le_of_ble_eq_true rfl) dX8_setOutside_18 ⟨Nat.le_of_ble_eq_true rfl, Nat.le_of_ble_eq_true rfl⟩ (fun _ => Nat.le_of_ble_eq_true rfl) (fun _ => rfl) (fun u H locs hp hG => ?_)
  obtain ⟨u9_18, rfl⟩ : ∃ z, z = u := ⟨_, rfl⟩
  have hr_18 := hp
  have hr_18 : ScR N u9_18 := hr_18
  have hG : gW K A s.heap [gRLC K ad, gScn K (ad 3) (ad 14) (ad 15) (ad 16) (ad 17) ou mi bo ln LF sn SF, gHisC K (ad 5) (ad 22) ((nx + 1) % 6) (min (sz + 1) 6), gQS K (ad 22) 6 (oP (oup o nx.toNat u9_18)), gSOs K (oup o nx.toNat u9_18) (List.range 6)] _ _ := hG
  refine lv_aload_n S.1 S.2.1 dX8_setOutside_21 rfl (lv_at hl 0 rfl) ?_
  refine g_get S C hG iX80 0 rfl rfl 2 (by decide) (List.mem_of_getElem? (i := 2) rfl) rfl dX8_setOutside_22 ?_
  refine g_get S C hG iX50 1 rfl rfl 2 (by decide) (List.mem_of_getElem? (i := 3) rfl) rfl dX8_setOutside_25 ?_
  refine lv_istore_n (lv' := [(2, .int (iI ou)), (0, .ref (ad 0)), (1, .int (iI x))]) S.1 S.2.1 dX8_setOutside_28 rfl hl (by decide) rfl (fun ls hl => ?_)
  refine lv_aload_n S.1 S.2.1 dX8_setOutside_29 rfl (lv_at hl 1 rfl) ?_
  refine g_get S C hG iX80 0 rfl rfl 2 (by decide) (List.mem_of_getElem? (i := 2) rfl) rfl dX8_setOutside_30 ?_
  refine lv_iload_n S.1 S.2.1 dX8_setOutside_33 rfl (lv_at hl 2 rfl) ?_
  refine g_put (gs' := [gRLC K ad, gScn K (ad 3) (ad 14) (ad 15) (ad 16) (ad 17) x mi bo ln LF sn SF, gHisC K (ad 5) (ad 22) ((nx + 1) % 6) (min (sz + 1) 6), gQS K (ad 22) 6 (oP (oup o nx.toNat u9_18)), gSOs K (oup o nx.toNat u9_18) (List.range 6)]) S C hG iX50 tyX5 tyX5_ok nmX5 1 rfl rfl 2 (by decide) (List.mem_of_getElem? (i := 3) rfl) rfl rfl rfl (Nat.le_of_ble_eq_true rfl) rfl dX8_setOutside_34 (fun H locs hG => ?_)
  refine lv_iload_n S.1 S.2.1 dX8_setOutside_37 rfl (lv_at hl 0 rfl) ?_
  have hG : gW K A s.heap [gRLC K ad, gScn K (ad 3) (ad 14) (ad 15) (ad 16) (ad 17) x mi bo ln LF sn SF, gHisC K (ad 5) (ad 22) ((nx + 1) % 6) (min (sz + 1) 6), gQS K (ad 22) 6 (oP (oup o nx.toNat u9_18)), gSOs K (oup o nx.toNat u9_18) (List.range 6)] _ _ := hG
  exact g_iret S hr hlk hQ dX8_setOutside_38 (Nat.le_of_ble_eq_true rfl) (Nat.le_of_ble_eq_true rfl) ((u9_18) : SR) ⟨(congrArg (fun z : Int => Value.int (iI z)) (by first | rfl | omega)), hr_18, (hS.up1 x)⟩ hG
set_option maxHeartbeats 1000000 in
set_option maxRecDepth 100000 in
theorem c_X8_setOpen (l : Launch) (K : KC) (ad : Nat → Nat) (ou : Int) (mi : Int) (bo : Int) (ln : Int) (LF : Int → Int) (sn : Int) (SF : Int → Int) (N : Int → Int) (nx : Int) (sz : Int) (o : Nat → Option SR) (x : Int) (hS : ScOk N ou mi bo ln LF sn SF) (hN : NOk0 N) (hnx : 0 ≤ nx ∧ nx < 6) (hsz : 0 ≤ sz ∧ sz ≤ 6) (hx : -2147483648 ≤ x ∧ x < 2147483648) (h1 : 1000 ≤ x ∧ x ≤ 4000) : mG l yX8_setOpen wsX8_setOpen 4 124 K [.ref (ad 0), .int (iI x)] [gRLC K ad, gScn K (ad 3) (ad 14) (ad 15) (ad 16) (ad 17) ou mi bo ln LF sn SF, gHisC K (ad 5) (ad 22) nx sz, gQS K (ad 22) 6 (oP o), gSOs K o (List.range 6)] (fun (v : Value) (u : SR) => (v = .int (iI (if N 2 = 1 then 5000 else N 3))) ∧ (ScR N u) ∧ (ScOk (upI (upI N 2 0) 3 x) ou 0 x ln LF sn SF)) (fun (u : SR) => [gRLC K ad, gScn K (ad 3) (ad 14) (ad 15) (ad 16) (ad 17) ou 0 x ln LF sn SF, gHisC K (ad 5) (ad 22) ((nx + 1) % 6) (min (sz + 1) 6), gQS K (ad 22) 6 (oP (oup o nx.toNat u)), gSOs K (oup o nx.toNat u) (List.range 6)]) 5 129 := by
  refine mG_of cX8_setOpen 3 (by decide) rfl (Nat.le_of_ble_eq_true rfl) ?_
  intro p e s m below meth c A ls Q S C hG hl hr hlk hin hQ
  have S : CallFix p m c cX8_setOpen 3 s ([.ref (ad 0), .int (iI x)] : List Value).toArray wsX8_setOpen RX8 := S
  have iX80 : ∀ w ∈ wsX80, w ∈ wsX8_setOpen := fun _ h => List.mem_cons_of_mem _ (List.mem_append_left _ (List.mem_append_left _ (List.mem_append_left _ (List.mem_append_left _ (List.mem_append_right _ (h))))))
  have iX50 : ∀ w ∈ wsX50, w ∈ wsX8_setOpen := fun _ h => List.mem_cons_of_mem _ (List.mem_append_left _ (List.mem_append_left _ (List.mem_append_left _ (List.mem_append_right _ (h)))))
  have iX10 : ∀ w ∈ wsX10, w ∈ wsX8_setOpen := fun _ h => List.mem_cons_of_mem _ (List.mem_append_left _ (List.mem_append_left _ (List.mem_append_right _ (h))))
  have iX70 : ∀ w ∈ wsX70, w ∈ wsX8_setOpen := fun _ h => List.mem_cons_of_mem _ (List.mem_append_left _ (List.mem_append_right _ (h)))
  have hl : lv_has ls 3 [(0, .ref (ad 0)), (1, .int (iI x))] := hl
  have hG : gW K A s.heap [gRLC K ad, gScn K (ad 3) (ad 14) (ad 15) (ad 16) (ad 17) ou mi bo ln LF sn SF, gHisC K (ad 5) (ad 22) nx sz, gQS K (ad 22) 6 (oP o), gSOs K o (List.range 6)] s.heap [] := hG
  obtain ⟨e0, e1, e2, e3, e4, e5, e6⟩ := id hS
  have n0 := hN.1
  have n3 := hN.2.2.2.1
  have n2 := hN.2.2.1
  refine lv_iload_n S.1 S.2.1 dX8_setOpen_0 rfl (lv_at hl 1 rfl) ?_
  refine g_sipush S dX8_setOpen_1 (by decide) ?_
  refine g_sipush S dX8_setOpen_4 (by decide) ?_
  refine g_invSv (As := [.int (iI x), .int (iI 1000), .int (iI 4000)]) (rest := []) (gs' := (fun u : Unit => [gRLC K ad, gScn K (ad 3) (ad 14) (ad 15) (ad 16) (ad 17) ou mi bo ln LF sn SF, gHisC K (ad 5) (ad 22) nx sz, gQS K (ad 22) 6 (oP o), gSOs K o (List.range 6)])) S C hG [] (c_X8_checkRange l K x 1000 4000 hx (by omega) (by omega) h1) rfl rfl (va_cwS 3 S.2.2.2.2 gX8_setOpen_X8_checkRange rfl rfl rfl (by decide +kernel) ⟨Nat.le_of_ble_eq_true rfl, Nat.le_of_ble_eq_true rfl⟩) rfl hl.1 rfl (Nat.le_of_ble_eq_true rfl) dX8_setOpen_7 ⟨Nat.le_of_ble_eq_true rfl, Nat.le_of_ble_eq_true rfl⟩ (fun _ => Nat.le_of_ble_eq_true rfl) (fun _ => rfl) (fun u H locs hp hG => ?_)
  refine lv_aload_n S.1 S.2.1 dX8_setOpen_10 rfl (lv_at hl 0 rfl) ?_
  refine g_get S C hG iX80 0 rfl rfl 4 (by decide) (List.mem_of_getElem? (i := 1) rfl) rfl dX8_setOpen_11 ?_
  refine lv_aload_n S.1 S.2.1 dX8_setOpen_14 rfl (lv_at hl 0 rfl) ?_
  refine g_get S C hG iX80 0 rfl rfl 2 (by decide) (List.mem_of_getElem? (i := 2) rfl) rfl dX8_setOpen_15 ?_
  refine g_invVv (As := [.ref (ad 3)]) (rest := []) (gs' := (fun u : SR => [gRLC K ad, gScn K (ad 3) (ad 14) (ad 15) (ad 16) (ad 17) ou mi bo ln LF sn SF, gHisC K (ad 5) (ad 22) ((nx + 1) % 6) (min (sz + 1) 6), gQS K (ad 22) 6 (oP (oup o nx.toNat u)), gSOs K (oup o nx.toNat u) (List.range 6)])) S C hG [2, 3, 1, 4] (c_X1_remember l K (ad 5) (ad 22) nx sz o (ad 3) (ad 14) (ad 15) (ad 16) (ad 17) ou mi bo ln LF sn SF N hnx hsz hS hN) rfl rfl 0 rfl rfl (cwV 1 S.2.2.2.2 gX8_setOpen_X1_remember rfl rfl rfl (by decide +kernel) ⟨Nat.le_of_ble_eq_true rfl, Nat.le_of_ble_eq_true rfl⟩) rfl hl.1 rfl (Nat.le_of_ble_eq_true rfl) dX8_setOpen_18 ⟨Nat.le_of_ble_eq_true rfl, Nat.le_of_ble_eq_true rfl⟩ (fun _ => Nat.le_of_ble_eq_true rfl) (fun _ => rfl) (fun u H locs hp hG => ?_)
  obtain ⟨u9_18, rfl⟩ : ∃ z, z = u := ⟨_, rfl⟩
  have hr_18 := hp
  have hr_18 : ScR N u9_18 := hr_18
  have hG : gW K A s.heap [gRLC K ad, gScn K (ad 3) (ad 14) (ad 15) (ad 16) (ad 17) ou mi bo ln LF sn SF, gHisC K (ad 5) (ad 22) ((nx + 1) % 6) (min (sz + 1) 6), gQS K (ad 22) 6 (oP (oup o nx.toNat u9_18)), gSOs K (oup o nx.toNat u9_18) (List.range 6)] _ _ := hG
  refine lv_aload_n S.1 S.2.1 dX8_setOpen_21 rfl (lv_at hl 0 rfl) ?_
  refine g_get S C hG iX80 0 rfl rfl 2 (by decide) (List.mem_of_getElem? (i := 2) rfl) rfl dX8_setOpen_22 ?_
  refine g_get S C hG iX50 1 rfl rfl 3 (by decide) (List.mem_of_getElem? (i := 3) rfl) rfl dX8_setOpen_25 ?_
  refine g_if_eq (tgt := 37) S dX8_setOpen_28 (by decide) (by omega) (fun q28 => ?_) (fun q28 => ?_)
  · skip
    refine lv_aload_n S.1 S.2.1 dX8_setOpen_37 rfl (lv_at hl 0 rfl) ?_
    refine g_get S C hG iX80 0 rfl rfl 2 (by decide) (List.mem_of_getElem? (i := 2) rfl) rfl dX8_setOpen_38 ?_
    refine g_get S C hG iX50 1 rfl rfl 4 (by decide) (List.mem_of_getElem? (i := 4) rfl) rfl dX8_setOpen_41 ?_
    refine lv_istore_n (lv' := [(2, .int (iI bo)), (0, .ref (ad 0)), (1, .int (iI x))]) S.1 S.2.1 dX8_setOpen_44 rfl hl (by decide) rfl (fun ls hl => ?_)
    refine lv_aload_n S.1 S.2.1 dX8_setOpen_45 rfl (lv_at hl 1 rfl) ?_
    refine g_get S C hG iX80 0 rfl rfl 2 (by decide) (List.mem_of_getElem? (i := 2) rfl) rfl dX8_setOpen_46 ?_
    refine g_iconst S dX8_setOpen_49 ?_
    refine lv_iload_n S.1 S.2.1 dX8_setOpen_50 rfl (lv_at hl 2 rfl) ?_
    have hG : gW K A s.heap [gRLC K ad, gScC K (ad 3) (ad 14) (ad 16) ou mi bo, gTabC K (ad 14) (ad 15) ln, gArr K 60 (ad 15) LF, gTabC K (ad 16) (ad 17) sn, gArr K 60 (ad 17) SF, gHisC K (ad 5) (ad 22) ((nx + 1) % 6) (min (sz + 1) 6), gQS K (ad 22) 6 (oP (oup o nx.toNat u9_18)), gSOs K (oup o nx.toNat u9_18) (List.range 6)] _ _ := hG
    refine g_invVv (As := [.int (iI 0), .int (iI x)]) (rest := []) (gs' := (fun u : Unit => [gRLC K ad, gScC K (ad 3) (ad 14) (ad 16) ou 0 x, gTabC K (ad 14) (ad 15) ln, gArr K 60 (ad 15) LF, gTabC K (ad 16) (ad 17) sn, gArr K 60 (ad 17) SF, gHisC K (ad 5) (ad 22) ((nx + 1) % 6) (min (sz + 1) 6), gQS K (ad 22) 6 (oP (oup o nx.toNat u9_18)), gSOs K (oup o nx.toNat u9_18) (List.range 6)])) S C hG [1] (c_X5_setBottom l K (ad 3) (ad 14) (ad 16) ou mi bo 0 x (Or.inl rfl)) rfl rfl 0 rfl rfl (cwV 2 S.2.2.2.2 gX8_setOpen_X5_setBottom rfl rfl rfl (by decide +kernel) ⟨Nat.le_of_ble_eq_true rfl, Nat.le_of_ble_eq_true rfl⟩) rfl hl.1 rfl (Nat.le_of_ble_eq_true rfl) dX8_setOpen_51 ⟨Nat.le_of_ble_eq_true rfl, Nat.le_of_ble_eq_true rfl⟩ (fun _ => Nat.le_of_ble_eq_true rfl) (fun _ => rfl) (fun u H locs hp hG => ?_)
    refine lv_iload_n S.1 S.2.1 dX8_setOpen_54 rfl (lv_at hl 0 rfl) ?_
    have hG : gW K A s.heap [gRLC K ad, gScn K (ad 3) (ad 14) (ad 15) (ad 16) (ad 17) ou 0 x ln LF sn SF, gHisC K (ad 5) (ad 22) ((nx + 1) % 6) (min (sz + 1) 6), gQS K (ad 22) 6 (oP (oup o nx.toNat u9_18)), gSOs K (oup o nx.toNat u9_18) (List.range 6)] _ _ := hG
    exact g_iret S hr hlk hQ dX8_setOpen_55 (Nat.le_of_ble_eq_true rfl) (Nat.le_of_ble_eq_true rfl) ((u9_18) : SR) ⟨(congrArg (fun z : Int => Value.int (iI z)) (by split <;> omega)), hr_18, (hS.up23 0 x)⟩ hG
  · skip
    refine g_sipush S dX8_setOpen_31 (by decide) ?_
    refine lv_goto (tgt := 44) S.1 S.2.1 dX8_setOpen_34 (by decide) ?_
    refine lv_istore_n (lv' := [(2, .int (iI 5000)), (0, .ref (ad 0)), (1, .int (iI x))]) S.1 S.2.1 dX8_setOpen_44 rfl hl (by decide) rfl (fun ls hl => ?_)
    refine lv_aload_n S.1 S.2.1 dX8_setOpen_45 rfl (lv_at hl 1 rfl) ?_
    refine g_get S C hG iX80 0 rfl rfl 2 (by decide) (List.mem_of_getElem? (i := 2) rfl) rfl dX8_setOpen_46 ?_
    refine g_iconst S dX8_setOpen_49 ?_
    refine lv_iload_n S.1 S.2.1 dX8_setOpen_50 rfl (lv_at hl 2 rfl) ?_
    have hG : gW K A s.heap [gRLC K ad, gScC K (ad 3) (ad 14) (ad 16) ou mi bo, gTabC K (ad 14) (ad 15) ln, gArr K 60 (ad 15) LF, gTabC K (ad 16) (ad 17) sn, gArr K 60 (ad 17) SF, gHisC K (ad 5) (ad 22) ((nx + 1) % 6) (min (sz + 1) 6), gQS K (ad 22) 6 (oP (oup o nx.toNat u9_18)), gSOs K (oup o nx.toNat u9_18) (List.range 6)] _ _ := hG
    refine g_invVv (As := [.int (iI 0), .int (iI x)]) (rest := []) (gs' := (fun u : Unit => [gRLC K ad, gScC K (ad 3) (ad 14) (ad 16) ou 0 x, gTabC K (ad 14) (ad 15) ln, gArr K 60 (ad 15) LF, gTabC K (ad 16) (ad 17) sn, gArr K 60 (ad 17) SF, gHisC K (ad 5) (ad 22) ((nx + 1) % 6) (min (sz + 1) 6), gQS K (ad 22) 6 (oP (oup o nx.toNat u9_18)), gSOs K (oup o nx.toNat u9_18) (List.range 6)])) S C hG [1] (c_X5_setBottom l K (ad 3) (ad 14) (ad 16) ou mi bo 0 x (Or.inl rfl)) rfl rfl 0 rfl rfl (cwV 2 S.2.2.2.2 gX8_setOpen_X5_setBottom rfl rfl rfl (by decide +kernel) ⟨Nat.le_of_ble_eq_true rfl, Nat.le_of_ble_eq_true rfl⟩) rfl hl.1 rfl (Nat.le_of_ble_eq_true rfl) dX8_setOpen_51 ⟨Nat.le_of_ble_eq_true rfl, Nat.le_of_ble_eq_true rfl⟩ (fun _ => Nat.le_of_ble_eq_true rfl) (fun _ => rfl) (fun u H locs hp hG => ?_)
    refine lv_iload_n S.1 S.2.1 dX8_setOpen_54 rfl (lv_at hl 0 rfl) ?_
    have hG : gW K A s.heap [gRLC K ad, gScn K (ad 3) (ad 14) (ad 15) (ad 16) (ad 17) ou 0 x ln LF sn SF, gHisC K (ad 5) (ad 22) ((nx + 1) % 6) (min (sz + 1) 6), gQS K (ad 22) 6 (oP (oup o nx.toNat u9_18)), gSOs K (oup o nx.toNat u9_18) (List.range 6)] _ _ := hG
    exact g_iret S hr hlk hQ dX8_setOpen_55 (Nat.le_of_ble_eq_true rfl) (Nat.le_of_ble_eq_true rfl) ((u9_18) : SR) ⟨(congrArg (fun z : Int => Value.int (iI z)) (by split <;> omega)), hr_18, (hS.up23 0 x)⟩ hG
set_option maxHeartbeats 1000000 in
set_option maxRecDepth 100000 in
theorem c_X8_setMirror (l : Launch) (K : KC) (ad : Nat → Nat) (ou : Int) (mi : Int) (bo : Int) (ln : Int) (LF : Int → Int) (sn : Int) (SF : Int → Int) (N : Int → Int) (nx : Int) (sz : Int) (o : Nat → Option SR) (x : Int) (hS : ScOk N ou mi bo ln LF sn SF) (hN : NOk0 N) (hnx : 0 ≤ nx ∧ nx < 6) (hsz : 0 ≤ sz ∧ sz ≤ 6) (hx : -2147483648 ≤ x ∧ x < 2147483648) (h1 : 0 ≤ x ∧ x ≤ 100) : mG l yX8_setMirror wsX8_setMirror 4 124 K [.ref (ad 0), .int (iI x)] [gRLC K ad, gScn K (ad 3) (ad 14) (ad 15) (ad 16) (ad 17) ou mi bo ln LF sn SF, gHisC K (ad 5) (ad 22) nx sz, gQS K (ad 22) 6 (oP o), gSOs K o (List.range 6)] (fun (v : Value) (u : SR) => (v = .int (iI (if N 2 = 1 then N 3 else -1))) ∧ (ScR N u) ∧ (ScOk (upI (upI N 2 1) 3 x) ou 1 x ln LF sn SF)) (fun (u : SR) => [gRLC K ad, gScn K (ad 3) (ad 14) (ad 15) (ad 16) (ad 17) ou 1 x ln LF sn SF, gHisC K (ad 5) (ad 22) ((nx + 1) % 6) (min (sz + 1) 6), gQS K (ad 22) 6 (oP (oup o nx.toNat u)), gSOs K (oup o nx.toNat u) (List.range 6)]) 5 129 := by
  refine mG_of cX8_setMirror 3 (by decide) rfl (Nat.le_of_ble_eq_true rfl) ?_
  intro p e s m below meth c A ls Q S C hG hl hr hlk hin hQ
  have S : CallFix p m c cX8_setMirror 3 s ([.ref (ad 0), .int (iI x)] : List Value).toArray wsX8_setMirror RX8 := S
  have iX80 : ∀ w ∈ wsX80, w ∈ wsX8_setMirror := fun _ h => List.mem_cons_of_mem _ (List.mem_append_left _ (List.mem_append_left _ (List.mem_append_left _ (List.mem_append_left _ (List.mem_append_right _ (h))))))
  have iX50 : ∀ w ∈ wsX50, w ∈ wsX8_setMirror := fun _ h => List.mem_cons_of_mem _ (List.mem_append_left _ (List.mem_append_left _ (List.mem_append_left _ (List.mem_append_right _ (h)))))
  have iX10 : ∀ w ∈ wsX10, w ∈ wsX8_setMirror := fun _ h => List.mem_cons_of_mem _ (List.mem_append_left _ (List.mem_append_left _ (List.mem_append_right _ (h))))
  have iX70 : ∀ w ∈ wsX70, w ∈ wsX8_setMirror := fun _ h => List.mem_cons_of_mem _ (List.mem_append_left _ (List.mem_append_right _ (h)))
  have hl : lv_has ls 3 [(0, .ref (ad 0)), (1, .int (iI x))] := hl
  have hG : gW K A s.heap [gRLC K ad, gScn K (ad 3) (ad 14) (ad 15) (ad 16) (ad 17) ou mi bo ln LF sn SF, gHisC K (ad 5) (ad 22) nx sz, gQS K (ad 22) 6 (oP o), gSOs K o (List.range 6)] s.heap [] := hG
  obtain ⟨e0, e1, e2, e3, e4, e5, e6⟩ := id hS
  have n0 := hN.1
  have n3 := hN.2.2.2.1
  have n2 := hN.2.2.1
  refine lv_iload_n S.1 S.2.1 dX8_setMirror_0 rfl (lv_at hl 1 rfl) ?_
  refine g_iconst S dX8_setMirror_1 ?_
  refine g_bipush S dX8_setMirror_2 (by decide) ?_
  refine g_invSv (As := [.int (iI x), .int (iI 0), .int (iI 100)]) (rest := []) (gs' := (fun u : Unit => [gRLC K ad, gScn K (ad 3) (ad 14) (ad 15) (ad 16) (ad 17) ou mi bo ln LF sn SF, gHisC K (ad 5) (ad 22) nx sz, gQS K (ad 22) 6 (oP o), gSOs K o (List.range 6)])) S C hG [] (c_X8_checkRange l K x 0 100 hx (by omega) (by omega) h1) rfl rfl (va_cwS 3 S.2.2.2.2 gX8_setMirror_X8_checkRange rfl rfl rfl (by decide +kernel) ⟨Nat.le_of_ble_eq_true rfl, Nat.le_of_ble_eq_true rfl⟩) rfl hl.1 rfl (Nat.le_of_ble_eq_true rfl) dX8_setMirror_4 ⟨Nat.le_of_ble_eq_true rfl, Nat.le_of_ble_eq_true rfl⟩ (fun _ => Nat.le_of_ble_eq_true rfl) (fun _ => rfl) (fun u H locs hp hG => ?_)
  refine lv_aload_n S.1 S.2.1 dX8_setMirror_7 rfl (lv_at hl 0 rfl) ?_
  refine g_get S C hG iX80 0 rfl rfl 4 (by decide) (List.mem_of_getElem? (i := 1) rfl) rfl dX8_setMirror_8 ?_
  refine lv_aload_n S.1 S.2.1 dX8_setMirror_11 rfl (lv_at hl 0 rfl) ?_
  refine g_get S C hG iX80 0 rfl rfl 2 (by decide) (List.mem_of_getElem? (i := 2) rfl) rfl dX8_setMirror_12 ?_
  refine g_invVv (As := [.ref (ad 3)]) (rest := []) (gs' := (fun u : SR => [gRLC K ad, gScn K (ad 3) (ad 14) (ad 15) (ad 16) (ad 17) ou mi bo ln LF sn SF, gHisC K (ad 5) (ad 22) ((nx + 1) % 6) (min (sz + 1) 6), gQS K (ad 22) 6 (oP (oup o nx.toNat u)), gSOs K (oup o nx.toNat u) (List.range 6)])) S C hG [2, 3, 1, 4] (c_X1_remember l K (ad 5) (ad 22) nx sz o (ad 3) (ad 14) (ad 15) (ad 16) (ad 17) ou mi bo ln LF sn SF N hnx hsz hS hN) rfl rfl 0 rfl rfl (cwV 1 S.2.2.2.2 gX8_setMirror_X1_remember rfl rfl rfl (by decide +kernel) ⟨Nat.le_of_ble_eq_true rfl, Nat.le_of_ble_eq_true rfl⟩) rfl hl.1 rfl (Nat.le_of_ble_eq_true rfl) dX8_setMirror_15 ⟨Nat.le_of_ble_eq_true rfl, Nat.le_of_ble_eq_true rfl⟩ (fun _ => Nat.le_of_ble_eq_true rfl) (fun _ => rfl) (fun u H locs hp hG => ?_)
  obtain ⟨u9_15, rfl⟩ : ∃ z, z = u := ⟨_, rfl⟩
  have hr_15 := hp
  have hr_15 : ScR N u9_15 := hr_15
  have hG : gW K A s.heap [gRLC K ad, gScn K (ad 3) (ad 14) (ad 15) (ad 16) (ad 17) ou mi bo ln LF sn SF, gHisC K (ad 5) (ad 22) ((nx + 1) % 6) (min (sz + 1) 6), gQS K (ad 22) 6 (oP (oup o nx.toNat u9_15)), gSOs K (oup o nx.toNat u9_15) (List.range 6)] _ _ := hG
  refine lv_aload_n S.1 S.2.1 dX8_setMirror_18 rfl (lv_at hl 0 rfl) ?_
  refine g_get S C hG iX80 0 rfl rfl 2 (by decide) (List.mem_of_getElem? (i := 2) rfl) rfl dX8_setMirror_19 ?_
  refine g_get S C hG iX50 1 rfl rfl 3 (by decide) (List.mem_of_getElem? (i := 3) rfl) rfl dX8_setMirror_22 ?_
  refine g_if_eq (tgt := 38) S dX8_setMirror_25 (by decide) (by omega) (fun q25 => ?_) (fun q25 => ?_)
  · skip
    refine g_iconst S dX8_setMirror_38 ?_
    refine lv_istore_n (lv' := [(2, .int (iI (-1))), (0, .ref (ad 0)), (1, .int (iI x))]) S.1 S.2.1 dX8_setMirror_39 rfl hl (by decide) rfl (fun ls hl => ?_)
    refine lv_aload_n S.1 S.2.1 dX8_setMirror_40 rfl (lv_at hl 1 rfl) ?_
    refine g_get S C hG iX80 0 rfl rfl 2 (by decide) (List.mem_of_getElem? (i := 2) rfl) rfl dX8_setMirror_41 ?_
    refine g_iconst S dX8_setMirror_44 ?_
    refine lv_iload_n S.1 S.2.1 dX8_setMirror_45 rfl (lv_at hl 2 rfl) ?_
    have hG : gW K A s.heap [gRLC K ad, gScC K (ad 3) (ad 14) (ad 16) ou mi bo, gTabC K (ad 14) (ad 15) ln, gArr K 60 (ad 15) LF, gTabC K (ad 16) (ad 17) sn, gArr K 60 (ad 17) SF, gHisC K (ad 5) (ad 22) ((nx + 1) % 6) (min (sz + 1) 6), gQS K (ad 22) 6 (oP (oup o nx.toNat u9_15)), gSOs K (oup o nx.toNat u9_15) (List.range 6)] _ _ := hG
    refine g_invVv (As := [.int (iI 1), .int (iI x)]) (rest := []) (gs' := (fun u : Unit => [gRLC K ad, gScC K (ad 3) (ad 14) (ad 16) ou 1 x, gTabC K (ad 14) (ad 15) ln, gArr K 60 (ad 15) LF, gTabC K (ad 16) (ad 17) sn, gArr K 60 (ad 17) SF, gHisC K (ad 5) (ad 22) ((nx + 1) % 6) (min (sz + 1) 6), gQS K (ad 22) 6 (oP (oup o nx.toNat u9_15)), gSOs K (oup o nx.toNat u9_15) (List.range 6)])) S C hG [1] (c_X5_setBottom l K (ad 3) (ad 14) (ad 16) ou mi bo 1 x (Or.inr rfl)) rfl rfl 0 rfl rfl (cwV 2 S.2.2.2.2 gX8_setMirror_X5_setBottom rfl rfl rfl (by decide +kernel) ⟨Nat.le_of_ble_eq_true rfl, Nat.le_of_ble_eq_true rfl⟩) rfl hl.1 rfl (Nat.le_of_ble_eq_true rfl) dX8_setMirror_46 ⟨Nat.le_of_ble_eq_true rfl, Nat.le_of_ble_eq_true rfl⟩ (fun _ => Nat.le_of_ble_eq_true rfl) (fun _ => rfl) (fun u H locs hp hG => ?_)
    refine lv_iload_n S.1 S.2.1 dX8_setMirror_49 rfl (lv_at hl 0 rfl) ?_
    have hG : gW K A s.heap [gRLC K ad, gScn K (ad 3) (ad 14) (ad 15) (ad 16) (ad 17) ou 1 x ln LF sn SF, gHisC K (ad 5) (ad 22) ((nx + 1) % 6) (min (sz + 1) 6), gQS K (ad 22) 6 (oP (oup o nx.toNat u9_15)), gSOs K (oup o nx.toNat u9_15) (List.range 6)] _ _ := hG
    exact g_iret S hr hlk hQ dX8_setMirror_50 (Nat.le_of_ble_eq_true rfl) (Nat.le_of_ble_eq_true rfl) ((u9_15) : SR) ⟨(congrArg (fun z : Int => Value.int (iI z)) (by split <;> omega)), hr_15, (hS.up23 1 x)⟩ hG
  · skip
    refine lv_aload_n S.1 S.2.1 dX8_setMirror_28 rfl (lv_at hl 0 rfl) ?_
    refine g_get S C hG iX80 0 rfl rfl 2 (by decide) (List.mem_of_getElem? (i := 2) rfl) rfl dX8_setMirror_29 ?_
    refine g_get S C hG iX50 1 rfl rfl 4 (by decide) (List.mem_of_getElem? (i := 4) rfl) rfl dX8_setMirror_32 ?_
    refine lv_goto (tgt := 39) S.1 S.2.1 dX8_setMirror_35 (by decide) ?_
    refine lv_istore_n (lv' := [(2, .int (iI bo)), (0, .ref (ad 0)), (1, .int (iI x))]) S.1 S.2.1 dX8_setMirror_39 rfl hl (by decide) rfl (fun ls hl => ?_)
    refine lv_aload_n S.1 S.2.1 dX8_setMirror_40 rfl (lv_at hl 1 rfl) ?_
    refine g_get S C hG iX80 0 rfl rfl 2 (by decide) (List.mem_of_getElem? (i := 2) rfl) rfl dX8_setMirror_41 ?_
    refine g_iconst S dX8_setMirror_44 ?_
    refine lv_iload_n S.1 S.2.1 dX8_setMirror_45 rfl (lv_at hl 2 rfl) ?_
    have hG : gW K A s.heap [gRLC K ad, gScC K (ad 3) (ad 14) (ad 16) ou mi bo, gTabC K (ad 14) (ad 15) ln, gArr K 60 (ad 15) LF, gTabC K (ad 16) (ad 17) sn, gArr K 60 (ad 17) SF, gHisC K (ad 5) (ad 22) ((nx + 1) % 6) (min (sz + 1) 6), gQS K (ad 22) 6 (oP (oup o nx.toNat u9_15)), gSOs K (oup o nx.toNat u9_15) (List.range 6)] _ _ := hG
    refine g_invVv (As := [.int (iI 1), .int (iI x)]) (rest := []) (gs' := (fun u : Unit => [gRLC K ad, gScC K (ad 3) (ad 14) (ad 16) ou 1 x, gTabC K (ad 14) (ad 15) ln, gArr K 60 (ad 15) LF, gTabC K (ad 16) (ad 17) sn, gArr K 60 (ad 17) SF, gHisC K (ad 5) (ad 22) ((nx + 1) % 6) (min (sz + 1) 6), gQS K (ad 22) 6 (oP (oup o nx.toNat u9_15)), gSOs K (oup o nx.toNat u9_15) (List.range 6)])) S C hG [1] (c_X5_setBottom l K (ad 3) (ad 14) (ad 16) ou mi bo 1 x (Or.inr rfl)) rfl rfl 0 rfl rfl (cwV 2 S.2.2.2.2 gX8_setMirror_X5_setBottom rfl rfl rfl (by decide +kernel) ⟨Nat.le_of_ble_eq_true rfl, Nat.le_of_ble_eq_true rfl⟩) rfl hl.1 rfl (Nat.le_of_ble_eq_true rfl) dX8_setMirror_46 ⟨Nat.le_of_ble_eq_true rfl, Nat.le_of_ble_eq_true rfl⟩ (fun _ => Nat.le_of_ble_eq_true rfl) (fun _ => rfl) (fun u H locs hp hG => ?_)
    refine lv_iload_n S.1 S.2.1 dX8_setMirror_49 rfl (lv_at hl 0 rfl) ?_
    have hG : gW K A s.heap [gRLC K ad, gScn K (ad 3) (ad 14) (ad 15) (ad 16) (ad 17) ou 1 x ln LF sn SF, gHisC K (ad 5) (ad 22) ((nx + 1) % 6) (min (sz + 1) 6), gQS K (ad 22) 6 (oP (oup o nx.toNat u9_15)), gSOs K (oup o nx.toNat u9_15) (List.range 6)] _ _ := hG
    exact g_iret S hr hlk hQ dX8_setMirror_50 (Nat.le_of_ble_eq_true rfl) (Nat.le_of_ble_eq_true rfl) ((u9_15) : SR) ⟨(congrArg (fun z : Int => Value.int (iI z)) (by split <;> omega)), hr_15, (hS.up23 1 x)⟩ hG
set_option maxHeartbeats 1000000 in
set_option maxRecDepth 100000 in
theorem c_X8_shoot (l : Launch) (K : KC) (ad : Nat → Nat) (ou : Int) (mi : Int) (bo : Int) (ln : Int) (LF : Int → Int) (sn : Int) (SF : Int → Int) (N : Int → Int) (nx : Int) (sz : Int) (o : Nat → Option SR) (y : Int) (x : Int) (z : Int) (hS : ScOk N ou mi bo ln LF sn SF) (hN : NOk0 N) (hnx : 0 ≤ nx ∧ nx < 6) (hsz : 0 ≤ sz ∧ sz ≤ 6) (hv : -2147483648 ≤ y ∧ y < 2147483648) (hx : x = 0 ∨ x = 1) (hz : -2147483648 ≤ z ∧ z < 2147483648) (hy : 0 ≤ y ∧ y < N 0) (h1 : 0 ≤ z ∧ z ≤ 3999 ∧ z < nX N y) (h7 : N 4 < 20) : mG l yX8_shoot wsX8_shoot 4 124 K [.ref (ad 0), .int (iI y), .int (iI x), .int (iI z)] [gRLC K ad, gScn K (ad 3) (ad 14) (ad 15) (ad 16) (ad 17) ou mi bo ln LF sn SF, gHisC K (ad 5) (ad 22) nx sz, gQS K (ad 22) 6 (oP o), gSOs K o (List.range 6)] (fun (v : Value) (u : SR × (Int → Int)) => (v = .int (iI (N 4))) ∧ (ScR N u.1) ∧ (ScOk (addSN N y x z) ou mi bo ln LF (sn + 1) u.2)) (fun (u : SR × (Int → Int)) => [gRLC K ad, gScn K (ad 3) (ad 14) (ad 15) (ad 16) (ad 17) ou mi bo ln LF (sn + 1) u.2, gHisC K (ad 5) (ad 22) ((nx + 1) % 6) (min (sz + 1) 6), gQS K (ad 22) 6 (oP (oup o nx.toNat u.1)), gSOs K (oup o nx.toNat u.1) (List.range 6)]) 5 129 := by
  refine mG_of cX8_shoot 5 (by decide) rfl (Nat.le_of_ble_eq_true rfl) ?_
  intro p e s m below meth c A ls Q S C hG hl hr hlk hin hQ
  have S : CallFix p m c cX8_shoot 5 s ([.ref (ad 0), .int (iI y), .int (iI x), .int (iI z)] : List Value).toArray wsX8_shoot RX8 := S
  have iX80 : ∀ w ∈ wsX80, w ∈ wsX8_shoot := fun _ h => List.mem_cons_of_mem _ (List.mem_append_left _ (List.mem_append_left _ (List.mem_append_left _ (List.mem_append_left _ (List.mem_append_left _ (List.mem_append_left _ (List.mem_append_right _ (h))))))))
  have iX50 : ∀ w ∈ wsX50, w ∈ wsX8_shoot := fun _ h => List.mem_cons_of_mem _ (List.mem_append_left _ (List.mem_append_left _ (List.mem_append_left _ (List.mem_append_left _ (List.mem_append_left _ (List.mem_append_right _ (h)))))))
  have iX70 : ∀ w ∈ wsX70, w ∈ wsX8_shoot := fun _ h => List.mem_cons_of_mem _ (List.mem_append_left _ (List.mem_append_left _ (List.mem_append_left _ (List.mem_append_left _ (List.mem_append_right _ (h))))))
  have iX10 : ∀ w ∈ wsX10, w ∈ wsX8_shoot := fun _ h => List.mem_cons_of_mem _ (List.mem_append_left _ (List.mem_append_left _ (List.mem_append_left _ (List.mem_append_right _ (h)))))
  have hl : lv_has ls 5 [(0, .ref (ad 0)), (1, .int (iI y)), (2, .int (iI x)), (3, .int (iI z))] := hl
  have hG : gW K A s.heap [gRLC K ad, gScn K (ad 3) (ad 14) (ad 15) (ad 16) (ad 17) ou mi bo ln LF sn SF, gHisC K (ad 5) (ad 22) nx sz, gQS K (ad 22) 6 (oP o), gSOs K o (List.range 6)] s.heap [] := hG
  obtain ⟨e0, e1, e2, e3, e4, e5, e6⟩ := id hS
  have n0 := hN.1
  have n3 := hN.2.2.2.1
  have i9 := ixN_in hy
  have l9 := (lay_bd hN hy.1 hy.2).1
  refine lv_aload_n S.1 S.2.1 dX8_shoot_0 rfl (lv_at hl 0 rfl) ?_
  refine lv_iload_n S.1 S.2.1 dX8_shoot_1 rfl (lv_at hl 1 rfl) ?_
  refine g_invVv (As := [.int (iI y)]) (rest := []) (gs' := (fun u : Unit => [gRLC K ad, gScn K (ad 3) (ad 14) (ad 15) (ad 16) (ad 17) ou mi bo ln LF sn SF, gHisC K (ad 5) (ad 22) nx sz, gQS K (ad 22) 6 (oP o), gSOs K o (List.range 6)])) S C hG [0, 1] (c_X8_checkLayer l K ad ou mi bo ln LF sn SF N y hS hN hv hy) rfl rfl 0 rfl rfl (cwV 1 S.2.2.2.2 gX8_shoot_X8_checkLayer rfl rfl rfl (by decide +kernel) ⟨Nat.le_of_ble_eq_true rfl, Nat.le_of_ble_eq_true rfl⟩) rfl hl.1 rfl (Nat.le_of_ble_eq_true rfl) dX8_shoot_2 ⟨Nat.le_of_ble_eq_true rfl, Nat.le_of_ble_eq_true rfl⟩ (fun _ => Nat.le_of_ble_eq_true rfl) (fun _ => rfl) (fun u H locs hp hG => ?_)
  refine lv_iload_n S.1 S.2.1 dX8_shoot_5 rfl (lv_at hl 3 rfl) ?_
  refine g_iconst S dX8_shoot_6 ?_
  refine g_sipush S dX8_shoot_7 (by decide) ?_
  refine lv_aload_n S.1 S.2.1 dX8_shoot_10 rfl (lv_at hl 0 rfl) ?_
  refine g_get S C hG iX80 0 rfl rfl 2 (by decide) (List.mem_of_getElem? (i := 3) rfl) rfl dX8_shoot_11 ?_
  refine lv_iload_n S.1 S.2.1 dX8_shoot_14 rfl (lv_at hl 1 rfl) ?_
  refine g_invV (As := [.int (iI y)]) (rest := [.int (iI 3999), .int (iI 0), .int (iI z)]) (gs' := (fun u : Unit => [gRLC K ad, gScn K (ad 3) (ad 14) (ad 15) (ad 16) (ad 17) ou mi bo ln LF sn SF, gHisC K (ad 5) (ad 22) nx sz, gQS K (ad 22) 6 (oP o), gSOs K o (List.range 6)])) S C hG [1] (c_X5_indexAt l K (ad 3) (ad 14) (ad 15) (ad 16) (ad 17) ou mi bo ln LF sn SF N y hS hN hv) rfl rfl 0 rfl rfl (cwV 1 S.2.2.2.2 gX8_shoot_X5_indexAt rfl rfl rfl (by decide +kernel) ⟨Nat.le_of_ble_eq_true rfl, Nat.le_of_ble_eq_true rfl⟩) rfl hl.1 rfl (Nat.le_of_ble_eq_true rfl) dX8_shoot_15 ⟨Nat.le_of_ble_eq_true rfl, Nat.le_of_ble_eq_true rfl⟩ (fun _ => Nat.le_of_ble_eq_true rfl) (fun _ => rfl) (fun v u H locs hp hG => ?_)
  subst hp
  refine g_top (w := .int (iI (nX N y))) (congrArg (fun z : Int => Value.int (iI z)) (i9)) ?_
  refine g_iconst S dX8_shoot_18 ?_
  refine g_isub S dX8_shoot_19 rfl ?_
  refine va_mmin S.1 S.2.1 (by rw [S.2.2.1]; exact hl.1.symm) S.2.2.2.1 (S.2.2.2.2 _ (List.mem_of_getElem? (i := 4) rfl)) (S.2.2.2.2 _ (List.mem_of_getElem? (i := 5) rfl)) (S.2.2.2.2 _ (List.mem_of_getElem? (i := 6) rfl)) (S.2.2.2.2 _ (List.mem_of_getElem? (i := 7) rfl)) (Nat.le_of_ble_eq_true rfl) (Nat.le_of_ble_eq_true rfl) (Nat.le_of_ble_eq_true rfl) (Nat.le_of_ble_eq_true rfl) dX8_shoot_20 ?_
  refine g_top (w := .int (iI (min 3999 ((nX N y) - 1)))) (imin_eq (by omega) (by omega)) ?_
  refine g_invSv (As := [.int (iI z), .int (iI 0), .int (iI (min 3999 ((nX N y) - 1)))]) (rest := []) (gs' := (fun u : Unit => [gRLC K ad, gScn K (ad 3) (ad 14) (ad 15) (ad 16) (ad 17) ou mi bo ln LF sn SF, gHisC K (ad 5) (ad 22) nx sz, gQS K (ad 22) 6 (oP o), gSOs K o (List.range 6)])) S C hG [] (c_X8_checkRange l K z 0 (min 3999 ((nX N y) - 1)) hz (by omega) (by omega) (by omega)) rfl rfl (va_cwS 3 S.2.2.2.2 gX8_shoot_X8_checkRange rfl rfl rfl (by decide +kernel) ⟨Nat.le_of_ble_eq_true rfl, Nat.le_of_ble_eq_true rfl⟩) rfl hl.1 rfl (Nat.le_of_ble_eq_true rfl) dX8_shoot_23 ⟨Nat.le_of_ble_eq_true rfl, Nat.le_of_ble_eq_true rfl⟩ (fun _ => Nat.le_of_ble_eq_true rfl) (fun _ => rfl) (fun u H locs hp hG => ?_)
  refine lv_aload_n S.1 S.2.1 dX8_shoot_26 rfl (lv_at hl 0 rfl) ?_
  refine g_get S C hG iX80 0 rfl rfl 2 (by decide) (List.mem_of_getElem? (i := 3) rfl) rfl dX8_shoot_27 ?_
  refine g_get S C hG iX50 1 rfl rfl 1 (by decide) (List.mem_of_getElem? (i := 8) rfl) rfl dX8_shoot_30 ?_
  refine g_get S C hG iX70 4 rfl rfl 1 (by decide) (List.mem_of_getElem? (i := 9) rfl) rfl dX8_shoot_33 ?_
  refine lv_istore (lv' := [(4, .int (iI sn)), (0, .ref (ad 0)), (1, .int (iI y)), (2, .int (iI x)), (3, .int (iI z))]) S.1 S.2.1 dX8_shoot_36 hl (by decide) rfl (fun ls hl => ?_)
  refine lv_iload S.1 S.2.1 dX8_shoot_38 (lv_at hl 0 rfl) ?_
  refine g_bipush S dX8_shoot_40 (by decide) ?_
  refine g_icmp_lt (tgt := 56) S dX8_shoot_42 (by decide) (by omega) (by omega) (fun q42 => ?_) (fun q42 => ?_)
  · skip
    refine lv_aload_n S.1 S.2.1 dX8_shoot_56 rfl (lv_at hl 1 rfl) ?_
    refine g_get S C hG iX80 0 rfl rfl 4 (by decide) (List.mem_of_getElem? (i := 10) rfl) rfl dX8_shoot_57 ?_
    refine lv_aload_n S.1 S.2.1 dX8_shoot_60 rfl (lv_at hl 1 rfl) ?_
    refine g_get S C hG iX80 0 rfl rfl 2 (by decide) (List.mem_of_getElem? (i := 3) rfl) rfl dX8_shoot_61 ?_
    refine g_invVv (As := [.ref (ad 3)]) (rest := []) (gs' := (fun u : SR => [gRLC K ad, gScn K (ad 3) (ad 14) (ad 15) (ad 16) (ad 17) ou mi bo ln LF sn SF, gHisC K (ad 5) (ad 22) ((nx + 1) % 6) (min (sz + 1) 6), gQS K (ad 22) 6 (oP (oup o nx.toNat u)), gSOs K (oup o nx.toNat u) (List.range 6)])) S C hG [2, 3, 1, 4] (c_X1_remember l K (ad 5) (ad 22) nx sz o (ad 3) (ad 14) (ad 15) (ad 16) (ad 17) ou mi bo ln LF sn SF N hnx hsz hS hN) rfl rfl 0 rfl rfl (cwV 1 S.2.2.2.2 gX8_shoot_X1_remember rfl rfl rfl (by decide +kernel) ⟨Nat.le_of_ble_eq_true rfl, Nat.le_of_ble_eq_true rfl⟩) rfl hl.1 rfl (Nat.le_of_ble_eq_true rfl) dX8_shoot_64 ⟨Nat.le_of_ble_eq_true rfl, Nat.le_of_ble_eq_true rfl⟩ (fun _ => Nat.le_of_ble_eq_true rfl) (fun _ => rfl) (fun u H locs hp hG => ?_)
    obtain ⟨u9_64, rfl⟩ : ∃ z, z = u := ⟨_, rfl⟩
    have hr_64 := hp
    have hr_64 : ScR N u9_64 := hr_64
    have hG : gW K A s.heap [gRLC K ad, gScn K (ad 3) (ad 14) (ad 15) (ad 16) (ad 17) ou mi bo ln LF sn SF, gHisC K (ad 5) (ad 22) ((nx + 1) % 6) (min (sz + 1) 6), gQS K (ad 22) 6 (oP (oup o nx.toNat u9_64)), gSOs K (oup o nx.toNat u9_64) (List.range 6)] _ _ := hG
    refine lv_aload_n S.1 S.2.1 dX8_shoot_67 rfl (lv_at hl 1 rfl) ?_
    refine g_get S C hG iX80 0 rfl rfl 2 (by decide) (List.mem_of_getElem? (i := 3) rfl) rfl dX8_shoot_68 ?_
    refine g_get S C hG iX50 1 rfl rfl 1 (by decide) (List.mem_of_getElem? (i := 8) rfl) rfl dX8_shoot_71 ?_
    refine lv_iload S.1 S.2.1 dX8_shoot_74 (lv_at hl 0 rfl) ?_
    refine lv_iload_n S.1 S.2.1 dX8_shoot_76 rfl (lv_at hl 2 rfl) ?_
    refine lv_iload_n S.1 S.2.1 dX8_shoot_77 rfl (lv_at hl 3 rfl) ?_
    refine g_if_eq (tgt := 85) S dX8_shoot_78 (by decide) (by omega) (fun q78 => ?_) (fun q78 => ?_)
    · skip
      refine g_iconst S dX8_shoot_85 ?_
      refine g_top (w := .int (iI (x))) (congrArg (fun z : Int => Value.int (iI z)) ((by omega))) ?_
      refine lv_iload_n S.1 S.2.1 dX8_shoot_86 rfl (lv_at hl 4 rfl) ?_
      have hG : gW K A s.heap [gRLC K ad, gScC K (ad 3) (ad 14) (ad 16) ou mi bo, gTabC K (ad 14) (ad 15) ln, gArr K 60 (ad 15) LF, gTab K (ad 16) (ad 17) sn SF, gHisC K (ad 5) (ad 22) ((nx + 1) % 6) (min (sz + 1) 6), gQS K (ad 22) 6 (oP (oup o nx.toNat u9_64)), gSOs K (oup o nx.toNat u9_64) (List.range 6)] _ _ := hG
      refine g_invVv (As := [.int (iI sn), .int (iI y), .int (iI x), .int (iI z)]) (rest := []) (gs' := (fun u : (Int → Int) => [gRLC K ad, gScC K (ad 3) (ad 14) (ad 16) ou mi bo, gTabC K (ad 14) (ad 15) ln, gArr K 60 (ad 15) LF, gTab K (ad 16) (ad 17) (sn + 1) u, gHisC K (ad 5) (ad 22) ((nx + 1) % 6) (min (sz + 1) 6), gQS K (ad 22) 6 (oP (oup o nx.toNat u9_64)), gSOs K (oup o nx.toNat u9_64) (List.range 6)])) S C hG [4] (c_X7_insert l K (ad 16) (ad 17) sn SF sn y x z (by omega) (by omega)) rfl rfl 0 rfl rfl (cwV 4 S.2.2.2.2 gX8_shoot_X7_insert rfl rfl rfl (by decide +kernel) ⟨Nat.le_of_ble_eq_true rfl, Nat.le_of_ble_eq_true rfl⟩) rfl hl.1 rfl (Nat.le_of_ble_eq_true rfl) dX8_shoot_87 ⟨Nat.le_of_ble_eq_true rfl, Nat.le_of_ble_eq_true rfl⟩ (fun _ => Nat.le_of_ble_eq_true rfl) (fun _ => rfl) (fun u H locs hp hG => ?_)
      obtain ⟨F2_87, rfl⟩ : ∃ z, z = u := ⟨_, rfl⟩
      have hF_87 := hp
      have hF_87 : ∀ r k : Int, 0 ≤ k → k < 3 → F2_87 (r * 3 + k) = if r = sn then sel3 k y x z else if sn < r ∧ r ≤ sn then SF ((r - 1) * 3 + k) else SF (r * 3 + k) := hF_87
      have hG : gW K A s.heap [gRLC K ad, gScC K (ad 3) (ad 14) (ad 16) ou mi bo, gTabC K (ad 14) (ad 15) ln, gArr K 60 (ad 15) LF, gTab K (ad 16) (ad 17) (sn + 1) F2_87, gHisC K (ad 5) (ad 22) ((nx + 1) % 6) (min (sz + 1) 6), gQS K (ad 22) 6 (oP (oup o nx.toNat u9_64)), gSOs K (oup o nx.toNat u9_64) (List.range 6)] _ _ := hG
      refine lv_iload S.1 S.2.1 dX8_shoot_90 (lv_at hl 0 rfl) ?_
      have hG : gW K A s.heap [gRLC K ad, gScn K (ad 3) (ad 14) (ad 15) (ad 16) (ad 17) ou mi bo ln LF (sn + 1) F2_87, gHisC K (ad 5) (ad 22) ((nx + 1) % 6) (min (sz + 1) 6), gQS K (ad 22) 6 (oP (oup o nx.toNat u9_64)), gSOs K (oup o nx.toNat u9_64) (List.range 6)] _ _ := hG
      exact g_iret S hr hlk hQ dX8_shoot_92 (Nat.le_of_ble_eq_true rfl) (Nat.le_of_ble_eq_true rfl) ((u9_64, F2_87) : SR × (Int → Int)) ⟨(congrArg (fun z : Int => Value.int (iI z)) (by omega)), hr_64, (hS.addS hN hF_87)⟩ hG
    · skip
      refine g_iconst S dX8_shoot_81 ?_
      refine g_top (w := .int (iI (x))) (congrArg (fun z : Int => Value.int (iI z)) ((by omega))) ?_
      refine lv_goto (tgt := 86) S.1 S.2.1 dX8_shoot_82 (by decide) ?_
      refine lv_iload_n S.1 S.2.1 dX8_shoot_86 rfl (lv_at hl 4 rfl) ?_
      have hG : gW K A s.heap [gRLC K ad, gScC K (ad 3) (ad 14) (ad 16) ou mi bo, gTabC K (ad 14) (ad 15) ln, gArr K 60 (ad 15) LF, gTab K (ad 16) (ad 17) sn SF, gHisC K (ad 5) (ad 22) ((nx + 1) % 6) (min (sz + 1) 6), gQS K (ad 22) 6 (oP (oup o nx.toNat u9_64)), gSOs K (oup o nx.toNat u9_64) (List.range 6)] _ _ := hG
      refine g_invVv (As := [.int (iI sn), .int (iI y), .int (iI x), .int (iI z)]) (rest := []) (gs' := (fun u : (Int → Int) => [gRLC K ad, gScC K (ad 3) (ad 14) (ad 16) ou mi bo, gTabC K (ad 14) (ad 15) ln, gArr K 60 (ad 15) LF, gTab K (ad 16) (ad 17) (sn + 1) u, gHisC K (ad 5) (ad 22) ((nx + 1) % 6) (min (sz + 1) 6), gQS K (ad 22) 6 (oP (oup o nx.toNat u9_64)), gSOs K (oup o nx.toNat u9_64) (List.range 6)])) S C hG [4] (c_X7_insert l K (ad 16) (ad 17) sn SF sn y x z (by omega) (by omega)) rfl rfl 0 rfl rfl (cwV 4 S.2.2.2.2 gX8_shoot_X7_insert rfl rfl rfl (by decide +kernel) ⟨Nat.le_of_ble_eq_true rfl, Nat.le_of_ble_eq_true rfl⟩) rfl hl.1 rfl (Nat.le_of_ble_eq_true rfl) dX8_shoot_87 ⟨Nat.le_of_ble_eq_true rfl, Nat.le_of_ble_eq_true rfl⟩ (fun _ => Nat.le_of_ble_eq_true rfl) (fun _ => rfl) (fun u H locs hp hG => ?_)
      obtain ⟨F2_87, rfl⟩ : ∃ z, z = u := ⟨_, rfl⟩
      have hF_87 := hp
      have hF_87 : ∀ r k : Int, 0 ≤ k → k < 3 → F2_87 (r * 3 + k) = if r = sn then sel3 k y x z else if sn < r ∧ r ≤ sn then SF ((r - 1) * 3 + k) else SF (r * 3 + k) := hF_87
      have hG : gW K A s.heap [gRLC K ad, gScC K (ad 3) (ad 14) (ad 16) ou mi bo, gTabC K (ad 14) (ad 15) ln, gArr K 60 (ad 15) LF, gTab K (ad 16) (ad 17) (sn + 1) F2_87, gHisC K (ad 5) (ad 22) ((nx + 1) % 6) (min (sz + 1) 6), gQS K (ad 22) 6 (oP (oup o nx.toNat u9_64)), gSOs K (oup o nx.toNat u9_64) (List.range 6)] _ _ := hG
      refine lv_iload S.1 S.2.1 dX8_shoot_90 (lv_at hl 0 rfl) ?_
      have hG : gW K A s.heap [gRLC K ad, gScn K (ad 3) (ad 14) (ad 15) (ad 16) (ad 17) ou mi bo ln LF (sn + 1) F2_87, gHisC K (ad 5) (ad 22) ((nx + 1) % 6) (min (sz + 1) 6), gQS K (ad 22) 6 (oP (oup o nx.toNat u9_64)), gSOs K (oup o nx.toNat u9_64) (List.range 6)] _ _ := hG
      exact g_iret S hr hlk hQ dX8_shoot_92 (Nat.le_of_ble_eq_true rfl) (Nat.le_of_ble_eq_true rfl) ((u9_64, F2_87) : SR × (Int → Int)) ⟨(congrArg (fun z : Int => Value.int (iI z)) (by omega)), hr_64, (hS.addS hN hF_87)⟩ hG
  · skip
    omega
set_option maxHeartbeats 1000000 in
set_option maxRecDepth 100000 in
theorem x2_shoot (l : Launch) (K : KC) (ad : Nat → Nat) (ou : Int) (mi : Int) (bo : Int) (ln : Int) (LF : Int → Int) (sn : Int) (SF : Int → Int) (N : Int → Int) (y : Int) (x : Int) (z : Int) (hS : ScOk N ou mi bo ln LF sn SF) (hN : NOk0 N) (hv : -2147483648 ≤ y ∧ y < 2147483648) (hx : x = 0 ∨ x = 1) (hz : -2147483648 ≤ z ∧ z < 2147483648) (hy : 0 ≤ y ∧ y < N 0) (h1 : ¬ (0 ≤ z ∧ z ≤ 3999 ∧ z < nX N y)) (hst : l.stackTraces = false) : mX l yX8_shoot wsX8_shoot 7 104 K [.ref (ad 0), .int (iI y), .int (iI x), .int (iI z)] [gRLC K ad, gScn K (ad 3) (ad 14) (ad 15) (ad 16) (ad 17) ou mi bo ln LF sn SF] "java/lang/IllegalArgumentException" (fun (u : Unit) => True) (fun (u : Unit) => [gRLC K ad, gScn K (ad 3) (ad 14) (ad 15) (ad 16) (ad 17) ou mi bo ln LF sn SF]) 1 6 := by
  refine mX_of cX8_shoot 5 (by decide) rfl (Nat.le_of_ble_eq_true rfl) ?_
  intro p e s m below meth c A ls Q S C hG hl hex hlk hin hQ
  have S : CallFix p m c cX8_shoot 5 s ([.ref (ad 0), .int (iI y), .int (iI x), .int (iI z)] : List Value).toArray wsX8_shoot RX8 := S
  have iX80 : ∀ w ∈ wsX80, w ∈ wsX8_shoot := fun _ h => List.mem_cons_of_mem _ (List.mem_append_left _ (List.mem_append_left _ (List.mem_append_left _ (List.mem_append_left _ (List.mem_append_left _ (List.mem_append_left _ (List.mem_append_right _ (h))))))))
  have iX50 : ∀ w ∈ wsX50, w ∈ wsX8_shoot := fun _ h => List.mem_cons_of_mem _ (List.mem_append_left _ (List.mem_append_left _ (List.mem_append_left _ (List.mem_append_left _ (List.mem_append_left _ (List.mem_append_right _ (h)))))))
  have iX70 : ∀ w ∈ wsX70, w ∈ wsX8_shoot := fun _ h => List.mem_cons_of_mem _ (List.mem_append_left _ (List.mem_append_left _ (List.mem_append_left _ (List.mem_append_left _ (List.mem_append_right _ (h))))))
  have iX10 : ∀ w ∈ wsX10, w ∈ wsX8_shoot := fun _ h => List.mem_cons_of_mem _ (List.mem_append_left _ (List.mem_append_left _ (List.mem_append_left _ (List.mem_append_right _ (h)))))
  have hl : lv_has ls 5 [(0, .ref (ad 0)), (1, .int (iI y)), (2, .int (iI x)), (3, .int (iI z))] := hl
  have hG : gW K A s.heap [gRLC K ad, gScn K (ad 3) (ad 14) (ad 15) (ad 16) (ad 17) ou mi bo ln LF sn SF] s.heap [] := hG
  obtain ⟨e0, e1, e2, e3, e4, e5, e6⟩ := id hS
  have n0 := hN.1
  have n3 := hN.2.2.2.1
  have i9 := ixN_in hy
  have l9 := (lay_bd hN hy.1 hy.2).1
  refine lv_aload_n S.1 S.2.1 dX8_shoot_0 rfl (lv_at hl 0 rfl) ?_
  refine lv_iload_n S.1 S.2.1 dX8_shoot_1 rfl (lv_at hl 1 rfl) ?_
  refine g_invVv (As := [.int (iI y)]) (rest := []) (gs' := (fun u : Unit => [gRLC K ad, gScn K (ad 3) (ad 14) (ad 15) (ad 16) (ad 17) ou mi bo ln LF sn SF])) S C hG [0, 1] (c_X8_checkLayer l K ad ou mi bo ln LF sn SF N y hS hN hv hy) rfl rfl 0 rfl rfl (cwV 1 S.2.2.2.2 gX8_shoot_X8_checkLayer rfl rfl rfl (by decide +kernel) ⟨Nat.le_of_ble_eq_true rfl, Nat.le_of_ble_eq_true rfl⟩) rfl hl.1 rfl (Nat.le_of_ble_eq_true rfl) dX8_shoot_2 ⟨Nat.le_of_ble_eq_true rfl, Nat.le_of_ble_eq_true rfl⟩ (fun _ => Nat.le_of_ble_eq_true rfl) (fun _ => rfl) (fun u H locs hp hG => ?_)
  refine lv_iload_n S.1 S.2.1 dX8_shoot_5 rfl (lv_at hl 3 rfl) ?_
  refine g_iconst S dX8_shoot_6 ?_
  refine g_sipush S dX8_shoot_7 (by decide) ?_
  refine lv_aload_n S.1 S.2.1 dX8_shoot_10 rfl (lv_at hl 0 rfl) ?_
  refine g_get S C hG iX80 0 rfl rfl 2 (by decide) (List.mem_of_getElem? (i := 3) rfl) rfl dX8_shoot_11 ?_
  refine lv_iload_n S.1 S.2.1 dX8_shoot_14 rfl (lv_at hl 1 rfl) ?_
  refine g_invV (As := [.int (iI y)]) (rest := [.int (iI 3999), .int (iI 0), .int (iI z)]) (gs' := (fun u : Unit => [gRLC K ad, gScn K (ad 3) (ad 14) (ad 15) (ad 16) (ad 17) ou mi bo ln LF sn SF])) S C hG [1] (c_X5_indexAt l K (ad 3) (ad 14) (ad 15) (ad 16) (ad 17) ou mi bo ln LF sn SF N y hS hN hv) rfl rfl 0 rfl rfl (cwV 1 S.2.2.2.2 gX8_shoot_X5_indexAt rfl rfl rfl (by decide +kernel) ⟨Nat.le_of_ble_eq_true rfl, Nat.le_of_ble_eq_true rfl⟩) rfl hl.1 rfl (Nat.le_of_ble_eq_true rfl) dX8_shoot_15 ⟨Nat.le_of_ble_eq_true rfl, Nat.le_of_ble_eq_true rfl⟩ (fun _ => Nat.le_of_ble_eq_true rfl) (fun _ => rfl) (fun v u H locs hp hG => ?_)
  subst hp
  refine g_top (w := .int (iI (nX N y))) (congrArg (fun z : Int => Value.int (iI z)) (i9)) ?_
  refine g_iconst S dX8_shoot_18 ?_
  refine g_isub S dX8_shoot_19 rfl ?_
  refine va_mmin S.1 S.2.1 (by rw [S.2.2.1]; exact hl.1.symm) S.2.2.2.1 (S.2.2.2.2 _ (List.mem_of_getElem? (i := 4) rfl)) (S.2.2.2.2 _ (List.mem_of_getElem? (i := 5) rfl)) (S.2.2.2.2 _ (List.mem_of_getElem? (i := 6) rfl)) (S.2.2.2.2 _ (List.mem_of_getElem? (i := 7) rfl)) (Nat.le_of_ble_eq_true rfl) (Nat.le_of_ble_eq_true rfl) (Nat.le_of_ble_eq_true rfl) (Nat.le_of_ble_eq_true rfl) dX8_shoot_20 ?_
  refine g_top (w := .int (iI (min 3999 ((nX N y) - 1)))) (imin_eq (by omega) (by omega)) ?_
  refine g_xS (E := "java/lang/IllegalArgumentException") (As := [.int (iI z), .int (iI 0), .int (iI (min 3999 ((nX N y) - 1)))]) (rest := []) (gs' := (fun u : Unit => [gRLC K ad, gScn K (ad 3) (ad 14) (ad 15) (ad 16) (ad 17) ou mi bo ln LF sn SF])) S C hG [] (x_checkRange l K z 0 (min 3999 ((nX N y) - 1)) hz (by omega) (by omega) (by omega) hst) rfl rfl (va_cwS 3 S.2.2.2.2 gX8_shoot_X8_checkRange rfl rfl rfl (by decide +kernel) ⟨Nat.le_of_ble_eq_true rfl, Nat.le_of_ble_eq_true rfl⟩) rfl hl.1 rfl (Nat.le_of_ble_eq_true rfl) dX8_shoot_23 ⟨Nat.le_of_ble_eq_true rfl, Nat.le_of_ble_eq_true rfl⟩ (fun _ => Nat.le_of_ble_eq_true rfl) (fun _ => rfl) (fun u q9 ce9 H locs hp hG hq9 hv9 hcl9 => ?_)
  have hG : gW K A s.heap [gRLC K ad, gScn K (ad 3) (ad 14) (ad 15) (ad 16) (ad 17) ou mi bo ln LF sn SF] _ _ := hG
  exact g_xout hQ hex hlk hq9 hv9 hcl9 (Nat.le_of_ble_eq_true rfl) (Nat.le_of_ble_eq_true rfl) (() : Unit) trivial hG
set_option maxHeartbeats 1000000 in
set_option maxRecDepth 100000 in
theorem x3_shoot (l : Launch) (K : KC) (ad : Nat → Nat) (ou : Int) (mi : Int) (bo : Int) (ln : Int) (LF : Int → Int) (sn : Int) (SF : Int → Int) (N : Int → Int) (y : Int) (x : Int) (z : Int) (hS : ScOk N ou mi bo ln LF sn SF) (hN : NOk0 N) (hv : -2147483648 ≤ y ∧ y < 2147483648) (hx : x = 0 ∨ x = 1) (hz : -2147483648 ≤ z ∧ z < 2147483648) (hy : 0 ≤ y ∧ y < N 0) (h1 : 0 ≤ z ∧ z ≤ 3999 ∧ z < nX N y) (h7 : ¬ N 4 < 20) (hst : l.stackTraces = false) : mX l yX8_shoot wsX8_shoot 6 82 K [.ref (ad 0), .int (iI y), .int (iI x), .int (iI z)] [gRLC K ad, gScn K (ad 3) (ad 14) (ad 15) (ad 16) (ad 17) ou mi bo ln LF sn SF] "java/lang/IllegalStateException" (fun (u : Unit) => True) (fun (u : Unit) => [gRLC K ad, gScn K (ad 3) (ad 14) (ad 15) (ad 16) (ad 17) ou mi bo ln LF sn SF]) 1 6 := by
  refine mX_of cX8_shoot 5 (by decide) rfl (Nat.le_of_ble_eq_true rfl) ?_
  intro p e s m below meth c A ls Q S C hG hl hex hlk hin hQ
  have S : CallFix p m c cX8_shoot 5 s ([.ref (ad 0), .int (iI y), .int (iI x), .int (iI z)] : List Value).toArray wsX8_shoot RX8 := S
  have iX80 : ∀ w ∈ wsX80, w ∈ wsX8_shoot := fun _ h => List.mem_cons_of_mem _ (List.mem_append_left _ (List.mem_append_left _ (List.mem_append_left _ (List.mem_append_left _ (List.mem_append_left _ (List.mem_append_left _ (List.mem_append_right _ (h))))))))
  have iX50 : ∀ w ∈ wsX50, w ∈ wsX8_shoot := fun _ h => List.mem_cons_of_mem _ (List.mem_append_left _ (List.mem_append_left _ (List.mem_append_left _ (List.mem_append_left _ (List.mem_append_left _ (List.mem_append_right _ (h)))))))
  have iX70 : ∀ w ∈ wsX70, w ∈ wsX8_shoot := fun _ h => List.mem_cons_of_mem _ (List.mem_append_left _ (List.mem_append_left _ (List.mem_append_left _ (List.mem_append_left _ (List.mem_append_right _ (h))))))
  have iX10 : ∀ w ∈ wsX10, w ∈ wsX8_shoot := fun _ h => List.mem_cons_of_mem _ (List.mem_append_left _ (List.mem_append_left _ (List.mem_append_left _ (List.mem_append_right _ (h)))))
  have hl : lv_has ls 5 [(0, .ref (ad 0)), (1, .int (iI y)), (2, .int (iI x)), (3, .int (iI z))] := hl
  have hG : gW K A s.heap [gRLC K ad, gScn K (ad 3) (ad 14) (ad 15) (ad 16) (ad 17) ou mi bo ln LF sn SF] s.heap [] := hG
  obtain ⟨e0, e1, e2, e3, e4, e5, e6⟩ := id hS
  have n0 := hN.1
  have n3 := hN.2.2.2.1
  have i9 := ixN_in hy
  have l9 := (lay_bd hN hy.1 hy.2).1
  refine lv_aload_n S.1 S.2.1 dX8_shoot_0 rfl (lv_at hl 0 rfl) ?_
  refine lv_iload_n S.1 S.2.1 dX8_shoot_1 rfl (lv_at hl 1 rfl) ?_
  refine g_invVv (As := [.int (iI y)]) (rest := []) (gs' := (fun u : Unit => [gRLC K ad, gScn K (ad 3) (ad 14) (ad 15) (ad 16) (ad 17) ou mi bo ln LF sn SF])) S C hG [0, 1] (c_X8_checkLayer l K ad ou mi bo ln LF sn SF N y hS hN hv hy) rfl rfl 0 rfl rfl (cwV 1 S.2.2.2.2 gX8_shoot_X8_checkLayer rfl rfl rfl (by decide +kernel) ⟨Nat.le_of_ble_eq_true rfl, Nat.le_of_ble_eq_true rfl⟩) rfl hl.1 rfl (Nat.le_of_ble_eq_true rfl) dX8_shoot_2 ⟨Nat.le_of_ble_eq_true rfl, Nat.le_of_ble_eq_true rfl⟩ (fun _ => Nat.le_of_ble_eq_true rfl) (fun _ => rfl) (fun u H locs hp hG => ?_)
  refine lv_iload_n S.1 S.2.1 dX8_shoot_5 rfl (lv_at hl 3 rfl) ?_
  refine g_iconst S dX8_shoot_6 ?_
  refine g_sipush S dX8_shoot_7 (by decide) ?_
  refine lv_aload_n S.1 S.2.1 dX8_shoot_10 rfl (lv_at hl 0 rfl) ?_
  refine g_get S C hG iX80 0 rfl rfl 2 (by decide) (List.mem_of_getElem? (i := 3) rfl) rfl dX8_shoot_11 ?_
  refine lv_iload_n S.1 S.2.1 dX8_shoot_14 rfl (lv_at hl 1 rfl) ?_
  refine g_invV (As := [.int (iI y)]) (rest := [.int (iI 3999), .int (iI 0), .int (iI z)]) (gs' := (fun u : Unit => [gRLC K ad, gScn K (ad 3) (ad 14) (ad 15) (ad 16) (ad 17) ou mi bo ln LF sn SF])) S C hG [1] (c_X5_indexAt l K (ad 3) (ad 14) (ad 15) (ad 16) (ad 17) ou mi bo ln LF sn SF N y hS hN hv) rfl rfl 0 rfl rfl (cwV 1 S.2.2.2.2 gX8_shoot_X5_indexAt rfl rfl rfl (by decide +kernel) ⟨Nat.le_of_ble_eq_true rfl, Nat.le_of_ble_eq_true rfl⟩) rfl hl.1 rfl (Nat.le_of_ble_eq_true rfl) dX8_shoot_15 ⟨Nat.le_of_ble_eq_true rfl, Nat.le_of_ble_eq_true rfl⟩ (fun _ => Nat.le_of_ble_eq_true rfl) (fun _ => rfl) (fun v u H locs hp hG => ?_)
  subst hp
  refine g_top (w := .int (iI (nX N y))) (congrArg (fun z : Int => Value.int (iI z)) (i9)) ?_
  refine g_iconst S dX8_shoot_18 ?_
  refine g_isub S dX8_shoot_19 rfl ?_
  refine va_mmin S.1 S.2.1 (by rw [S.2.2.1]; exact hl.1.symm) S.2.2.2.1 (S.2.2.2.2 _ (List.mem_of_getElem? (i := 4) rfl)) (S.2.2.2.2 _ (List.mem_of_getElem? (i := 5) rfl)) (S.2.2.2.2 _ (List.mem_of_getElem? (i := 6) rfl)) (S.2.2.2.2 _ (List.mem_of_getElem? (i := 7) rfl)) (Nat.le_of_ble_eq_true rfl) (Nat.le_of_ble_eq_true rfl) (Nat.le_of_ble_eq_true rfl) (Nat.le_of_ble_eq_true rfl) dX8_shoot_20 ?_
  refine g_top (w := .int (iI (min 3999 ((nX N y) - 1)))) (imin_eq (by omega) (by omega)) ?_
  refine g_invSv (As := [.int (iI z), .int (iI 0), .int (iI (min 3999 ((nX N y) - 1)))]) (rest := []) (gs' := (fun u : Unit => [gRLC K ad, gScn K (ad 3) (ad 14) (ad 15) (ad 16) (ad 17) ou mi bo ln LF sn SF])) S C hG [] (c_X8_checkRange l K z 0 (min 3999 ((nX N y) - 1)) hz (by omega) (by omega) (by omega)) rfl rfl (va_cwS 3 S.2.2.2.2 gX8_shoot_X8_checkRange rfl rfl rfl (by decide +kernel) ⟨Nat.le_of_ble_eq_true rfl, Nat.le_of_ble_eq_true rfl⟩) rfl hl.1 rfl (Nat.le_of_ble_eq_true rfl) dX8_shoot_23 ⟨Nat.le_of_ble_eq_true rfl, Nat.le_of_ble_eq_true rfl⟩ (fun _ => Nat.le_of_ble_eq_true rfl) (fun _ => rfl) (fun u H locs hp hG => ?_)
  refine lv_aload_n S.1 S.2.1 dX8_shoot_26 rfl (lv_at hl 0 rfl) ?_
  refine g_get S C hG iX80 0 rfl rfl 2 (by decide) (List.mem_of_getElem? (i := 3) rfl) rfl dX8_shoot_27 ?_
  refine g_get S C hG iX50 1 rfl rfl 1 (by decide) (List.mem_of_getElem? (i := 8) rfl) rfl dX8_shoot_30 ?_
  refine g_get S C hG iX70 4 rfl rfl 1 (by decide) (List.mem_of_getElem? (i := 9) rfl) rfl dX8_shoot_33 ?_
  refine lv_istore (lv' := [(4, .int (iI sn)), (0, .ref (ad 0)), (1, .int (iI y)), (2, .int (iI x)), (3, .int (iI z))]) S.1 S.2.1 dX8_shoot_36 hl (by decide) rfl (fun ls hl => ?_)
  refine lv_iload S.1 S.2.1 dX8_shoot_38 (lv_at hl 0 rfl) ?_
  refine g_bipush S dX8_shoot_40 (by decide) ?_
  refine g_icmp_lt (tgt := 56) S dX8_shoot_42 (by decide) (by omega) (by omega) (fun q42 => ?_) (fun q42 => ?_)
  · skip
    omega
  · skip
    have hG : gW K A s.heap [gRLC K ad, gScn K (ad 3) (ad 14) (ad 15) (ad 16) (ad 17) ou mi bo ln LF sn SF] _ _ := hG
    exact g_thrW S C hl.1 hst hQ hex hlk th_ex_93 th_ft_93 (List.mem_of_getElem? (i := 1) rfl) (List.mem_of_getElem? (i := 2) rfl) (List.mem_of_getElem? (l := strW) (i := 24) rfl) (fun w hw => List.mem_cons_of_mem _ (List.mem_append_left _ (List.mem_append_left _ (List.mem_append_right _ (hw))))) th_ng_93 th_gd_93 dX8_shoot_45 dX8_shoot_48 dX8_shoot_49 dX8_shoot_52 dX8_shoot_55 ⟨Nat.le_of_ble_eq_true rfl, Nat.le_of_ble_eq_true rfl, Nat.le_of_ble_eq_true rfl, Nat.le_of_ble_eq_true rfl⟩ (Nat.le_of_ble_eq_true rfl) (Nat.le_of_ble_eq_true rfl) (() : Unit) trivial hG
set_option maxHeartbeats 1000000 in
set_option maxRecDepth 100000 in
theorem c_X8_turn (l : Launch) (K : KC) (ad : Nat → Nat) (ou : Int) (mi : Int) (bo : Int) (ln : Int) (LF : Int → Int) (sn : Int) (SF : Int → Int) (N : Int → Int) (nx : Int) (sz : Int) (o : Nat → Option SR) (rs : Nat) (rv : RU) (XF : Int → Int) (y : Int) (x : Int) (hS : ScOk N ou mi bo ln LF sn SF) (hN : NOk0 N) (hnx : 0 ≤ nx ∧ nx < 6) (hsz : 0 ≤ sz ∧ sz ≤ 6) (hv : -2147483648 ≤ y ∧ y < 2147483648) (hx : -2147483648 ≤ x ∧ x < 2147483648) (hs : 0 ≤ y ∧ y < N 4) (h1 : 0 ≤ x ∧ x ≤ 3999) : mG l yX8_turn wsX8_turn 5 124 K [.ref (ad 0), .int (iI y), .int (iI x)] [gRLC K ad, gScn K (ad 3) (ad 14) (ad 15) (ad 16) (ad 17) ou mi bo ln LF sn SF, gHisC K (ad 5) (ad 22) nx sz, gQS K (ad 22) 6 (oP o), gRayU K (ad 7) (ad 23) (ad 24) (ad 25) (ad 26) rs rv XF, gSOs K o (List.range 6)] (fun (v : Value) (u : SR × (Int → Int) × RU × (Int → Int)) => (v = .int (iI (eS (upI N (35 + 3 * y + 2) x) y))) ∧ (ScR N u.1) ∧ (ScOk (upI N (35 + 3 * y + 2) x) ou mi bo ln LF sn u.2.1)) (fun (u : SR × (Int → Int) × RU × (Int → Int)) => [gRLC K ad, gScn K (ad 3) (ad 14) (ad 15) (ad 16) (ad 17) ou mi bo ln LF sn u.2.1, gHisC K (ad 5) (ad 22) ((nx + 1) % 6) (min (sz + 1) 6), gQS K (ad 22) 6 (oP (oup o nx.toNat u.1)), gRayU K (ad 7) (ad 23) (ad 24) (ad 25) (ad 26) (ad 3) u.2.2.1 u.2.2.2, gSOs K (oup o nx.toNat u.1) (List.range 6)]) 5 129 := by
  refine mG_of cX8_turn 3 (by decide) rfl (Nat.le_of_ble_eq_true rfl) ?_
  intro p e s m below meth c A ls Q S C hG hl hr hlk hin hQ
  have S : CallFix p m c cX8_turn 3 s ([.ref (ad 0), .int (iI y), .int (iI x)] : List Value).toArray wsX8_turn RX8 := S
  have iX80 : ∀ w ∈ wsX80, w ∈ wsX8_turn := fun _ h => List.mem_cons_of_mem _ (List.mem_append_left _ (List.mem_append_left _ (List.mem_append_left _ (List.mem_append_left _ (List.mem_append_left _ (List.mem_append_left _ (List.mem_append_right _ (h))))))))
  have iX50 : ∀ w ∈ wsX50, w ∈ wsX8_turn := fun _ h => List.mem_cons_of_mem _ (List.mem_append_left _ (List.mem_append_left _ (List.mem_append_left _ (List.mem_append_left _ (List.mem_append_left _ (List.mem_append_right _ (h)))))))
  have iX40 : ∀ w ∈ wsX40, w ∈ wsX8_turn := fun _ h => List.mem_cons_of_mem _ (List.mem_append_left _ (List.mem_append_left _ (List.mem_append_left _ (List.mem_append_left _ (List.mem_append_right _ (h))))))
  have iX70 : ∀ w ∈ wsX70, w ∈ wsX8_turn := fun _ h => List.mem_cons_of_mem _ (List.mem_append_left _ (List.mem_append_left _ (List.mem_append_left _ (List.mem_append_right _ (h)))))
  have iX10 : ∀ w ∈ wsX10, w ∈ wsX8_turn := fun _ h => List.mem_cons_of_mem _ (List.mem_append_left _ (List.mem_append_left _ (List.mem_append_right _ (h))))
  have hl : lv_has ls 3 [(0, .ref (ad 0)), (1, .int (iI y)), (2, .int (iI x))] := hl
  have hG : gW K A s.heap [gRLC K ad, gScn K (ad 3) (ad 14) (ad 15) (ad 16) (ad 17) ou mi bo ln LF sn SF, gHisC K (ad 5) (ad 22) nx sz, gQS K (ad 22) 6 (oP o), gRayU K (ad 7) (ad 23) (ad 24) (ad 25) (ad 26) rs rv XF, gSOs K o (List.range 6)] s.heap [] := hG
  obtain ⟨e0, e1, e2, e3, e4, e5, e6⟩ := id hS
  have n0 := hN.1
  have n3 := hN.2.2.2.1
  have hS2 := hS.setS (v := x) hN hs (show (0 : Int) ≤ 2 ∧ (2 : Int) < 3 by decide)
  have hN2 := hN.setS hs h1
  have h42 : upI N (35 + 3 * y + 2) x 4 = N 4 := upI_n _ _ (by omega)
  refine lv_aload_n S.1 S.2.1 dX8_turn_0 rfl (lv_at hl 0 rfl) ?_
  refine lv_iload_n S.1 S.2.1 dX8_turn_1 rfl (lv_at hl 1 rfl) ?_
  refine g_invVv (As := [.int (iI y)]) (rest := []) (gs' := (fun u : Unit => [gRLC K ad, gScn K (ad 3) (ad 14) (ad 15) (ad 16) (ad 17) ou mi bo ln LF sn SF, gHisC K (ad 5) (ad 22) nx sz, gQS K (ad 22) 6 (oP o), gRayU K (ad 7) (ad 23) (ad 24) (ad 25) (ad 26) rs rv XF, gSOs K o (List.range 6)])) S C hG [0, 1] (c_X8_checkShot l K ad ou mi bo ln LF sn SF N y hS hN hv hs) rfl rfl 0 rfl rfl (cwV 1 S.2.2.2.2 gX8_turn_X8_checkShot rfl rfl rfl (by decide +kernel) ⟨Nat.le_of_ble_eq_true rfl, Nat.le_of_ble_eq_true rfl⟩) rfl hl.1 rfl (Nat.le_of_ble_eq_true rfl) dX8_turn_2 ⟨Nat.le_of_ble_eq_true rfl, Nat.le_of_ble_eq_true rfl⟩ (fun _ => Nat.le_of_ble_eq_true rfl) (fun _ => rfl) (fun u H locs hp hG => ?_)
  refine lv_iload_n S.1 S.2.1 dX8_turn_5 rfl (lv_at hl 2 rfl) ?_
  refine g_iconst S dX8_turn_6 ?_
  refine g_sipush S dX8_turn_7 (by decide) ?_
  refine g_invSv (As := [.int (iI x), .int (iI 0), .int (iI 3999)]) (rest := []) (gs' := (fun u : Unit => [gRLC K ad, gScn K (ad 3) (ad 14) (ad 15) (ad 16) (ad 17) ou mi bo ln LF sn SF, gHisC K (ad 5) (ad 22) nx sz, gQS K (ad 22) 6 (oP o), gRayU K (ad 7) (ad 23) (ad 24) (ad 25) (ad 26) rs rv XF, gSOs K o (List.range 6)])) S C hG [] (c_X8_checkRange l K x 0 3999 hx (by omega) (by omega) h1) rfl rfl (va_cwS 3 S.2.2.2.2 gX8_turn_X8_checkRange rfl rfl rfl (by decide +kernel) ⟨Nat.le_of_ble_eq_true rfl, Nat.le_of_ble_eq_true rfl⟩) rfl hl.1 rfl (Nat.le_of_ble_eq_true rfl) dX8_turn_10 ⟨Nat.le_of_ble_eq_true rfl, Nat.le_of_ble_eq_true rfl⟩ (fun _ => Nat.le_of_ble_eq_true rfl) (fun _ => rfl) (fun u H locs hp hG => ?_)
  refine lv_aload_n S.1 S.2.1 dX8_turn_13 rfl (lv_at hl 0 rfl) ?_
  refine g_get S C hG iX80 0 rfl rfl 4 (by decide) (List.mem_of_getElem? (i := 1) rfl) rfl dX8_turn_14 ?_
  refine lv_aload_n S.1 S.2.1 dX8_turn_17 rfl (lv_at hl 0 rfl) ?_
  refine g_get S C hG iX80 0 rfl rfl 2 (by decide) (List.mem_of_getElem? (i := 2) rfl) rfl dX8_turn_18 ?_
  refine g_invVv (As := [.ref (ad 3)]) (rest := []) (gs' := (fun u : SR => [gRLC K ad, gScn K (ad 3) (ad 14) (ad 15) (ad 16) (ad 17) ou mi bo ln LF sn SF, gHisC K (ad 5) (ad 22) ((nx + 1) % 6) (min (sz + 1) 6), gQS K (ad 22) 6 (oP (oup o nx.toNat u)), gRayU K (ad 7) (ad 23) (ad 24) (ad 25) (ad 26) rs rv XF, gSOs K (oup o nx.toNat u) (List.range 6)])) S C hG [2, 3, 1, 5] (c_X1_remember l K (ad 5) (ad 22) nx sz o (ad 3) (ad 14) (ad 15) (ad 16) (ad 17) ou mi bo ln LF sn SF N hnx hsz hS hN) rfl rfl 0 rfl rfl (cwV 1 S.2.2.2.2 gX8_turn_X1_remember rfl rfl rfl (by decide +kernel) ⟨Nat.le_of_ble_eq_true rfl, Nat.le_of_ble_eq_true rfl⟩) rfl hl.1 rfl (Nat.le_of_ble_eq_true rfl) dX8_turn_21 ⟨Nat.le_of_ble_eq_true rfl, Nat.le_of_ble_eq_true rfl⟩ (fun _ => Nat.le_of_ble_eq_true rfl) (fun _ => rfl) (fun u H locs hp hG => ?_)
  obtain ⟨u9_21, rfl⟩ : ∃ z, z = u := ⟨_, rfl⟩
  have hr_21 := hp
  have hr_21 : ScR N u9_21 := hr_21
  have hG : gW K A s.heap [gRLC K ad, gScn K (ad 3) (ad 14) (ad 15) (ad 16) (ad 17) ou mi bo ln LF sn SF, gHisC K (ad 5) (ad 22) ((nx + 1) % 6) (min (sz + 1) 6), gQS K (ad 22) 6 (oP (oup o nx.toNat u9_21)), gRayU K (ad 7) (ad 23) (ad 24) (ad 25) (ad 26) rs rv XF, gSOs K (oup o nx.toNat u9_21) (List.range 6)] _ _ := hG
  refine lv_aload_n S.1 S.2.1 dX8_turn_24 rfl (lv_at hl 0 rfl) ?_
  refine g_get S C hG iX80 0 rfl rfl 2 (by decide) (List.mem_of_getElem? (i := 2) rfl) rfl dX8_turn_25 ?_
  refine g_get S C hG iX50 1 rfl rfl 1 (by decide) (List.mem_of_getElem? (i := 3) rfl) rfl dX8_turn_28 ?_
  refine lv_iload_n S.1 S.2.1 dX8_turn_31 rfl (lv_at hl 1 rfl) ?_
  refine g_iconst S dX8_turn_32 ?_
  refine lv_iload_n S.1 S.2.1 dX8_turn_33 rfl (lv_at hl 2 rfl) ?_
  have hG : gW K A s.heap [gRLC K ad, gScC K (ad 3) (ad 14) (ad 16) ou mi bo, gTabC K (ad 14) (ad 15) ln, gArr K 60 (ad 15) LF, gTab K (ad 16) (ad 17) sn SF, gHisC K (ad 5) (ad 22) ((nx + 1) % 6) (min (sz + 1) 6), gQS K (ad 22) 6 (oP (oup o nx.toNat u9_21)), gRayU K (ad 7) (ad 23) (ad 24) (ad 25) (ad 26) rs rv XF, gSOs K (oup o nx.toNat u9_21) (List.range 6)] _ _ := hG
  refine g_invVv (As := [.int (iI y), .int (iI 2), .int (iI x)]) (rest := []) (gs' := (fun u : Unit => [gRLC K ad, gScC K (ad 3) (ad 14) (ad 16) ou mi bo, gTabC K (ad 14) (ad 15) ln, gArr K 60 (ad 15) LF, gTab K (ad 16) (ad 17) sn (upI SF (y * 3 + 2) x), gHisC K (ad 5) (ad 22) ((nx + 1) % 6) (min (sz + 1) 6), gQS K (ad 22) 6 (oP (oup o nx.toNat u9_21)), gRayU K (ad 7) (ad 23) (ad 24) (ad 25) (ad 26) rs rv XF, gSOs K (oup o nx.toNat u9_21) (List.range 6)])) S C hG [4] (c_X7_set l K (ad 16) (ad 17) sn SF y 2 x (by omega) (by omega)) rfl rfl 0 rfl rfl (cwV 3 S.2.2.2.2 gX8_turn_X7_set rfl rfl rfl (by decide +kernel) ⟨Nat.le_of_ble_eq_true rfl, Nat.le_of_ble_eq_true rfl⟩) rfl hl.1 rfl (Nat.le_of_ble_eq_true rfl) dX8_turn_34 ⟨Nat.le_of_ble_eq_true rfl, Nat.le_of_ble_eq_true rfl⟩ (fun _ => Nat.le_of_ble_eq_true rfl) (fun _ => rfl) (fun u H locs hp hG => ?_)
  refine lv_aload_n S.1 S.2.1 dX8_turn_37 rfl (lv_at hl 0 rfl) ?_
  refine lv_aload_n S.1 S.2.1 dX8_turn_38 rfl (lv_at hl 0 rfl) ?_
  refine g_get S C hG iX80 0 rfl rfl 2 (by decide) (List.mem_of_getElem? (i := 2) rfl) rfl dX8_turn_39 ?_
  refine lv_iload_n S.1 S.2.1 dX8_turn_42 rfl (lv_at hl 1 rfl) ?_
  have hG : gW K A s.heap [gRLC K ad, gScn K (ad 3) (ad 14) (ad 15) (ad 16) (ad 17) ou mi bo ln LF sn (upI SF (y * 3 + 2) x), gHisC K (ad 5) (ad 22) ((nx + 1) % 6) (min (sz + 1) 6), gQS K (ad 22) 6 (oP (oup o nx.toNat u9_21)), gRayU K (ad 7) (ad 23) (ad 24) (ad 25) (ad 26) rs rv XF, gSOs K (oup o nx.toNat u9_21) (List.range 6)] _ _ := hG
  refine g_invV (As := [.ref (ad 3), .int (iI y)]) (rest := []) (gs' := (fun u : RU × (Int → Int) => [gRLC K ad, gScn K (ad 3) (ad 14) (ad 15) (ad 16) (ad 17) ou mi bo ln LF sn (upI SF (y * 3 + 2) x), gHisC K (ad 5) (ad 22) ((nx + 1) % 6) (min (sz + 1) 6), gQS K (ad 22) 6 (oP (oup o nx.toNat u9_21)), gRayU K (ad 7) (ad 23) (ad 24) (ad 25) (ad 26) (ad 3) u.1 u.2, gSOs K (oup o nx.toNat u9_21) (List.range 6)])) S C hG [0, 1, 4] (c_X8_runOf l K ad (ad 3) (ad 14) (ad 15) (ad 16) (ad 17) ou mi bo ln LF sn (upI SF (y * 3 + 2) x) (upI N (35 + 3 * y + 2) x) rs rv XF y hS2 hN2 (by omega)) rfl rfl 0 rfl rfl (cwV 2 S.2.2.2.2 gX8_turn_X8_runOf rfl rfl rfl (by decide +kernel) ⟨Nat.le_of_ble_eq_true rfl, Nat.le_of_ble_eq_true rfl⟩) rfl hl.1 rfl (Nat.le_of_ble_eq_true rfl) dX8_turn_43 ⟨Nat.le_of_ble_eq_true rfl, Nat.le_of_ble_eq_true rfl⟩ (fun _ => Nat.le_of_ble_eq_true rfl) (fun _ => rfl) (fun v u H locs hp hG => ?_)
  obtain ⟨rv2_43, X2_43⟩ := u
  obtain ⟨rfl, hr_43⟩ := hp
  have hr_43 : ResU (upI N (35 + 3 * y + 2) x) (sP (upI N (35 + 3 * y + 2) x) y) (sY (upI N (35 + 3 * y + 2) x) y) (sD (upI N (35 + 3 * y + 2) x) y) rv2_43 := hr_43
  have hG : gW K A s.heap [gRLC K ad, gScn K (ad 3) (ad 14) (ad 15) (ad 16) (ad 17) ou mi bo ln LF sn (upI SF (y * 3 + 2) x), gHisC K (ad 5) (ad 22) ((nx + 1) % 6) (min (sz + 1) 6), gQS K (ad 22) 6 (oP (oup o nx.toNat u9_21)), gRayU K (ad 7) (ad 23) (ad 24) (ad 25) (ad 26) (ad 3) rv2_43 X2_43, gSOs K (oup o nx.toNat u9_21) (List.range 6)] _ _ := hG
  refine g_get S C hG iX40 8 rfl rfl 9 (by decide) (List.mem_of_getElem? (i := 4) rfl) rfl dX8_turn_46 ?_
  have hG : gW K A s.heap [gRLC K ad, gScn K (ad 3) (ad 14) (ad 15) (ad 16) (ad 17) ou mi bo ln LF sn (upI SF (y * 3 + 2) x), gHisC K (ad 5) (ad 22) ((nx + 1) % 6) (min (sz + 1) 6), gQS K (ad 22) 6 (oP (oup o nx.toNat u9_21)), gRayU K (ad 7) (ad 23) (ad 24) (ad 25) (ad 26) (ad 3) rv2_43 X2_43, gSOs K (oup o nx.toNat u9_21) (List.range 6)] _ _ := hG
  exact g_iret S hr hlk hQ dX8_turn_49 (Nat.le_of_ble_eq_true rfl) (Nat.le_of_ble_eq_true rfl) ((u9_21, (upI SF (y * 3 + 2) x), rv2_43, X2_43) : SR × (Int → Int) × RU × (Int → Int)) ⟨(congrArg (fun z : Int => Value.int (iI z)) hr_43.f.2.1), hr_21, hS2⟩ hG
set_option maxHeartbeats 1000000 in
set_option maxRecDepth 100000 in
theorem c_X8_dropShot (l : Launch) (K : KC) (ad : Nat → Nat) (ou : Int) (mi : Int) (bo : Int) (ln : Int) (LF : Int → Int) (sn : Int) (SF : Int → Int) (N : Int → Int) (nx : Int) (sz : Int) (o : Nat → Option SR) (y : Int) (hS : ScOk N ou mi bo ln LF sn SF) (hN : NOk0 N) (hnx : 0 ≤ nx ∧ nx < 6) (hsz : 0 ≤ sz ∧ sz ≤ 6) (hv : -2147483648 ≤ y ∧ y < 2147483648) (hs : 0 ≤ y ∧ y < N 4) : mG l yX8_dropShot wsX8_dropShot 4 124 K [.ref (ad 0), .int (iI y)] [gRLC K ad, gScn K (ad 3) (ad 14) (ad 15) (ad 16) (ad 17) ou mi bo ln LF sn SF, gHisC K (ad 5) (ad 22) nx sz, gQS K (ad 22) 6 (oP o), gSOs K o (List.range 6)] (fun (v : Value) (u : SR × (Int → Int)) => (v = .int (iI (N 4 - 1))) ∧ (ScR N u.1) ∧ (ScOk (remSN N y) ou mi bo ln LF (sn - 1) u.2)) (fun (u : SR × (Int → Int)) => [gRLC K ad, gScn K (ad 3) (ad 14) (ad 15) (ad 16) (ad 17) ou mi bo ln LF (sn - 1) u.2, gHisC K (ad 5) (ad 22) ((nx + 1) % 6) (min (sz + 1) 6), gQS K (ad 22) 6 (oP (oup o nx.toNat u.1)), gSOs K (oup o nx.toNat u.1) (List.range 6)]) 5 129 := by
  refine mG_of cX8_dropShot 2 (by decide) rfl (Nat.le_of_ble_eq_true rfl) ?_
  intro p e s m below meth c A ls Q S C hG hl hr hlk hin hQ
  have S : CallFix p m c cX8_dropShot 2 s ([.ref (ad 0), .int (iI y)] : List Value).toArray wsX8_dropShot RX8 := S
  have iX80 : ∀ w ∈ wsX80, w ∈ wsX8_dropShot := fun _ h => List.mem_cons_of_mem _ (List.mem_append_left _ (List.mem_append_left _ (List.mem_append_left _ (List.mem_append_left _ (List.mem_append_right _ (h))))))
  have iX50 : ∀ w ∈ wsX50, w ∈ wsX8_dropShot := fun _ h => List.mem_cons_of_mem _ (List.mem_append_left _ (List.mem_append_left _ (List.mem_append_left _ (List.mem_append_right _ (h)))))
  have iX70 : ∀ w ∈ wsX70, w ∈ wsX8_dropShot := fun _ h => List.mem_cons_of_mem _ (List.mem_append_left _ (List.mem_append_left _ (List.mem_append_right _ (h))))
  have iX10 : ∀ w ∈ wsX10, w ∈ wsX8_dropShot := fun _ h => List.mem_cons_of_mem _ (List.mem_append_left _ (List.mem_append_right _ (h)))
  have hl : lv_has ls 2 [(0, .ref (ad 0)), (1, .int (iI y))] := hl
  have hG : gW K A s.heap [gRLC K ad, gScn K (ad 3) (ad 14) (ad 15) (ad 16) (ad 17) ou mi bo ln LF sn SF, gHisC K (ad 5) (ad 22) nx sz, gQS K (ad 22) 6 (oP o), gSOs K o (List.range 6)] s.heap [] := hG
  obtain ⟨e0, e1, e2, e3, e4, e5, e6⟩ := id hS
  have n0 := hN.1
  have n3 := hN.2.2.2.1
  refine lv_aload_n S.1 S.2.1 dX8_dropShot_0 rfl (lv_at hl 0 rfl) ?_
  refine lv_iload_n S.1 S.2.1 dX8_dropShot_1 rfl (lv_at hl 1 rfl) ?_
  refine g_invVv (As := [.int (iI y)]) (rest := []) (gs' := (fun u : Unit => [gRLC K ad, gScn K (ad 3) (ad 14) (ad 15) (ad 16) (ad 17) ou mi bo ln LF sn SF, gHisC K (ad 5) (ad 22) nx sz, gQS K (ad 22) 6 (oP o), gSOs K o (List.range 6)])) S C hG [0, 1] (c_X8_checkShot l K ad ou mi bo ln LF sn SF N y hS hN hv hs) rfl rfl 0 rfl rfl (cwV 1 S.2.2.2.2 gX8_dropShot_X8_checkShot rfl rfl rfl (by decide +kernel) ⟨Nat.le_of_ble_eq_true rfl, Nat.le_of_ble_eq_true rfl⟩) rfl hl.1 rfl (Nat.le_of_ble_eq_true rfl) dX8_dropShot_2 ⟨Nat.le_of_ble_eq_true rfl, Nat.le_of_ble_eq_true rfl⟩ (fun _ => Nat.le_of_ble_eq_true rfl) (fun _ => rfl) (fun u H locs hp hG => ?_)
  refine lv_aload_n S.1 S.2.1 dX8_dropShot_5 rfl (lv_at hl 0 rfl) ?_
  refine g_get S C hG iX80 0 rfl rfl 4 (by decide) (List.mem_of_getElem? (i := 1) rfl) rfl dX8_dropShot_6 ?_
  refine lv_aload_n S.1 S.2.1 dX8_dropShot_9 rfl (lv_at hl 0 rfl) ?_
  refine g_get S C hG iX80 0 rfl rfl 2 (by decide) (List.mem_of_getElem? (i := 2) rfl) rfl dX8_dropShot_10 ?_
  refine g_invVv (As := [.ref (ad 3)]) (rest := []) (gs' := (fun u : SR => [gRLC K ad, gScn K (ad 3) (ad 14) (ad 15) (ad 16) (ad 17) ou mi bo ln LF sn SF, gHisC K (ad 5) (ad 22) ((nx + 1) % 6) (min (sz + 1) 6), gQS K (ad 22) 6 (oP (oup o nx.toNat u)), gSOs K (oup o nx.toNat u) (List.range 6)])) S C hG [2, 3, 1, 4] (c_X1_remember l K (ad 5) (ad 22) nx sz o (ad 3) (ad 14) (ad 15) (ad 16) (ad 17) ou mi bo ln LF sn SF N hnx hsz hS hN) rfl rfl 0 rfl rfl (cwV 1 S.2.2.2.2 gX8_dropShot_X1_remember rfl rfl rfl (by decide +kernel) ⟨Nat.le_of_ble_eq_true rfl, Nat.le_of_ble_eq_true rfl⟩) rfl hl.1 rfl (Nat.le_of_ble_eq_true rfl) dX8_dropShot_13 ⟨Nat.le_of_ble_eq_true rfl, Nat.le_of_ble_eq_true rfl⟩ (fun _ => Nat.le_of_ble_eq_true rfl) (fun _ => rfl) (fun u H locs hp hG => ?_)
  obtain ⟨u9_13, rfl⟩ : ∃ z, z = u := ⟨_, rfl⟩
  have hr_13 := hp
  have hr_13 : ScR N u9_13 := hr_13
  have hG : gW K A s.heap [gRLC K ad, gScn K (ad 3) (ad 14) (ad 15) (ad 16) (ad 17) ou mi bo ln LF sn SF, gHisC K (ad 5) (ad 22) ((nx + 1) % 6) (min (sz + 1) 6), gQS K (ad 22) 6 (oP (oup o nx.toNat u9_13)), gSOs K (oup o nx.toNat u9_13) (List.range 6)] _ _ := hG
  refine lv_aload_n S.1 S.2.1 dX8_dropShot_16 rfl (lv_at hl 0 rfl) ?_
  refine g_get S C hG iX80 0 rfl rfl 2 (by decide) (List.mem_of_getElem? (i := 2) rfl) rfl dX8_dropShot_17 ?_
  refine g_get S C hG iX50 1 rfl rfl 1 (by decide) (List.mem_of_getElem? (i := 3) rfl) rfl dX8_dropShot_20 ?_
  refine lv_iload_n S.1 S.2.1 dX8_dropShot_23 rfl (lv_at hl 1 rfl) ?_
  have hG : gW K A s.heap [gRLC K ad, gScC K (ad 3) (ad 14) (ad 16) ou mi bo, gTabC K (ad 14) (ad 15) ln, gArr K 60 (ad 15) LF, gTab K (ad 16) (ad 17) sn SF, gHisC K (ad 5) (ad 22) ((nx + 1) % 6) (min (sz + 1) 6), gQS K (ad 22) 6 (oP (oup o nx.toNat u9_13)), gSOs K (oup o nx.toNat u9_13) (List.range 6)] _ _ := hG
  refine g_invVv (As := [.int (iI y)]) (rest := []) (gs' := (fun u : (Int → Int) => [gRLC K ad, gScC K (ad 3) (ad 14) (ad 16) ou mi bo, gTabC K (ad 14) (ad 15) ln, gArr K 60 (ad 15) LF, gTab K (ad 16) (ad 17) (sn - 1) u, gHisC K (ad 5) (ad 22) ((nx + 1) % 6) (min (sz + 1) 6), gQS K (ad 22) 6 (oP (oup o nx.toNat u9_13)), gSOs K (oup o nx.toNat u9_13) (List.range 6)])) S C hG [4] (c_X7_remove l K (ad 16) (ad 17) sn SF y (by omega) (by omega)) rfl rfl 0 rfl rfl (cwV 1 S.2.2.2.2 gX8_dropShot_X7_remove rfl rfl rfl (by decide +kernel) ⟨Nat.le_of_ble_eq_true rfl, Nat.le_of_ble_eq_true rfl⟩) rfl hl.1 rfl (Nat.le_of_ble_eq_true rfl) dX8_dropShot_24 ⟨Nat.le_of_ble_eq_true rfl, Nat.le_of_ble_eq_true rfl⟩ (fun _ => Nat.le_of_ble_eq_true rfl) (fun _ => rfl) (fun u H locs hp hG => ?_)
  obtain ⟨F2_24, rfl⟩ : ∃ z, z = u := ⟨_, rfl⟩
  have hF_24 := hp
  have hF_24 : ∀ r k : Int, 0 ≤ k → k < 3 → F2_24 (r * 3 + k) = if y ≤ r ∧ r < sn - 1 then SF ((r + 1) * 3 + k) else SF (r * 3 + k) := hF_24
  have hG : gW K A s.heap [gRLC K ad, gScC K (ad 3) (ad 14) (ad 16) ou mi bo, gTabC K (ad 14) (ad 15) ln, gArr K 60 (ad 15) LF, gTab K (ad 16) (ad 17) (sn - 1) F2_24, gHisC K (ad 5) (ad 22) ((nx + 1) % 6) (min (sz + 1) 6), gQS K (ad 22) 6 (oP (oup o nx.toNat u9_13)), gSOs K (oup o nx.toNat u9_13) (List.range 6)] _ _ := hG
  refine lv_aload_n S.1 S.2.1 dX8_dropShot_27 rfl (lv_at hl 0 rfl) ?_
  refine g_get S C hG iX80 0 rfl rfl 2 (by decide) (List.mem_of_getElem? (i := 2) rfl) rfl dX8_dropShot_28 ?_
  refine g_get S C hG iX50 1 rfl rfl 1 (by decide) (List.mem_of_getElem? (i := 3) rfl) rfl dX8_dropShot_31 ?_
  refine g_get S C hG iX70 4 rfl rfl 1 (by decide) (List.mem_of_getElem? (i := 4) rfl) rfl dX8_dropShot_34 ?_
  have hG : gW K A s.heap [gRLC K ad, gScn K (ad 3) (ad 14) (ad 15) (ad 16) (ad 17) ou mi bo ln LF (sn - 1) F2_24, gHisC K (ad 5) (ad 22) ((nx + 1) % 6) (min (sz + 1) 6), gQS K (ad 22) 6 (oP (oup o nx.toNat u9_13)), gSOs K (oup o nx.toNat u9_13) (List.range 6)] _ _ := hG
  exact g_iret S hr hlk hQ dX8_dropShot_37 (Nat.le_of_ble_eq_true rfl) (Nat.le_of_ble_eq_true rfl) ((u9_13, F2_24) : SR × (Int → Int)) ⟨(congrArg (fun z : Int => Value.int (iI z)) (by omega)), hr_13, (hS.remS hN hs hF_24)⟩ hG
