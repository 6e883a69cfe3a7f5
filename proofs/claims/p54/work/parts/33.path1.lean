set_option maxHeartbeats 4000000 in
set_option maxRecDepth 100000 in
theorem c_X3_set0 (l : Launch) (K : KC) (pa : Nat) (nb : Nat) (ra : Nat) (pl : Int) (pe : Int) (r0 : Nat) (r1 : Nat) (r2 : Nat) (r3 : Nat) (r4 : Nat) (r5 : Nat) (r6 : Nat) (M0 : Int → Int) (M1 : Int → Int) (M2 : Int → Int) (M3 : Int → Int) (M4 : Int → Int) (M5 : Int → Int) (M6 : Int → Int) (i : Int) (x : Int) (h0 : 0 ≤ i ∧ i < 60) : mV l yX3_set wsX3_set 1 22 K [.ref pa, .int (iI i), .int (iI 0), .int (iI x)] [gPth K pa nb ra pl pe r0 r1 r2 r3 r4 r5 r6 M0 M1 M2 M3 M4 M5 M6] (fun (u : Unit) => True) (fun (u : Unit) => [gPth K pa nb ra pl pe r0 r1 r2 r3 r4 r5 r6 (upI M0 i x) M1 M2 M3 M4 M5 M6]) 0 0 := by
  refine mV_of cX3_set 4 (by decide) rfl (Nat.le_of_ble_eq_true rfl) ?_
  intro p e s m below meth c A ls Q S C hG hl hr hlk hin hQ
  have S : CallFix p m c cX3_set 4 s ([.ref pa, .int (iI i), .int (iI 0), .int (iI x)] : List Value).toArray wsX3_set RX3 := S
  have iX30 : ∀ w ∈ wsX30, w ∈ wsX3_set := fun _ h => List.mem_cons_of_mem _ (List.mem_append_right _ (h))
  have hl : lv_has ls 4 [(0, .ref pa), (1, .int (iI i)), (2, .int (iI 0)), (3, .int (iI x))] := hl
  have hG : gW K A s.heap [gPth K pa nb ra pl pe r0 r1 r2 r3 r4 r5 r6 M0 M1 M2 M3 M4 M5 M6] s.heap [] := hG
  refine lv_iload_n S.1 S.2.1 dX3_set_0 rfl (lv_at hl 2 rfl) ?_
  refine g_if_lt (tgt := 24) S dX3_set_1 (by decide) (by omega) (fun q1 => ?_) (fun q1 => ?_)
  · skip
    exact absurd q1 (by decide)
  · skip
    refine lv_iload_n S.1 S.2.1 dX3_set_4 rfl (lv_at hl 2 rfl) ?_
    refine lv_aload_n S.1 S.2.1 dX3_set_5 rfl (lv_at hl 0 rfl) ?_
    refine g_get S C hG iX30 0 rfl rfl 0 (by decide) (List.mem_of_getElem? (i := 1) rfl) rfl dX3_set_6 ?_
    refine g_alen (z := 7) S C hG 1 6 rfl rfl rfl dX3_set_9 ?_
    refine g_icmp_ge (tgt := 24) S dX3_set_10 (by decide) (by omega) (by omega) (fun q10 => ?_) (fun q10 => ?_)
    · skip
      exact absurd q10 (by decide)
    · skip
      refine lv_aload_n S.1 S.2.1 dX3_set_13 rfl (lv_at hl 0 rfl) ?_
      refine g_get S C hG iX30 0 rfl rfl 0 (by decide) (List.mem_of_getElem? (i := 1) rfl) rfl dX3_set_14 ?_
      refine lv_iload_n S.1 S.2.1 dX3_set_17 rfl (lv_at hl 2 rfl) ?_
      refine g_aald6 S C hG 1 rfl 0 r0 rfl (by decide) (by decide) rfl dX3_set_18 ?_
      refine lv_iload_n S.1 S.2.1 dX3_set_19 rfl (lv_at hl 1 rfl) ?_
      refine lv_iload_n S.1 S.2.1 dX3_set_20 rfl (lv_at hl 3 rfl) ?_
      have hG : gW K A s.heap [gPthC K pa nb ra pl pe, gRw7 K nb r0 r1 r2 r3 r4 r5 r6, gArr K 60 r0 M0, gArr K 60 r1 M1, gArr K 60 r2 M2, gArr K 60 r3 M3, gArr K 60 r4 M4, gArr K 60 r5 M5, gArr K 60 r6 M6] _ _ := hG
      refine g_invSNv (As := [.ref r0, .int (iI i), .int (iI x)]) (rest := []) (gs' := (fun u : Unit => [gPthC K pa nb ra pl pe, gRw7 K nb r0 r1 r2 r3 r4 r5 r6, gArr K 60 r0 (upI M0 i x), gArr K 60 r1 M1, gArr K 60 r2 M2, gArr K 60 r3 M3, gArr K 60 r4 M4, gArr K 60 r5 M5, gArr K 60 r6 M6])) S C hG [2] (c_X8_put l K 60 r0 M0 i x h0 (by omega)) rfl rfl ⟨va_cnB 3 S.2.2.2.2 gX3_set_X8_put_n76 rfl rfl rfl (C.1.2.1 _ (List.mem_of_getElem? (i := 9) rfl)) (S.2.2.2.2 _ (List.mem_of_getElem? (i := 3) rfl)) (by decide +kernel) ⟨Nat.le_of_ble_eq_true rfl, Nat.le_of_ble_eq_true rfl⟩, (S.2.2.2.2 _ (List.mem_of_getElem? (i := 2) rfl)), trivial⟩ rfl hl.1 rfl (Nat.le_of_ble_eq_true rfl) dX3_set_21 ⟨Nat.le_of_ble_eq_true rfl, Nat.le_of_ble_eq_true rfl⟩ (fun _ => Nat.le_of_ble_eq_true rfl) (fun _ => rfl) (fun u H locs hp hG => ?_)
      have hG : gW K A s.heap [gPth K pa nb ra pl pe r0 r1 r2 r3 r4 r5 r6 (upI M0 i x) M1 M2 M3 M4 M5 M6] _ _ := hG
      exact g_vret S hr hlk hQ dX3_set_24 (Nat.le_of_ble_eq_true rfl) (Nat.le_of_ble_eq_true rfl) (() : Unit) trivial hG
set_option maxHeartbeats 4000000 in
set_option maxRecDepth 100000 in
theorem c_X3_set1 (l : Launch) (K : KC) (pa : Nat) (nb : Nat) (ra : Nat) (pl : Int) (pe : Int) (r0 : Nat) (r1 : Nat) (r2 : Nat) (r3 : Nat) (r4 : Nat) (r5 : Nat) (r6 : Nat) (M0 : Int → Int) (M1 : Int → Int) (M2 : Int → Int) (M3 : Int → Int) (M4 : Int → Int) (M5 : Int → Int) (M6 : Int → Int) (i : Int) (x : Int) (h0 : 0 ≤ i ∧ i < 60) : mV l yX3_set wsX3_set 1 22 K [.ref pa, .int (iI i), .int (iI 1), .int (iI x)] [gPth K pa nb ra pl pe r0 r1 r2 r3 r4 r5 r6 M0 M1 M2 M3 M4 M5 M6] (fun (u : Unit) => True) (fun (u : Unit) => [gPth K pa nb ra pl pe r0 r1 r2 r3 r4 r5 r6 M0 (upI M1 i x) M2 M3 M4 M5 M6]) 0 0 := by
  refine mV_of cX3_set 4 (by decide) rfl (Nat.le_of_ble_eq_true rfl) ?_
  intro p e s m below meth c A ls Q S C hG hl hr hlk hin hQ
  have S : CallFix p m c cX3_set 4 s ([.ref pa, .int (iI i), .int (iI 1), .int (iI x)] : List Value).toArray wsX3_set RX3 := S
  have iX30 : ∀ w ∈ wsX30, w ∈ wsX3_set := fun _ h => List.mem_cons_of_mem _ (List.mem_append_right _ (h))
  have hl : lv_has ls 4 [(0, .ref pa), (1, .int (iI i)), (2, .int (iI 1)), (3, .int (iI x))] := hl
  have hG : gW K A s.heap [gPth K pa nb ra pl pe r0 r1 r2 r3 r4 r5 r6 M0 M1 M2 M3 M4 M5 M6] s.heap [] := hG
  refine lv_iload_n S.1 S.2.1 dX3_set_0 rfl (lv_at hl 2 rfl) ?_
  refine g_if_lt (tgt := 24) S dX3_set_1 (by decide) (by omega) (fun q1 => ?_) (fun q1 => ?_)
  · skip
    exact absurd q1 (by decide)
  · skip
    refine lv_iload_n S.1 S.2.1 dX3_set_4 rfl (lv_at hl 2 rfl) ?_
    refine lv_aload_n S.1 S.2.1 dX3_set_5 rfl (lv_at hl 0 rfl) ?_
    refine g_get S C hG iX30 0 rfl rfl 0 (by decide) (List.mem_of_getElem? (i := 1) rfl) rfl dX3_set_6 ?_
    refine g_alen (z := 7) S C hG 1 6 rfl rfl rfl dX3_set_9 ?_
    refine g_icmp_ge (tgt := 24) S dX3_set_10 (by decide) (by omega) (by omega) (fun q10 => ?_) (fun q10 => ?_)
    · skip
      exact absurd q10 (by decide)
    · skip
      refine lv_aload_n S.1 S.2.1 dX3_set_13 rfl (lv_at hl 0 rfl) ?_
      refine g_get S C hG iX30 0 rfl rfl 0 (by decide) (List.mem_of_getElem? (i := 1) rfl) rfl dX3_set_14 ?_
      refine lv_iload_n S.1 S.2.1 dX3_set_17 rfl (lv_at hl 2 rfl) ?_
      refine g_aald6 S C hG 1 rfl 1 r1 rfl (by decide) (by decide) rfl dX3_set_18 ?_
      refine lv_iload_n S.1 S.2.1 dX3_set_19 rfl (lv_at hl 1 rfl) ?_
      refine lv_iload_n S.1 S.2.1 dX3_set_20 rfl (lv_at hl 3 rfl) ?_
      have hG : gW K A s.heap [gPthC K pa nb ra pl pe, gRw7 K nb r0 r1 r2 r3 r4 r5 r6, gArr K 60 r0 M0, gArr K 60 r1 M1, gArr K 60 r2 M2, gArr K 60 r3 M3, gArr K 60 r4 M4, gArr K 60 r5 M5, gArr K 60 r6 M6] _ _ := hG
      refine g_invSNv (As := [.ref r1, .int (iI i), .int (iI x)]) (rest := []) (gs' := (fun u : Unit => [gPthC K pa nb ra pl pe, gRw7 K nb r0 r1 r2 r3 r4 r5 r6, gArr K 60 r0 M0, gArr K 60 r1 (upI M1 i x), gArr K 60 r2 M2, gArr K 60 r3 M3, gArr K 60 r4 M4, gArr K 60 r5 M5, gArr K 60 r6 M6])) S C hG [3] (c_X8_put l K 60 r1 M1 i x h0 (by omega)) rfl rfl ⟨va_cnB 3 S.2.2.2.2 gX3_set_X8_put_n76 rfl rfl rfl (C.1.2.1 _ (List.mem_of_getElem? (i := 9) rfl)) (S.2.2.2.2 _ (List.mem_of_getElem? (i := 3) rfl)) (by decide +kernel) ⟨Nat.le_of_ble_eq_true rfl, Nat.le_of_ble_eq_true rfl⟩, (S.2.2.2.2 _ (List.mem_of_getElem? (i := 2) rfl)), trivial⟩ rfl hl.1 rfl (Nat.le_of_ble_eq_true rfl) dX3_set_21 ⟨Nat.le_of_ble_eq_true rfl, Nat.le_of_ble_eq_true rfl⟩ (fun _ => Nat.le_of_ble_eq_true rfl) (fun _ => rfl) (fun u H locs hp hG => ?_)
      have hG : gW K A s.heap [gPth K pa nb ra pl pe r0 r1 r2 r3 r4 r5 r6 M0 (upI M1 i x) M2 M3 M4 M5 M6] _ _ := hG
      exact g_vret S hr hlk hQ dX3_set_24 (Nat.le_of_ble_eq_true rfl) (Nat.le_of_ble_eq_true rfl) (() : Unit) trivial hG
set_option maxHeartbeats 4000000 in
set_option maxRecDepth 100000 in
theorem c_X3_set2 (l : Launch) (K : KC) (pa : Nat) (nb : Nat) (ra : Nat) (pl : Int) (pe : Int) (r0 : Nat) (r1 : Nat) (r2 : Nat) (r3 : Nat) (r4 : Nat) (r5 : Nat) (r6 : Nat) (M0 : Int → Int) (M1 : Int → Int) (M2 : Int → Int) (M3 : Int → Int) (M4 : Int → Int) (M5 : Int → Int) (M6 : Int → Int) (i : Int) (x : Int) (h0 : 0 ≤ i ∧ i < 60) : mV l yX3_set wsX3_set 1 22 K [.ref pa, .int (iI i), .int (iI 2), .int (iI x)] [gPth K pa nb ra pl pe r0 r1 r2 r3 r4 r5 r6 M0 M1 M2 M3 M4 M5 M6] (fun (u : Unit) => True) (fun (u : Unit) => [gPth K pa nb ra pl pe r0 r1 r2 r3 r4 r5 r6 M0 M1 (upI M2 i x) M3 M4 M5 M6]) 0 0 := by
  refine mV_of cX3_set 4 (by decide) rfl (Nat.le_of_ble_eq_true rfl) ?_
  intro p e s m below meth c A ls Q S C hG hl hr hlk hin hQ
  have S : CallFix p m c cX3_set 4 s ([.ref pa, .int (iI i), .int (iI 2), .int (iI x)] : List Value).toArray wsX3_set RX3 := S
  have iX30 : ∀ w ∈ wsX30, w ∈ wsX3_set := fun _ h => List.mem_cons_of_mem _ (List.mem_append_right _ (h))
  have hl : lv_has ls 4 [(0, .ref pa), (1, .int (iI i)), (2, .int (iI 2)), (3, .int (iI x))] := hl
  have hG : gW K A s.heap [gPth K pa nb ra pl pe r0 r1 r2 r3 r4 r5 r6 M0 M1 M2 M3 M4 M5 M6] s.heap [] := hG
  refine lv_iload_n S.1 S.2.1 dX3_set_0 rfl (lv_at hl 2 rfl) ?_
  refine g_if_lt (tgt := 24) S dX3_set_1 (by decide) (by omega) (fun q1 => ?_) (fun q1 => ?_)
  · skip
    exact absurd q1 (by decide)
  · skip
    refine lv_iload_n S.1 S.2.1 dX3_set_4 rfl (lv_at hl 2 rfl) ?_
    refine lv_aload_n S.1 S.2.1 dX3_set_5 rfl (lv_at hl 0 rfl) ?_
    refine g_get S C hG iX30 0 rfl rfl 0 (by decide) (List.mem_of_getElem? (i := 1) rfl) rfl dX3_set_6 ?_
    refine g_alen (z := 7) S C hG 1 6 rfl rfl rfl dX3_set_9 ?_
    refine g_icmp_ge (tgt := 24) S dX3_set_10 (by decide) (by omega) (by omega) (fun q10 => ?_) (fun q10 => ?_)
    · skip
      exact absurd q10 (by decide)
    · skip
      refine lv_aload_n S.1 S.2.1 dX3_set_13 rfl (lv_at hl 0 rfl) ?_
      refine g_get S C hG iX30 0 rfl rfl 0 (by decide) (List.mem_of_getElem? (i := 1) rfl) rfl dX3_set_14 ?_
      refine lv_iload_n S.1 S.2.1 dX3_set_17 rfl (lv_at hl 2 rfl) ?_
      refine g_aald6 S C hG 1 rfl 2 r2 rfl (by decide) (by decide) rfl dX3_set_18 ?_
      refine lv_iload_n S.1 S.2.1 dX3_set_19 rfl (lv_at hl 1 rfl) ?_
      refine lv_iload_n S.1 S.2.1 dX3_set_20 rfl (lv_at hl 3 rfl) ?_
      have hG : gW K A s.heap [gPthC K pa nb ra pl pe, gRw7 K nb r0 r1 r2 r3 r4 r5 r6, gArr K 60 r0 M0, gArr K 60 r1 M1, gArr K 60 r2 M2, gArr K 60 r3 M3, gArr K 60 r4 M4, gArr K 60 r5 M5, gArr K 60 r6 M6] _ _ := hG
      refine g_invSNv (As := [.ref r2, .int (iI i), .int (iI x)]) (rest := []) (gs' := (fun u : Unit => [gPthC K pa nb ra pl pe, gRw7 K nb r0 r1 r2 r3 r4 r5 r6, gArr K 60 r0 M0, gArr K 60 r1 M1, gArr K 60 r2 (upI M2 i x), gArr K 60 r3 M3, gArr K 60 r4 M4, gArr K 60 r5 M5, gArr K 60 r6 M6])) S C hG [4] (c_X8_put l K 60 r2 M2 i x h0 (by omega)) rfl rfl ⟨va_cnB 3 S.2.2.2.2 gX3_set_X8_put_n76 rfl rfl rfl (C.1.2.1 _ (List.mem_of_getElem? (i := 9) rfl)) (S.2.2.2.2 _ (List.mem_of_getElem? (i := 3) rfl)) (by decide +kernel) ⟨Nat.le_of_ble_eq_true rfl, Nat.le_of_ble_eq_true rfl⟩, (S.2.2.2.2 _ (List.mem_of_getElem? (i := 2) rfl)), trivial⟩ rfl hl.1 rfl (Nat.le_of_ble_eq_true rfl) dX3_set_21 ⟨Nat.le_of_ble_eq_true rfl, Nat.le_of_ble_eq_true rfl⟩ (fun _ => Nat.le_of_ble_eq_true rfl) (fun _ => rfl) (fun u H locs hp hG => ?_)
      have hG : gW K A s.heap [gPth K pa nb ra pl pe r0 r1 r2 r3 r4 r5 r6 M0 M1 (upI M2 i x) M3 M4 M5 M6] _ _ := hG
      exact g_vret S hr hlk hQ dX3_set_24 (Nat.le_of_ble_eq_true rfl) (Nat.le_of_ble_eq_true rfl) (() : Unit) trivial hG
set_option maxHeartbeats 4000000 in
set_option maxRecDepth 100000 in
theorem c_X3_set3 (l : Launch) (K : KC) (pa : Nat) (nb : Nat) (ra : Nat) (pl : Int) (pe : Int) (r0 : Nat) (r1 : Nat) (r2 : Nat) (r3 : Nat) (r4 : Nat) (r5 : Nat) (r6 : Nat) (M0 : Int → Int) (M1 : Int → Int) (M2 : Int → Int) (M3 : Int → Int) (M4 : Int → Int) (M5 : Int → Int) (M6 : Int → Int) (i : Int) (x : Int) (h0 : 0 ≤ i ∧ i < 60) : mV l yX3_set wsX3_set 1 22 K [.ref pa, .int (iI i), .int (iI 3), .int (iI x)] [gPth K pa nb ra pl pe r0 r1 r2 r3 r4 r5 r6 M0 M1 M2 M3 M4 M5 M6] (fun (u : Unit) => True) (fun (u : Unit) => [gPth K pa nb ra pl pe r0 r1 r2 r3 r4 r5 r6 M0 M1 M2 (upI M3 i x) M4 M5 M6]) 0 0 := by
  refine mV_of cX3_set 4 (by decide) rfl (Nat.le_of_ble_eq_true rfl) ?_
  intro p e s m below meth c A ls Q S C hG hl hr hlk hin hQ
  have S : CallFix p m c cX3_set 4 s ([.ref pa, .int (iI i), .int (iI 3), .int (iI x)] : List Value).toArray wsX3_set RX3 := S
  have iX30 : ∀ w ∈ wsX30, w ∈ wsX3_set := fun _ h => List.mem_cons_of_mem _ (List.mem_append_right _ (h))
  have hl : lv_has ls 4 [(0, .ref pa), (1, .int (iI i)), (2, .int (iI 3)), (3, .int (iI x))] := hl
  have hG : gW K A s.heap [gPth K pa nb ra pl pe r0 r1 r2 r3 r4 r5 r6 M0 M1 M2 M3 M4 M5 M6] s.heap [] := hG
  refine lv_iload_n S.1 S.2.1 dX3_set_0 rfl (lv_at hl 2 rfl) ?_
  refine g_if_lt (tgt := 24) S dX3_set_1 (by decide) (by omega) (fun q1 => ?_) (fun q1 => ?_)
  · skip
    exact absurd q1 (by decide)
  · skip
    refine lv_iload_n S.1 S.2.1 dX3_set_4 rfl (lv_at hl 2 rfl) ?_
    refine lv_aload_n S.1 S.2.1 dX3_set_5 rfl (lv_at hl 0 rfl) ?_
    refine g_get S C hG iX30 0 rfl rfl 0 (by decide) (List.mem_of_getElem? (i := 1) rfl) rfl dX3_set_6 ?_
    refine g_alen (z := 7) S C hG 1 6 rfl rfl rfl dX3_set_9 ?_
    refine g_icmp_ge (tgt := 24) S dX3_set_10 (by decide) (by omega) (by omega) (fun q10 => ?_) (fun q10 => ?_)
    · skip
      exact absurd q10 (by decide)
    · skip
      refine lv_aload_n S.1 S.2.1 dX3_set_13 rfl (lv_at hl 0 rfl) ?_
      refine g_get S C hG iX30 0 rfl rfl 0 (by decide) (List.mem_of_getElem? (i := 1) rfl) rfl dX3_set_14 ?_
      refine lv_iload_n S.1 S.2.1 dX3_set_17 rfl (lv_at hl 2 rfl) ?_
      refine g_aald6 S C hG 1 rfl 3 r3 rfl (by decide) (by decide) rfl dX3_set_18 ?_
      refine lv_iload_n S.1 S.2.1 dX3_set_19 rfl (lv_at hl 1 rfl) ?_
      refine lv_iload_n S.1 S.2.1 dX3_set_20 rfl (lv_at hl 3 rfl) ?_
      have hG : gW K A s.heap [gPthC K pa nb ra pl pe, gRw7 K nb r0 r1 r2 r3 r4 r5 r6, gArr K 60 r0 M0, gArr K 60 r1 M1, gArr K 60 r2 M2, gArr K 60 r3 M3, gArr K 60 r4 M4, gArr K 60 r5 M5, gArr K 60 r6 M6] _ _ := hG
      refine g_invSNv (As := [.ref r3, .int (iI i), .int (iI x)]) (rest := []) (gs' := (fun u : Unit => [gPthC K pa nb ra pl pe, gRw7 K nb r0 r1 r2 r3 r4 r5 r6, gArr K 60 r0 M0, gArr K 60 r1 M1, gArr K 60 r2 M2, gArr K 60 r3 (upI M3 i x), gArr K 60 r4 M4, gArr K 60 r5 M5, gArr K 60 r6 M6])) S C hG [5] (c_X8_put l K 60 r3 M3 i x h0 (by omega)) rfl rfl ⟨va_cnB 3 S.2.2.2.2 gX3_set_X8_put_n76 rfl rfl rfl (C.1.2.1 _ (List.mem_of_getElem? (i := 9) rfl)) (S.2.2.2.2 _ (List.mem_of_getElem? (i := 3) rfl)) (by decide +kernel) ⟨Nat.le_of_ble_eq_true rfl, Nat.le_of_ble_eq_true rfl⟩, (S.2.2.2.2 _ (List.mem_of_getElem? (i := 2) rfl)), trivial⟩ rfl hl.1 rfl (Nat.le_of_ble_eq_true rfl) dX3_set_21 ⟨Nat.le_of_ble_eq_true rfl, Nat.le_of_ble_eq_true rfl⟩ (fun _ => Nat.le_of_ble_eq_true rfl) (fun _ => rfl) (fun u H locs hp hG => ?_)
      have hG : gW K A s.heap [gPth K pa nb ra pl pe r0 r1 r2 r3 r4 r5 r6 M0 M1 M2 (upI M3 i x) M4 M5 M6] _ _ := hG
      exact g_vret S hr hlk hQ dX3_set_24 (Nat.le_of_ble_eq_true rfl) (Nat.le_of_ble_eq_true rfl) (() : Unit) trivial hG
set_option maxHeartbeats 4000000 in
set_option maxRecDepth 100000 in
theorem c_X3_set4 (l : Launch) (K : KC) (pa : Nat) (nb : Nat) (ra : Nat) (pl : Int) (pe : Int) (r0 : Nat) (r1 : Nat) (r2 : Nat) (r3 : Nat) (r4 : Nat) (r5 : Nat) (r6 : Nat) (M0 : Int → Int) (M1 : Int → Int) (M2 : Int → Int) (M3 : Int → Int) (M4 : Int → Int) (M5 : Int → Int) (M6 : Int → Int) (i : Int) (x : Int) (h0 : 0 ≤ i ∧ i < 60) : mV l yX3_set wsX3_set 1 22 K [.ref pa, .int (iI i), .int (iI 4), .int (iI x)] [gPth K pa nb ra pl pe r0 r1 r2 r3 r4 r5 r6 M0 M1 M2 M3 M4 M5 M6] (fun (u : Unit) => True) (fun (u : Unit) => [gPth K pa nb ra pl pe r0 r1 r2 r3 r4 r5 r6 M0 M1 M2 M3 (upI M4 i x) M5 M6]) 0 0 := by
  refine mV_of cX3_set 4 (by decide) rfl (Nat.le_of_ble_eq_true rfl) ?_
  intro p e s m below meth c A ls Q S C hG hl hr hlk hin hQ
  have S : CallFix p m c cX3_set 4 s ([.ref pa, .int (iI i), .int (iI 4), .int (iI x)] : List Value).toArray wsX3_set RX3 := S
  have iX30 : ∀ w ∈ wsX30, w ∈ wsX3_set := fun _ h => List.mem_cons_of_mem _ (List.mem_append_right _ (h))
  have hl : lv_has ls 4 [(0, .ref pa), (1, .int (iI i)), (2, .int (iI 4)), (3, .int (iI x))] := hl
  have hG : gW K A s.heap [gPth K pa nb ra pl pe r0 r1 r2 r3 r4 r5 r6 M0 M1 M2 M3 M4 M5 M6] s.heap [] := hG
  refine lv_iload_n S.1 S.2.1 dX3_set_0 rfl (lv_at hl 2 rfl) ?_
  refine g_if_lt (tgt := 24) S dX3_set_1 (by decide) (by omega) (fun q1 => ?_) (fun q1 => ?_)
  · skip
    exact absurd q1 (by decide)
  · skip
    refine lv_iload_n S.1 S.2.1 dX3_set_4 rfl (lv_at hl 2 rfl) ?_
    refine lv_aload_n S.1 S.2.1 dX3_set_5 rfl (lv_at hl 0 rfl) ?_
    refine g_get S C hG iX30 0 rfl rfl 0 (by decide) (List.mem_of_getElem? (i := 1) rfl) rfl dX3_set_6 ?_
    refine g_alen (z := 7) S C hG 1 6 rfl rfl rfl dX3_set_9 ?_
    refine g_icmp_ge (tgt := 24) S dX3_set_10 (by decide) (by omega) (by omega) (fun q10 => ?_) (fun q10 => ?_)
    · skip
      exact absurd q10 (by decide)
    · skip
      refine lv_aload_n S.1 S.2.1 dX3_set_13 rfl (lv_at hl 0 rfl) ?_
      refine g_get S C hG iX30 0 rfl rfl 0 (by decide) (List.mem_of_getElem? (i := 1) rfl) rfl dX3_set_14 ?_
      refine lv_iload_n S.1 S.2.1 dX3_set_17 rfl (lv_at hl 2 rfl) ?_
      refine g_aald6 S C hG 1 rfl 4 r4 rfl (by decide) (by decide) rfl dX3_set_18 ?_
      refine lv_iload_n S.1 S.2.1 dX3_set_19 rfl (lv_at hl 1 rfl) ?_
      refine lv_iload_n S.1 S.2.1 dX3_set_20 rfl (lv_at hl 3 rfl) ?_
      have hG : gW K A s.heap [gPthC K pa nb ra pl pe, gRw7 K nb r0 r1 r2 r3 r4 r5 r6, gArr K 60 r0 M0, gArr K 60 r1 M1, gArr K 60 r2 M2, gArr K 60 r3 M3, gArr K 60 r4 M4, gArr K 60 r5 M5, gArr K 60 r6 M6] _ _ := hG
      refine g_invSNv (As := [.ref r4, .int (iI i), .int (iI x)]) (rest := []) (gs' := (fun u : Unit => [gPthC K pa nb ra pl pe, gRw7 K nb r0 r1 r2 r3 r4 r5 r6, gArr K 60 r0 M0, gArr K 60 r1 M1, gArr K 60 r2 M2, gArr K 60 r3 M3, gArr K 60 r4 (upI M4 i x), gArr K 60 r5 M5, gArr K 60 r6 M6])) S C hG [6] (c_X8_put l K 60 r4 M4 i x h0 (by omega)) rfl rfl ⟨va_cnB 3 S.2.2.2.2 gX3_set_X8_put_n76 rfl rfl rfl (C.1.2.1 _ (List.mem_of_getElem? (i := 9) rfl)) (S.2.2.2.2 _ (List.mem_of_getElem? (i := 3) rfl)) (by decide +kernel) ⟨Nat.le_of_ble_eq_true rfl, Nat.le_of_ble_eq_true rfl⟩, (S.2.2.2.2 _ (List.mem_of_getElem? (i := 2) rfl)), trivial⟩ rfl hl.1 rfl (Nat.le_of_ble_eq_true rfl) dX3_set_21 ⟨Nat.le_of_ble_eq_true rfl, Nat.le_of_ble_eq_true rfl⟩ (fun _ => Nat.le_of_ble_eq_true rfl) (fun _ => rfl) (fun u H locs hp hG => ?_)
      have hG : gW K A s.heap [gPth K pa nb ra pl pe r0 r1 r2 r3 r4 r5 r6 M0 M1 M2 M3 (upI M4 i x) M5 M6] _ _ := hG
      exact g_vret S hr hlk hQ dX3_set_24 (Nat.le_of_ble_eq_true rfl) (Nat.le_of_ble_eq_true rfl) (() : Unit) trivial hG
set_option maxHeartbeats 4000000 in
set_option maxRecDepth 100000 in
theorem c_X3_set5 (l : Launch) (K : KC) (pa : Nat) (nb : Nat) (ra : Nat) (pl : Int) (pe : Int) (r0 : Nat) (r1 : Nat) (r2 : Nat) (r3 : Nat) (r4 : Nat) (r5 : Nat) (r6 : Nat) (M0 : Int → Int) (M1 : Int → Int) (M2 : Int → Int) (M3 : Int → Int) (M4 : Int → Int) (M5 : Int → Int) (M6 : Int → Int) (i : Int) (x : Int) (h0 : 0 ≤ i ∧ i < 60) : mV l yX3_set wsX3_set 1 22 K [.ref pa, .int (iI i), .int (iI 5), .int (iI x)] [gPth K pa nb ra pl pe r0 r1 r2 r3 r4 r5 r6 M0 M1 M2 M3 M4 M5 M6] (fun (u : Unit) => True) (fun (u : Unit) => [gPth K pa nb ra pl pe r0 r1 r2 r3 r4 r5 r6 M0 M1 M2 M3 M4 (upI M5 i x) M6]) 0 0 := by
  refine mV_of cX3_set 4 (by decide) rfl (Nat.le_of_ble_eq_true rfl) ?_
  intro p e s m below meth c A ls Q S C hG hl hr hlk hin hQ
  have S : CallFix p m c cX3_set 4 s ([.ref pa, .int (iI i), .int (iI 5), .int (iI x)] : List Value).toArray wsX3_set RX3 := S
  have iX30 : ∀ w ∈ wsX30, w ∈ wsX3_set := fun _ h => List.mem_cons_of_mem _ (List.mem_append_right _ (h))
  have hl : lv_has ls 4 [(0, .ref pa), (1, .int (iI i)), (2, .int (iI 5)), (3, .int (iI x))] := hl
  have hG : gW K A s.heap [gPth K pa nb ra pl pe r0 r1 r2 r3 r4 r5 r6 M0 M1 M2 M3 M4 M5 M6] s.heap [] := hG
  refine lv_iload_n S.1 S.2.1 dX3_set_0 rfl (lv_at hl 2 rfl) ?_
  refine g_if_lt (tgt := 24) S dX3_set_1 (by decide) (by omega) (fun q1 => ?_) (fun q1 => ?_)
  · skip
    exact absurd q1 (by decide)
  · skip
    refine lv_iload_n S.1 S.2.1 dX3_set_4 rfl (lv_at hl 2 rfl) ?_
    refine lv_aload_n S.1 S.2.1 dX3_set_5 rfl (lv_at hl 0 rfl) ?_
    refine g_get S C hG iX30 0 rfl rfl 0 (by decide) (List.mem_of_getElem? (i := 1) rfl) rfl dX3_set_6 ?_
    refine g_alen (z := 7) S C hG 1 6 rfl rfl rfl dX3_set_9 ?_
    refine g_icmp_ge (tgt := 24) S dX3_set_10 (by decide) (by omega) (by omega) (fun q10 => ?_) (fun q10 => ?_)
    · skip
      exact absurd q10 (by decide)
    · skip
      refine lv_aload_n S.1 S.2.1 dX3_set_13 rfl (lv_at hl 0 rfl) ?_
      refine g_get S C hG iX30 0 rfl rfl 0 (by decide) (List.mem_of_getElem? (i := 1) rfl) rfl dX3_set_14 ?_
      refine lv_iload_n S.1 S.2.1 dX3_set_17 rfl (lv_at hl 2 rfl) ?_
      refine g_aald6 S C hG 1 rfl 5 r5 rfl (by decide) (by decide) rfl dX3_set_18 ?_
      refine lv_iload_n S.1 S.2.1 dX3_set_19 rfl (lv_at hl 1 rfl) ?_
      refine lv_iload_n S.1 S.2.1 dX3_set_20 rfl (lv_at hl 3 rfl) ?_
      have hG : gW K A s.heap [gPthC K pa nb ra pl pe, gRw7 K nb r0 r1 r2 r3 r4 r5 r6, gArr K 60 r0 M0, gArr K 60 r1 M1, gArr K 60 r2 M2, gArr K 60 r3 M3, gArr K 60 r4 M4, gArr K 60 r5 M5, gArr K 60 r6 M6] _ _ := hG
      refine g_invSNv (As := [.ref r5, .int (iI i), .int (iI x)]) (rest := []) (gs' := (fun u : Unit => [gPthC K pa nb ra pl pe, gRw7 K nb r0 r1 r2 r3 r4 r5 r6, gArr K 60 r0 M0, gArr K 60 r1 M1, gArr K 60 r2 M2, gArr K 60 r3 M3, gArr K 60 r4 M4, gArr K 60 r5 (upI M5 i x), gArr K 60 r6 M6])) S C hG [7] (c_X8_put l K 60 r5 M5 i x h0 (by omega)) rfl rfl ⟨va_cnB 3 S.2.2.2.2 gX3_set_X8_put_n76 rfl rfl rfl (C.1.2.1 _ (List.mem_of_getElem? (i := 9) rfl)) (S.2.2.2.2 _ (List.mem_of_getElem? (i := 3) rfl)) (by decide +kernel) ⟨Nat.le_of_ble_eq_true rfl, Nat.le_of_ble_eq_true rfl⟩, (S.2.2.2.2 _ (List.mem_of_getElem? (i := 2) rfl)), trivial⟩ rfl hl.1 rfl (Nat.le_of_ble_eq_true rfl) dX3_set_21 ⟨Nat.le_of_ble_eq_true rfl, Nat.le_of_ble_eq_true rfl⟩ (fun _ => Nat.le_of_ble_eq_true rfl) (fun _ => rfl) (fun u H locs hp hG => ?_)
      have hG : gW K A s.heap [gPth K pa nb ra pl pe r0 r1 r2 r3 r4 r5 r6 M0 M1 M2 M3 M4 (upI M5 i x) M6] _ _ := hG
      exact g_vret S hr hlk hQ dX3_set_24 (Nat.le_of_ble_eq_true rfl) (Nat.le_of_ble_eq_true rfl) (() : Unit) trivial hG
set_option maxHeartbeats 4000000 in
set_option maxRecDepth 100000 in
theorem c_X3_set6 (l : Launch) (K : KC) (pa : Nat) (nb : Nat) (ra : Nat) (pl : Int) (pe : Int) (r0 : Nat) (r1 : Nat) (r2 : Nat) (r3 : Nat) (r4 : Nat) (r5 : Nat) (r6 : Nat) (M0 : Int → Int) (M1 : Int → Int) (M2 : Int → Int) (M3 : Int → Int) (M4 : Int → Int) (M5 : Int → Int) (M6 : Int → Int) (i : Int) (x : Int) (h0 : 0 ≤ i ∧ i < 60) : mV l yX3_set wsX3_set 1 22 K [.ref pa, .int (iI i), .int (iI 6), .int (iI x)] [gPth K pa nb ra pl pe r0 r1 r2 r3 r4 r5 r6 M0 M1 M2 M3 M4 M5 M6] (fun (u : Unit) => True) (fun (u : Unit) => [gPth K pa nb ra pl pe r0 r1 r2 r3 r4 r5 r6 M0 M1 M2 M3 M4 M5 (upI M6 i x)]) 0 0 := by
  refine mV_of cX3_set 4 (by decide) rfl (Nat.le_of_ble_eq_true rfl) ?_
  intro p e s m below meth c A ls Q S C hG hl hr hlk hin hQ
  have S : CallFix p m c cX3_set 4 s ([.ref pa, .int (iI i), .int (iI 6), .int (iI x)] : List Value).toArray wsX3_set RX3 := S
  have iX30 : ∀ w ∈ wsX30, w ∈ wsX3_set := fun _ h => List.mem_cons_of_mem _ (List.mem_append_right _ (h))
  have hl : lv_has ls 4 [(0, .ref pa), (1, .int (iI i)), (2, .int (iI 6)), (3, .int (iI x))] := hl
  have hG : gW K A s.heap [gPth K pa nb ra pl pe r0 r1 r2 r3 r4 r5 r6 M0 M1 M2 M3 M4 M5 M6] s.heap [] := hG
  refine lv_iload_n S.1 S.2.1 dX3_set_0 rfl (lv_at hl 2 rfl) ?_
  refine g_if_lt (tgt := 24) S dX3_set_1 (by decide) (by omega) (fun q1 => ?_) (fun q1 => ?_)
  · skip
    exact absurd q1 (by decide)
  · skip
    refine lv_iload_n S.1 S.2.1 dX3_set_4 rfl (lv_at hl 2 rfl) ?_
    refine lv_aload_n S.1 S.2.1 dX3_set_5 rfl (lv_at hl 0 rfl) ?_
    refine g_get S C hG iX30 0 rfl rfl 0 (by decide) (List.mem_of_getElem? (i := 1) rfl) rfl dX3_set_6 ?_
    refine g_alen (z := 7) S C hG 1 6 rfl rfl rfl dX3_set_9 ?_
    refine g_icmp_ge (tgt := 24) S dX3_set_10 (by decide) (by omega) (by omega) (fun q10 => ?_) (fun q10 => ?_)
    · skip
      exact absurd q10 (by decide)
    · skip
      refine lv_aload_n S.1 S.2.1 dX3_set_13 rfl (lv_at hl 0 rfl) ?_
      refine g_get S C hG iX30 0 rfl rfl 0 (by decide) (List.mem_of_getElem? (i := 1) rfl) rfl dX3_set_14 ?_
      refine lv_iload_n S.1 S.2.1 dX3_set_17 rfl (lv_at hl 2 rfl) ?_
      refine g_aald6 S C hG 1 rfl 6 r6 rfl (by decide) (by decide) rfl dX3_set_18 ?_
      refine lv_iload_n S.1 S.2.1 dX3_set_19 rfl (lv_at hl 1 rfl) ?_
      refine lv_iload_n S.1 S.2.1 dX3_set_20 rfl (lv_at hl 3 rfl) ?_
      have hG : gW K A s.heap [gPthC K pa nb ra pl pe, gRw7 K nb r0 r1 r2 r3 r4 r5 r6, gArr K 60 r0 M0, gArr K 60 r1 M1, gArr K 60 r2 M2, gArr K 60 r3 M3, gArr K 60 r4 M4, gArr K 60 r5 M5, gArr K 60 r6 M6] _ _ := hG
      refine g_invSNv (As := [.ref r6, .int (iI i), .int (iI x)]) (rest := []) (gs' := (fun u : Unit => [gPthC K pa nb ra pl pe, gRw7 K nb r0 r1 r2 r3 r4 r5 r6, gArr K 60 r0 M0, gArr K 60 r1 M1, gArr K 60 r2 M2, gArr K 60 r3 M3, gArr K 60 r4 M4, gArr K 60 r5 M5, gArr K 60 r6 (upI M6 i x)])) S C hG [8] (c_X8_put l K 60 r6 M6 i x h0 (by omega)) rfl rfl ⟨va_cnB 3 S.2.2.2.2 gX3_set_X8_put_n76 rfl rfl rfl (C.1.2.1 _ (List.mem_of_getElem? (i := 9) rfl)) (S.2.2.2.2 _ (List.mem_of_getElem? (i := 3) rfl)) (by decide +kernel) ⟨Nat.le_of_ble_eq_true rfl, Nat.le_of_ble_eq_true rfl⟩, (S.2.2.2.2 _ (List.mem_of_getElem? (i := 2) rfl)), trivial⟩ rfl hl.1 rfl (Nat.le_of_ble_eq_true rfl) dX3_set_21 ⟨Nat.le_of_ble_eq_true rfl, Nat.le_of_ble_eq_true rfl⟩ (fun _ => Nat.le_of_ble_eq_true rfl) (fun _ => rfl) (fun u H locs hp hG => ?_)
      have hG : gW K A s.heap [gPth K pa nb ra pl pe r0 r1 r2 r3 r4 r5 r6 M0 M1 M2 M3 M4 M5 (upI M6 i x)] _ _ := hG
      exact g_vret S hr hlk hQ dX3_set_24 (Nat.le_of_ble_eq_true rfl) (Nat.le_of_ble_eq_true rfl) (() : Unit) trivial hG
set_option maxHeartbeats 4000000 in
set_option maxRecDepth 100000 in
theorem c_X3_get0 (l : Launch) (K : KC) (pa : Nat) (nb : Nat) (ra : Nat) (pl : Int) (pe : Int) (r0 : Nat) (r1 : Nat) (r2 : Nat) (r3 : Nat) (r4 : Nat) (r5 : Nat) (r6 : Nat) (M0 : Int → Int) (M1 : Int → Int) (M2 : Int → Int) (M3 : Int → Int) (M4 : Int → Int) (M5 : Int → Int) (M6 : Int → Int) (i : Int) (h0 : 0 ≤ i ∧ i < 60) (h1 : 0 ≤ pl ∧ pl ≤ 60) : mG l yX3_get wsX3_get 1 21 K [.ref pa, .int (iI i), .int (iI 0)] [gPth K pa nb ra pl pe r0 r1 r2 r3 r4 r5 r6 M0 M1 M2 M3 M4 M5 M6] (fun (v : Value) (u : Unit) => (v = .int (iI (if i < pl then M0 i else 0)))) (fun (u : Unit) => [gPth K pa nb ra pl pe r0 r1 r2 r3 r4 r5 r6 M0 M1 M2 M3 M4 M5 M6]) 0 0 := by
  refine mG_of cX3_get 3 (by decide) rfl (Nat.le_of_ble_eq_true rfl) ?_
  intro p e s m below meth c A ls Q S C hG hl hr hlk hin hQ
  have S : CallFix p m c cX3_get 3 s ([.ref pa, .int (iI i), .int (iI 0)] : List Value).toArray wsX3_get RX3 := S
  have iX30 : ∀ w ∈ wsX30, w ∈ wsX3_get := fun _ h => List.mem_cons_of_mem _ (List.mem_append_right _ (h))
  have hl : lv_has ls 3 [(0, .ref pa), (1, .int (iI i)), (2, .int (iI 0))] := hl
  have hG : gW K A s.heap [gPth K pa nb ra pl pe r0 r1 r2 r3 r4 r5 r6 M0 M1 M2 M3 M4 M5 M6] s.heap [] := hG
  refine lv_iload_n S.1 S.2.1 dX3_get_0 rfl (lv_at hl 1 rfl) ?_
  refine lv_aload_n S.1 S.2.1 dX3_get_1 rfl (lv_at hl 0 rfl) ?_
  refine g_get S C hG iX30 0 rfl rfl 2 (by decide) (List.mem_of_getElem? (i := 1) rfl) rfl dX3_get_2 ?_
  refine g_icmp_ge (tgt := 34) S dX3_get_5 (by decide) (by omega) (by omega) (fun q5 => ?_) (fun q5 => ?_)
  · skip
    refine g_iconst S dX3_get_34 ?_
    have hG : gW K A s.heap [gPth K pa nb ra pl pe r0 r1 r2 r3 r4 r5 r6 M0 M1 M2 M3 M4 M5 M6] _ _ := hG
    exact g_iret S hr hlk hQ dX3_get_35 (Nat.le_of_ble_eq_true rfl) (Nat.le_of_ble_eq_true rfl) (() : Unit) (congrArg (fun z : Int => Value.int (iI z)) (by first | exact (if_pos (by omega)).symm | exact (if_neg (by omega)).symm)) hG
  · skip
    refine lv_iload_n S.1 S.2.1 dX3_get_8 rfl (lv_at hl 2 rfl) ?_
    refine g_if_lt (tgt := 34) S dX3_get_9 (by decide) (by omega) (fun q9 => ?_) (fun q9 => ?_)
    · skip
      exact absurd q9 (by decide)
    · skip
      refine lv_iload_n S.1 S.2.1 dX3_get_12 rfl (lv_at hl 2 rfl) ?_
      refine lv_aload_n S.1 S.2.1 dX3_get_13 rfl (lv_at hl 0 rfl) ?_
      refine g_get S C hG iX30 0 rfl rfl 0 (by decide) (List.mem_of_getElem? (i := 2) rfl) rfl dX3_get_14 ?_
      refine g_alen (z := 7) S C hG 1 6 rfl rfl rfl dX3_get_17 ?_
      refine g_icmp_ge (tgt := 34) S dX3_get_18 (by decide) (by omega) (by omega) (fun q18 => ?_) (fun q18 => ?_)
      · skip
        exact absurd q18 (by decide)
      · skip
        refine lv_aload_n S.1 S.2.1 dX3_get_21 rfl (lv_at hl 0 rfl) ?_
        refine g_get S C hG iX30 0 rfl rfl 0 (by decide) (List.mem_of_getElem? (i := 2) rfl) rfl dX3_get_22 ?_
        refine lv_iload_n S.1 S.2.1 dX3_get_25 rfl (lv_at hl 2 rfl) ?_
        refine g_aald6 S C hG 1 rfl 0 r0 rfl (by decide) (by decide) rfl dX3_get_26 ?_
        refine lv_iload_n S.1 S.2.1 dX3_get_27 rfl (lv_at hl 1 rfl) ?_
        have hG : gW K A s.heap [gPthC K pa nb ra pl pe, gRw7 K nb r0 r1 r2 r3 r4 r5 r6, gArr K 60 r0 M0, gArr K 60 r1 M1, gArr K 60 r2 M2, gArr K 60 r3 M3, gArr K 60 r4 M4, gArr K 60 r5 M5, gArr K 60 r6 M6] _ _ := hG
        refine g_invSN (As := [.ref r0, .int (iI i)]) (rest := []) (gs' := (fun u : Unit => [gPthC K pa nb ra pl pe, gRw7 K nb r0 r1 r2 r3 r4 r5 r6, gArr K 60 r0 M0, gArr K 60 r1 M1, gArr K 60 r2 M2, gArr K 60 r3 M3, gArr K 60 r4 M4, gArr K 60 r5 M5, gArr K 60 r6 M6])) S C hG [2] (c_X8_at l K 60 r0 M0 i h0 (by omega)) rfl rfl ⟨va_cnB 2 S.2.2.2.2 gX3_get_X8_at_n80 rfl rfl rfl (C.1.2.1 _ (List.mem_of_getElem? (i := 10) rfl)) (S.2.2.2.2 _ (List.mem_of_getElem? (i := 4) rfl)) (by decide +kernel) ⟨Nat.le_of_ble_eq_true rfl, Nat.le_of_ble_eq_true rfl⟩, (S.2.2.2.2 _ (List.mem_of_getElem? (i := 3) rfl)), trivial⟩ rfl hl.1 rfl (Nat.le_of_ble_eq_true rfl) dX3_get_28 ⟨Nat.le_of_ble_eq_true rfl, Nat.le_of_ble_eq_true rfl⟩ (fun _ => Nat.le_of_ble_eq_true rfl) (fun _ => rfl) (fun v u H locs hp hG => ?_)
        subst hp
        refine lv_goto (tgt := 35) S.1 S.2.1 dX3_get_31 (by decide) ?_
        have hG : gW K A s.heap [gPth K pa nb ra pl pe r0 r1 r2 r3 r4 r5 r6 M0 M1 M2 M3 M4 M5 M6] _ _ := hG
        exact g_iret S hr hlk hQ dX3_get_35 (Nat.le_of_ble_eq_true rfl) (Nat.le_of_ble_eq_true rfl) (() : Unit) (congrArg (fun z : Int => Value.int (iI z)) (by first | exact (if_pos (by omega)).symm | exact (if_neg (by omega)).symm)) hG
set_option maxHeartbeats 4000000 in
set_option maxRecDepth 100000 in
theorem c_X3_get1 (l : Launch) (K : KC) (pa : Nat) (nb : Nat) (ra : Nat) (pl : Int) (pe : Int) (r0 : Nat) (r1 : Nat) (r2 : Nat) (r3 : Nat) (r4 : Nat) (r5 : Nat) (r6 : Nat) (M0 : Int → Int) (M1 : Int → Int) (M2 : Int → Int) (M3 : Int → Int) (M4 : Int → Int) (M5 : Int → Int) (M6 : Int → Int) (i : Int) (h0 : 0 ≤ i ∧ i < 60) (h1 : 0 ≤ pl ∧ pl ≤ 60) : mG l yX3_get wsX3_get 1 21 K [.ref pa, .int (iI i), .int (iI 1)] [gPth K pa nb ra pl pe r0 r1 r2 r3 r4 r5 r6 M0 M1 M2 M3 M4 M5 M6] (fun (v : Value) (u : Unit) => (v = .int (iI (if i < pl then M1 i else 0)))) (fun (u : Unit) => [gPth K pa nb ra pl pe r0 r1 r2 r3 r4 r5 r6 M0 M1 M2 M3 M4 M5 M6]) 0 0 := by
  refine mG_of cX3_get 3 (by decide) rfl (Nat.le_of_ble_eq_true rfl) ?_
  intro p e s m below meth c A ls Q S C hG hl hr hlk hin hQ
  have S : CallFix p m c cX3_get 3 s ([.ref pa, .int (iI i), .int (iI 1)] : List Value).toArray wsX3_get RX3 := S
  have iX30 : ∀ w ∈ wsX30, w ∈ wsX3_get := fun _ h => List.mem_cons_of_mem _ (List.mem_append_right _ (h))
  have hl : lv_has ls 3 [(0, .ref pa), (1, .int (iI i)), (2, .int (iI 1))] := hl
  have hG : gW K A s.heap [gPth K pa nb ra pl pe r0 r1 r2 r3 r4 r5 r6 M0 M1 M2 M3 M4 M5 M6] s.heap [] := hG
  refine lv_iload_n S.1 S.2.1 dX3_get_0 rfl (lv_at hl 1 rfl) ?_
  refine lv_aload_n S.1 S.2.1 dX3_get_1 rfl (lv_at hl 0 rfl) ?_
  refine g_get S C hG iX30 0 rfl rfl 2 (by decide) (List.mem_of_getElem? (i := 1) rfl) rfl dX3_get_2 ?_
  refine g_icmp_ge (tgt := 34) S dX3_get_5 (by decide) (by omega) (by omega) (fun q5 => ?_) (fun q5 => ?_)
  · skip
    refine g_iconst S dX3_get_34 ?_
    have hG : gW K A s.heap [gPth K pa nb ra pl pe r0 r1 r2 r3 r4 r5 r6 M0 M1 M2 M3 M4 M5 M6] _ _ := hG
    exact g_iret S hr hlk hQ dX3_get_35 (Nat.le_of_ble_eq_true rfl) (Nat.le_of_ble_eq_true rfl) (() : Unit) (congrArg (fun z : Int => Value.int (iI z)) (by first | exact (if_pos (by omega)).symm | exact (if_neg (by omega)).symm)) hG
  · skip
    refine lv_iload_n S.1 S.2.1 dX3_get_8 rfl (lv_at hl 2 rfl) ?_
    refine g_if_lt (tgt := 34) S dX3_get_9 (by decide) (by omega) (fun q9 => ?_) (fun q9 => ?_)
    · skip
      exact absurd q9 (by decide)
    · skip
      refine lv_iload_n S.1 S.2.1 dX3_get_12 rfl (lv_at hl 2 rfl) ?_
      refine lv_aload_n S.1 S.2.1 dX3_get_13 rfl (lv_at hl 0 rfl) ?_
      refine g_get S C hG iX30 0 rfl rfl 0 (by decide) (List.mem_of_getElem? (i := 2) rfl) rfl dX3_get_14 ?_
      refine g_alen (z := 7) S C hG 1 6 rfl rfl rfl dX3_get_17 ?_
      refine g_icmp_ge (tgt := 34) S dX3_get_18 (by decide) (by omega) (by omega) (fun q18 => ?_) (fun q18 => ?_)
      · skip
        exact absurd q18 (by decide)
      · skip
        refine lv_aload_n S.1 S.2.1 dX3_get_21 rfl (lv_at hl 0 rfl) ?_
        refine g_get S C hG iX30 0 rfl rfl 0 (by decide) (List.mem_of_getElem? (i := 2) rfl) rfl dX3_get_22 ?_
        refine lv_iload_n S.1 S.2.1 dX3_get_25 rfl (lv_at hl 2 rfl) ?_
        refine g_aald6 S C hG 1 rfl 1 r1 rfl (by decide) (by decide) rfl dX3_get_26 ?_
        refine lv_iload_n S.1 S.2.1 dX3_get_27 rfl (lv_at hl 1 rfl) ?_
        have hG : gW K A s.heap [gPthC K pa nb ra pl pe, gRw7 K nb r0 r1 r2 r3 r4 r5 r6, gArr K 60 r0 M0, gArr K 60 r1 M1, gArr K 60 r2 M2, gArr K 60 r3 M3, gArr K 60 r4 M4, gArr K 60 r5 M5, gArr K 60 r6 M6] _ _ := hG
        refine g_invSN (As := [.ref r1, .int (iI i)]) (rest := []) (gs' := (fun u : Unit => [gPthC K pa nb ra pl pe, gRw7 K nb r0 r1 r2 r3 r4 r5 r6, gArr K 60 r0 M0, gArr K 60 r1 M1, gArr K 60 r2 M2, gArr K 60 r3 M3, gArr K 60 r4 M4, gArr K 60 r5 M5, gArr K 60 r6 M6])) S C hG [3] (c_X8_at l K 60 r1 M1 i h0 (by omega)) rfl rfl ⟨va_cnB 2 S.2.2.2.2 gX3_get_X8_at_n80 rfl rfl rfl (C.1.2.1 _ (List.mem_of_getElem? (i := 10) rfl)) (S.2.2.2.2 _ (List.mem_of_getElem? (i := 4) rfl)) (by decide +kernel) ⟨Nat.le_of_ble_eq_true rfl, Nat.le_of_ble_eq_true rfl⟩, (S.2.2.2.2 _ (List.mem_of_getElem? (i := 3) rfl)), trivial⟩ rfl hl.1 rfl (Nat.le_of_ble_eq_true rfl) dX3_get_28 ⟨Nat.le_of_ble_eq_true rfl, Nat.le_of_ble_eq_true rfl⟩ (fun _ => Nat.le_of_ble_eq_true rfl) (fun _ => rfl) (fun v u H locs hp hG => ?_)
        subst hp
        refine lv_goto (tgt := 35) S.1 S.2.1 dX3_get_31 (by decide) ?_
        have hG : gW K A s.heap [gPth K pa nb ra pl pe r0 r1 r2 r3 r4 r5 r6 M0 M1 M2 M3 M4 M5 M6] _ _ := hG
        exact g_iret S hr hlk hQ dX3_get_35 (Nat.le_of_ble_eq_true rfl) (Nat.le_of_ble_eq_true rfl) (() : Unit) (congrArg (fun z : Int => Value.int (iI z)) (by first | exact (if_pos (by omega)).symm | exact (if_neg (by omega)).symm)) hG
set_option maxHeartbeats 4000000 in
set_option maxRecDepth 100000 in
theorem c_X3_get2 (l : Launch) (K : KC) (pa : Nat) (nb : Nat) (ra : Nat) (pl : Int) (pe : Int) (r0 : Nat) (r1 : Nat) (r2 : Nat) (r3 : Nat) (r4 : Nat) (r5 : Nat) (r6 : Nat) (M0 : Int → Int) (M1 : Int → Int) (M2 : Int → Int) (M3 : Int → Int) (M4 : Int → Int) (M5 : Int → Int) (M6 : Int → Int) (i : Int) (h0 : 0 ≤ i ∧ i < 60) (h1 : 0 ≤ pl ∧ pl ≤ 60) : mG l yX3_get wsX3_get 1 21 K [.ref pa, .int (iI i), .int (iI 2)] [gPth K pa nb ra pl pe r0 r1 r2 r3 r4 r5 r6 M0 M1 M2 M3 M4 M5 M6] (fun (v : Value) (u : Unit) => (v = .int (iI (if i < pl then M2 i else 0)))) (fun (u : Unit) => [gPth K pa nb ra pl pe r0 r1 r2 r3 r4 r5 r6 M0 M1 M2 M3 M4 M5 M6]) 0 0 := by
  refine mG_of cX3_get 3 (by decide) rfl (Nat.le_of_ble_eq_true rfl) ?_
  intro p e s m below meth c A ls Q S C hG hl hr hlk hin hQ
  have S : CallFix p m c cX3_get 3 s ([.ref pa, .int (iI i), .int (iI 2)] : List Value).toArray wsX3_get RX3 := S
  have iX30 : ∀ w ∈ wsX30, w ∈ wsX3_get := fun _ h => List.mem_cons_of_mem _ (List.mem_append_right _ (h))
  have hl : lv_has ls 3 [(0, .ref pa), (1, .int (iI i)), (2, .int (iI 2))] := hl
  have hG : gW K A s.heap [gPth K pa nb ra pl pe r0 r1 r2 r3 r4 r5 r6 M0 M1 M2 M3 M4 M5 M6] s.heap [] := hG
  refine lv_iload_n S.1 S.2.1 dX3_get_0 rfl (lv_at hl 1 rfl) ?_
  refine lv_aload_n S.1 S.2.1 dX3_get_1 rfl (lv_at hl 0 rfl) ?_
  refine g_get S C hG iX30 0 rfl rfl 2 (by decide) (List.mem_of_getElem? (i := 1) rfl) rfl dX3_get_2 ?_
  refine g_icmp_ge (tgt := 34) S dX3_get_5 (by decide) (by omega) (by omega) (fun q5 => ?_) (fun q5 => ?_)
  · skip
    refine g_iconst S dX3_get_34 ?_
    have hG : gW K A s.heap [gPth K pa nb ra pl pe r0 r1 r2 r3 r4 r5 r6 M0 M1 M2 M3 M4 M5 M6] _ _ := hG
    exact g_iret S hr hlk hQ dX3_get_35 (Nat.le_of_ble_eq_true rfl) (Nat.le_of_ble_eq_true rfl) (() : Unit) (congrArg (fun z : Int => Value.int (iI z)) (by first | exact (if_pos (by omega)).symm | exact (if_neg (by omega)).symm)) hG
  · skip
    refine lv_iload_n S.1 S.2.1 dX3_get_8 rfl (lv_at hl 2 rfl) ?_
    refine g_if_lt (tgt := 34) S dX3_get_9 (by decide) (by omega) (fun q9 => ?_) (fun q9 => ?_)
    · skip
      exact absurd q9 (by decide)
    · skip
      refine lv_iload_n S.1 S.2.1 dX3_get_12 rfl (lv_at hl 2 rfl) ?_
      refine lv_aload_n S.1 S.2.1 dX3_get_13 rfl (lv_at hl 0 rfl) ?_
      refine g_get S C hG iX30 0 rfl rfl 0 (by decide) (List.mem_of_getElem? (i := 2) rfl) rfl dX3_get_14 ?_
      refine g_alen (z := 7) S C hG 1 6 rfl rfl rfl dX3_get_17 ?_
      refine g_icmp_ge (tgt := 34) S dX3_get_18 (by decide) (by omega) (by omega) (fun q18 => ?_) (fun q18 => ?_)
      · skip
        exact absurd q18 (by decide)
      · skip
        refine lv_aload_n S.1 S.2.1 dX3_get_21 rfl (lv_at hl 0 rfl) ?_
        refine g_get S C hG iX30 0 rfl rfl 0 (by decide) (List.mem_of_getElem? (i := 2) rfl) rfl dX3_get_22 ?_
        refine lv_iload_n S.1 S.2.1 dX3_get_25 rfl (lv_at hl 2 rfl) ?_
        refine g_aald6 S C hG 1 rfl 2 r2 rfl (by decide) (by decide) rfl dX3_get_26 ?_
        refine lv_iload_n S.1 S.2.1 dX3_get_27 rfl (lv_at hl 1 rfl) ?_
        have hG : gW K A s.heap [gPthC K pa nb ra pl pe, gRw7 K nb r0 r1 r2 r3 r4 r5 r6, gArr K 60 r0 M0, gArr K 60 r1 M1, gArr K 60 r2 M2, gArr K 60 r3 M3, gArr K 60 r4 M4, gArr K 60 r5 M5, gArr K 60 r6 M6] _ _ := hG
        refine g_invSN (As := [.ref r2, .int (iI i)]) (rest := []) (gs' := (fun u : Unit => [gPthC K pa nb ra pl pe, gRw7 K nb r0 r1 r2 r3 r4 r5 r6, gArr K 60 r0 M0, gArr K 60 r1 M1, gArr K 60 r2 M2, gArr K 60 r3 M3, gArr K 60 r4 M4, gArr K 60 r5 M5, gArr K 60 r6 M6])) S C hG [4] (c_X8_at l K 60 r2 M2 i h0 (by omega)) rfl rfl ⟨va_cnB 2 S.2.2.2.2 gX3_get_X8_at_n80 rfl rfl rfl (C.1.2.1 _ (List.mem_of_getElem? (i := 10) rfl)) (S.2.2.2.2 _ (List.mem_of_getElem? (i := 4) rfl)) (by decide +kernel) ⟨Nat.le_of_ble_eq_true rfl, Nat.le_of_ble_eq_true rfl⟩, (S.2.2.2.2 _ (List.mem_of_getElem? (i := 3) rfl)), trivial⟩ rfl hl.1 rfl (Nat.le_of_ble_eq_true rfl) dX3_get_28 ⟨Nat.le_of_ble_eq_true rfl, Nat.le_of_ble_eq_true rfl⟩ (fun _ => Nat.le_of_ble_eq_true rfl) (fun _ => rfl) (fun v u H locs hp hG => ?_)
        subst hp
        refine lv_goto (tgt := 35) S.1 S.2.1 dX3_get_31 (by decide) ?_
        have hG : gW K A s.heap [gPth K pa nb ra pl pe r0 r1 r2 r3 r4 r5 r6 M0 M1 M2 M3 M4 M5 M6] _ _ := hG
        exact g_iret S hr hlk hQ dX3_get_35 (Nat.le_of_ble_eq_true rfl) (Nat.le_of_ble_eq_true rfl) (() : Unit) (congrArg (fun z : Int => Value.int (iI z)) (by first | exact (if_pos (by omega)).symm | exact (if_neg (by omega)).symm)) hG
set_option maxHeartbeats 4000000 in
set_option maxRecDepth 100000 in
theorem c_X3_get3 (l : Launch) (K : KC) (pa : Nat) (nb : Nat) (ra : Nat) (pl : Int) (pe : Int) (r0 : Nat) (r1 : Nat) (r2 : Nat) (r3 : Nat) (r4 : Nat) (r5 : Nat) (r6 : Nat) (M0 : Int → Int) (M1 : Int → Int) (M2 : Int → Int) (M3 : Int → Int) (M4 : Int → Int) (M5 : Int → Int) (M6 : Int → Int) (i : Int) (h0 : 0 ≤ i ∧ i < 60) (h1 : 0 ≤ pl ∧ pl ≤ 60) : mG l yX3_get wsX3_get 1 21 K [.ref pa, .int (iI i), .int (iI 3)] [gPth K pa nb ra pl pe r0 r1 r2 r3 r4 r5 r6 M0 M1 M2 M3 M4 M5 M6] (fun (v : Value) (u : Unit) => (v = .int (iI (if i < pl then M3 i else 0)))) (fun (u : Unit) => [gPth K pa nb ra pl pe r0 r1 r2 r3 r4 r5 r6 M0 M1 M2 M3 M4 M5 M6]) 0 0 := by
  refine mG_of cX3_get 3 (by decide) rfl (Nat.le_of_ble_eq_true rfl) ?_
  intro p e s m below meth c A ls Q S C hG hl hr hlk hin hQ
  have S : CallFix p m c cX3_get 3 s ([.ref pa, .int (iI i), .int (iI 3)] : List Value).toArray wsX3_get RX3 := S
  have iX30 : ∀ w ∈ wsX30, w ∈ wsX3_get := fun _ h => List.mem_cons_of_mem _ (List.mem_append_right _ (h))
  have hl : lv_has ls 3 [(0, .ref pa), (1, .int (iI i)), (2, .int (iI 3))] := hl
  have hG : gW K A s.heap [gPth K pa nb ra pl pe r0 r1 r2 r3 r4 r5 r6 M0 M1 M2 M3 M4 M5 M6] s.heap [] := hG
  refine lv_iload_n S.1 S.2.1 dX3_get_0 rfl (lv_at hl 1 rfl) ?_
  refine lv_aload_n S.1 S.2.1 dX3_get_1 rfl (lv_at hl 0 rfl) ?_
  refine g_get S C hG iX30 0 rfl rfl 2 (by decide) (List.mem_of_getElem? (i := 1) rfl) rfl dX3_get_2 ?_
  refine g_icmp_ge (tgt := 34) S dX3_get_5 (by decide) (by omega) (by omega) (fun q5 => ?_) (fun q5 => ?_)
  · skip
    refine g_iconst S dX3_get_34 ?_
    have hG : gW K A s.heap [gPth K pa nb ra pl pe r0 r1 r2 r3 r4 r5 r6 M0 M1 M2 M3 M4 M5 M6] _ _ := hG
    exact g_iret S hr hlk hQ dX3_get_35 (Nat.le_of_ble_eq_true rfl) (Nat.le_of_ble_eq_true rfl) (() : Unit) (congrArg (fun z : Int => Value.int (iI z)) (by first | exact (if_pos (by omega)).symm | exact (if_neg (by omega)).symm)) hG
  · skip
    refine lv_iload_n S.1 S.2.1 dX3_get_8 rfl (lv_at hl 2 rfl) ?_
    refine g_if_lt (tgt := 34) S dX3_get_9 (by decide) (by omega) (fun q9 => ?_) (fun q9 => ?_)
    · skip
      exact absurd q9 (by decide)
    · skip
      refine lv_iload_n S.1 S.2.1 dX3_get_12 rfl (lv_at hl 2 rfl) ?_
      refine lv_aload_n S.1 S.2.1 dX3_get_13 rfl (lv_at hl 0 rfl) ?_
      refine g_get S C hG iX30 0 rfl rfl 0 (by decide) (List.mem_of_getElem? (i := 2) rfl) rfl dX3_get_14 ?_
      refine g_alen (z := 7) S C hG 1 6 rfl rfl rfl dX3_get_17 ?_
      refine g_icmp_ge (tgt := 34) S dX3_get_18 (by decide) (by omega) (by omega) (fun q18 => ?_) (fun q18 => ?_)
      · skip
        exact absurd q18 (by decide)
      · skip
        refine lv_aload_n S.1 S.2.1 dX3_get_21 rfl (lv_at hl 0 rfl) ?_
        refine g_get S C hG iX30 0 rfl rfl 0 (by decide) (List.mem_of_getElem? (i := 2) rfl) rfl dX3_get_22 ?_
        refine lv_iload_n S.1 S.2.1 dX3_get_25 rfl (lv_at hl 2 rfl) ?_
        refine g_aald6 S C hG 1 rfl 3 r3 rfl (by decide) (by decide) rfl dX3_get_26 ?_
        refine lv_iload_n S.1 S.2.1 dX3_get_27 rfl (lv_at hl 1 rfl) ?_
        have hG : gW K A s.heap [gPthC K pa nb ra pl pe, gRw7 K nb r0 r1 r2 r3 r4 r5 r6, gArr K 60 r0 M0, gArr K 60 r1 M1, gArr K 60 r2 M2, gArr K 60 r3 M3, gArr K 60 r4 M4, gArr K 60 r5 M5, gArr K 60 r6 M6] _ _ := hG
        refine g_invSN (As := [.ref r3, .int (iI i)]) (rest := []) (gs' := (fun u : Unit => [gPthC K pa nb ra pl pe, gRw7 K nb r0 r1 r2 r3 r4 r5 r6, gArr K 60 r0 M0, gArr K 60 r1 M1, gArr K 60 r2 M2, gArr K 60 r3 M3, gArr K 60 r4 M4, gArr K 60 r5 M5, gArr K 60 r6 M6])) S C hG [5] (c_X8_at l K 60 r3 M3 i h0 (by omega)) rfl rfl ⟨va_cnB 2 S.2.2.2.2 gX3_get_X8_at_n80 rfl rfl rfl (C.1.2.1 _ (List.mem_of_getElem? (i := 10) rfl)) (S.2.2.2.2 _ (List.mem_of_getElem? (i := 4) rfl)) (by decide +kernel) ⟨Nat.le_of_ble_eq_true rfl, Nat.le_of_ble_eq_true rfl⟩, (S.2.2.2.2 _ (List.mem_of_getElem? (i := 3) rfl)), trivial⟩ rfl hl.1 rfl (Nat.le_of_ble_eq_true rfl) dX3_get_28 ⟨Nat.le_of_ble_eq_true rfl, Nat.le_of_ble_eq_true rfl⟩ (fun _ => Nat.le_of_ble_eq_true rfl) (fun _ => rfl) (fun v u H locs hp hG => ?_)
        subst hp
        refine lv_goto (tgt := 35) S.1 S.2.1 dX3_get_31 (by decide) ?_
        have hG : gW K A s.heap [gPth K pa nb ra pl pe r0 r1 r2 r3 r4 r5 r6 M0 M1 M2 M3 M4 M5 M6] _ _ := hG
        exact g_iret S hr hlk hQ dX3_get_35 (Nat.le_of_ble_eq_true rfl) (Nat.le_of_ble_eq_true rfl) (() : Unit) (congrArg (fun z : Int => Value.int (iI z)) (by first | exact (if_pos (by omega)).symm | exact (if_neg (by omega)).symm)) hG
set_option maxHeartbeats 4000000 in
set_option maxRecDepth 100000 in
theorem c_X3_get4 (l : Launch) (K : KC) (pa : Nat) (nb : Nat) (ra : Nat) (pl : Int) (pe : Int) (r0 : Nat) (r1 : Nat) (r2 : Nat) (r3 : Nat) (r4 : Nat) (r5 : Nat) (r6 : Nat) (M0 : Int → Int) (M1 : Int → Int) (M2 : Int → Int) (M3 : Int → Int) (M4 : Int → Int) (M5 : Int → Int) (M6 : Int → Int) (i : Int) (h0 : 0 ≤ i ∧ i < 60) (h1 : 0 ≤ pl ∧ pl ≤ 60) : mG l yX3_get wsX3_get 1 21 K [.ref pa, .int (iI i), .int (iI 4)] [gPth K pa nb ra pl pe r0 r1 r2 r3 r4 r5 r6 M0 M1 M2 M3 M4 M5 M6] (fun (v : Value) (u : Unit) => (v = .int (iI (if i < pl then M4 i else 0)))) (fun (u : Unit) => [gPth K pa nb ra pl pe r0 r1 r2 r3 r4 r5 r6 M0 M1 M2 M3 M4 M5 M6]) 0 0 := by
  refine mG_of cX3_get 3 (by decide) rfl (Nat.le_of_ble_eq_true rfl) ?_
  intro p e s m below meth c A ls Q S C hG hl hr hlk hin hQ
  have S : CallFix p m c cX3_get 3 s ([.ref pa, .int (iI i), .int (iI 4)] : List Value).toArray wsX3_get RX3 := S
  have iX30 : ∀ w ∈ wsX30, w ∈ wsX3_get := fun _ h => List.mem_cons_of_mem _ (List.mem_append_right _ (h))
  have hl : lv_has ls 3 [(0, .ref pa), (1, .int (iI i)), (2, .int (iI 4))] := hl
  have hG : gW K A s.heap [gPth K pa nb ra pl pe r0 r1 r2 r3 r4 r5 r6 M0 M1 M2 M3 M4 M5 M6] s.heap [] := hG
  refine lv_iload_n S.1 S.2.1 dX3_get_0 rfl (lv_at hl 1 rfl) ?_
  refine lv_aload_n S.1 S.2.1 dX3_get_1 rfl (lv_at hl 0 rfl) ?_
  refine g_get S C hG iX30 0 rfl rfl 2 (by decide) (List.mem_of_getElem? (i := 1) rfl) rfl dX3_get_2 ?_
  refine g_icmp_ge (tgt := 34) S dX3_get_5 (by decide) (by omega) (by omega) (fun q5 => ?_) (fun q5 => ?_)
  · skip
    refine g_iconst S dX3_get_34 ?_
    have hG : gW K A s.heap [gPth K pa nb ra pl pe r0 r1 r2 r3 r4 r5 r6 M0 M1 M2 M3 M4 M5 M6] _ _ := hG
    exact g_iret S hr hlk hQ dX3_get_35 (Nat.le_of_ble_eq_true rfl) (Nat.le_of_ble_eq_true rfl) (() : Unit) (congrArg (fun z : Int => Value.int (iI z)) (by first | exact (if_pos (by omega)).symm | exact (if_neg (by omega)).symm)) hG
  · skip
    refine lv_iload_n S.1 S.2.1 dX3_get_8 rfl (lv_at hl 2 rfl) ?_
    refine g_if_lt (tgt := 34) S dX3_get_9 (by decide) (by omega) (fun q9 => ?_) (fun q9 => ?_)
    · skip
      exact absurd q9 (by decide)
    · skip
      refine lv_iload_n S.1 S.2.1 dX3_get_12 rfl (lv_at hl 2 rfl) ?_
      refine lv_aload_n S.1 S.2.1 dX3_get_13 rfl (lv_at hl 0 rfl) ?_
      refine g_get S C hG iX30 0 rfl rfl 0 (by decide) (List.mem_of_getElem? (i := 2) rfl) rfl dX3_get_14 ?_
      refine g_alen (z := 7) S C hG 1 6 rfl rfl rfl dX3_get_17 ?_
      refine g_icmp_ge (tgt := 34) S dX3_get_18 (by decide) (by omega) (by omega) (fun q18 => ?_) (fun q18 => ?_)
      · skip
        exact absurd q18 (by decide)
      · skip
        refine lv_aload_n S.1 S.2.1 dX3_get_21 rfl (lv_at hl 0 rfl) ?_
        refine g_get S C hG iX30 0 rfl rfl 0 (by decide) (List.mem_of_getElem? (i := 2) rfl) rfl dX3_get_22 ?_
        refine lv_iload_n S.1 S.2.1 dX3_get_25 rfl (lv_at hl 2 rfl) ?_
        refine g_aald6 S C hG 1 rfl 4 r4 rfl (by decide) (by decide) rfl dX3_get_26 ?_
        refine lv_iload_n S.1 S.2.1 dX3_get_27 rfl (lv_at hl 1 rfl) ?_
        have hG : gW K A s.heap [gPthC K pa nb ra pl pe, gRw7 K nb r0 r1 r2 r3 r4 r5 r6, gArr K 60 r0 M0, gArr K 60 r1 M1, gArr K 60 r2 M2, gArr K 60 r3 M3, gArr K 60 r4 M4, gArr K 60 r5 M5, gArr K 60 r6 M6] _ _ := hG
        refine g_invSN (As := [.ref r4, .int (iI i)]) (rest := []) (gs' := (fun u : Unit => [gPthC K pa nb ra pl pe, gRw7 K nb r0 r1 r2 r3 r4 r5 r6, gArr K 60 r0 M0, gArr K 60 r1 M1, gArr K 60 r2 M2, gArr K 60 r3 M3, gArr K 60 r4 M4, gArr K 60 r5 M5, gArr K 60 r6 M6])) S C hG [6] (c_X8_at l K 60 r4 M4 i h0 (by omega)) rfl rfl ⟨va_cnB 2 S.2.2.2.2 gX3_get_X8_at_n80 rfl rfl rfl (C.1.2.1 _ (List.mem_of_getElem? (i := 10) rfl)) (S.2.2.2.2 _ (List.mem_of_getElem? (i := 4) rfl)) (by decide +kernel) ⟨Nat.le_of_ble_eq_true rfl, Nat.le_of_ble_eq_true rfl⟩, (S.2.2.2.2 _ (List.mem_of_getElem? (i := 3) rfl)), trivial⟩ rfl hl.1 rfl (Nat.le_of_ble_eq_true rfl) dX3_get_28 ⟨Nat.le_of_ble_eq_true rfl, Nat.le_of_ble_eq_true rfl⟩ (fun _ => Nat.le_of_ble_eq_true rfl) (fun _ => rfl) (fun v u H locs hp hG => ?_)
        subst hp
        refine lv_goto (tgt := 35) S.1 S.2.1 dX3_get_31 (by decide) ?_
        have hG : gW K A s.heap [gPth K pa nb ra pl pe r0 r1 r2 r3 r4 r5 r6 M0 M1 M2 M3 M4 M5 M6] _ _ := hG
        exact g_iret S hr hlk hQ dX3_get_35 (Nat.le_of_ble_eq_true rfl) (Nat.le_of_ble_eq_true rfl) (() : Unit) (congrArg (fun z : Int => Value.int (iI z)) (by first | exact (if_pos (by omega)).symm | exact (if_neg (by omega)).symm)) hG
set_option maxHeartbeats 4000000 in
set_option maxRecDepth 100000 in
theorem c_X3_get5 (l : Launch) (K : KC) (pa : Nat) (nb : Nat) (ra : Nat) (pl : Int) (pe : Int) (r0 : Nat) (r1 : Nat) (r2 : Nat) (r3 : Nat) (r4 : Nat) (r5 : Nat) (r6 : Nat) (M0 : Int → Int) (M1 : Int → Int) (M2 : Int → Int) (M3 : Int → Int) (M4 : Int → Int) (M5 : Int → Int) (M6 : Int → Int) (i : Int) (h0 : 0 ≤ i ∧ i < 60) (h1 : 0 ≤ pl ∧ pl ≤ 60) : mG l yX3_get wsX3_get 1 21 K [.ref pa, .int (iI i), .int (iI 5)] [gPth K pa nb ra pl pe r0 r1 r2 r3 r4 r5 r6 M0 M1 M2 M3 M4 M5 M6] (fun (v : Value) (u : Unit) => (v = .int (iI (if i < pl then M5 i else 0)))) (fun (u : Unit) => [gPth K pa nb ra pl pe r0 r1 r2 r3 r4 r5 r6 M0 M1 M2 M3 M4 M5 M6]) 0 0 := by
  refine mG_of cX3_get 3 (by decide) rfl (Nat.le_of_ble_eq_true rfl) ?_
  intro p e s m below meth c A ls Q S C hG hl hr hlk hin hQ
  have S : CallFix p m c cX3_get 3 s ([.ref pa, .int (iI i), .int (iI 5)] : List Value).toArray wsX3_get RX3 := S
  have iX30 : ∀ w ∈ wsX30, w ∈ wsX3_get := fun _ h => List.mem_cons_of_mem _ (List.mem_append_right _ (h))
  have hl : lv_has ls 3 [(0, .ref pa), (1, .int (iI i)), (2, .int (iI 5))] := hl
  have hG : gW K A s.heap [gPth K pa nb ra pl pe r0 r1 r2 r3 r4 r5 r6 M0 M1 M2 M3 M4 M5 M6] s.heap [] := hG
  refine lv_iload_n S.1 S.2.1 dX3_get_0 rfl (lv_at hl 1 rfl) ?_
  refine lv_aload_n S.1 S.2.1 dX3_get_1 rfl (lv_at hl 0 rfl) ?_
  refine g_get S C hG iX30 0 rfl rfl 2 (by decide) (List.mem_of_getElem? (i := 1) rfl) rfl dX3_get_2 ?_
  refine g_icmp_ge (tgt := 34) S dX3_get_5 (by decide) (by omega) (by omega) (fun q5 => ?_) (fun q5 => ?_)
  · skip
    refine g_iconst S dX3_get_34 ?_
    have hG : gW K A s.heap [gPth K pa nb ra pl pe r0 r1 r2 r3 r4 r5 r6 M0 M1 M2 M3 M4 M5 M6] _ _ := hG
    exact g_iret S hr hlk hQ dX3_get_35 (Nat.le_of_ble_eq_true rfl) (Nat.le_of_ble_eq_true rfl) (() : Unit) (congrArg (fun z : Int => Value.int (iI z)) (by first | exact (if_pos (by omega)).symm | exact (if_neg (by omega)).symm)) hG
  · skip
    refine lv_iload_n S.1 S.2.1 dX3_get_8 rfl (lv_at hl 2 rfl) ?_
    refine g_if_lt (tgt := 34) S dX3_get_9 (by decide) (by omega) (fun q9 => ?_) (fun q9 => ?_)
    · skip
      exact absurd q9 (by decide)
    · skip
      refine lv_iload_n S.1 S.2.1 dX3_get_12 rfl (lv_at hl 2 rfl) ?_
      refine lv_aload_n S.1 S.2.1 dX3_get_13 rfl (lv_at hl 0 rfl) ?_
      refine g_get S C hG iX30 0 rfl rfl 0 (by decide) (List.mem_of_getElem? (i := 2) rfl) rfl dX3_get_14 ?_
      refine g_alen (z := 7) S C hG 1 6 rfl rfl rfl dX3_get_17 ?_
      refine g_icmp_ge (tgt := 34) S dX3_get_18 (by decide) (by omega) (by omega) (fun q18 => ?_) (fun q18 => ?_)
      · skip
        exact absurd q18 (by decide)
      · skip
        refine lv_aload_n S.1 S.2.1 dX3_get_21 rfl (lv_at hl 0 rfl) ?_
        refine g_get S C hG iX30 0 rfl rfl 0 (by decide) (List.mem_of_getElem? (i := 2) rfl) rfl dX3_get_22 ?_
        refine lv_iload_n S.1 S.2.1 dX3_get_25 rfl (lv_at hl 2 rfl) ?_
        refine g_aald6 S C hG 1 rfl 5 r5 rfl (by decide) (by decide) rfl dX3_get_26 ?_
        refine lv_iload_n S.1 S.2.1 dX3_get_27 rfl (lv_at hl 1 rfl) ?_
        have hG : gW K A s.heap [gPthC K pa nb ra pl pe, gRw7 K nb r0 r1 r2 r3 r4 r5 r6, gArr K 60 r0 M0, gArr K 60 r1 M1, gArr K 60 r2 M2, gArr K 60 r3 M3, gArr K 60 r4 M4, gArr K 60 r5 M5, gArr K 60 r6 M6] _ _ := hG
        refine g_invSN (As := [.ref r5, .int (iI i)]) (rest := []) (gs' := (fun u : Unit => [gPthC K pa nb ra pl pe, gRw7 K nb r0 r1 r2 r3 r4 r5 r6, gArr K 60 r0 M0, gArr K 60 r1 M1, gArr K 60 r2 M2, gArr K 60 r3 M3, gArr K 60 r4 M4, gArr K 60 r5 M5, gArr K 60 r6 M6])) S C hG [7] (c_X8_at l K 60 r5 M5 i h0 (by omega)) rfl rfl ⟨va_cnB 2 S.2.2.2.2 gX3_get_X8_at_n80 rfl rfl rfl (C.1.2.1 _ (List.mem_of_getElem? (i := 10) rfl)) (S.2.2.2.2 _ (List.mem_of_getElem? (i := 4) rfl)) (by decide +kernel) ⟨Nat.le_of_ble_eq_true rfl, Nat.le_of_ble_eq_true rfl⟩, (S.2.2.2.2 _ (List.mem_of_getElem? (i := 3) rfl)), trivial⟩ rfl hl.1 rfl (Nat.le_of_ble_eq_true rfl) dX3_get_28 ⟨Nat.le_of_ble_eq_true rfl, Nat.le_of_ble_eq_true rfl⟩ (fun _ => Nat.le_of_ble_eq_true rfl) (fun _ => rfl) (fun v u H locs hp hG => ?_)
        subst hp
        refine lv_goto (tgt := 35) S.1 S.2.1 dX3_get_31 (by decide) ?_
        have hG : gW K A s.heap [gPth K pa nb ra pl pe r0 r1 r2 r3 r4 r5 r6 M0 M1 M2 M3 M4 M5 M6] _ _ := hG
        exact g_iret S hr hlk hQ dX3_get_35 (Nat.le_of_ble_eq_true rfl) (Nat.le_of_ble_eq_true rfl) (() : Unit) (congrArg (fun z : Int => Value.int (iI z)) (by first | exact (if_pos (by omega)).symm | exact (if_neg (by omega)).symm)) hG
set_option maxHeartbeats 4000000 in
set_option maxRecDepth 100000 in
theorem c_X3_get6 (l : Launch) (K : KC) (pa : Nat) (nb : Nat) (ra : Nat) (pl : Int) (pe : Int) (r0 : Nat) (r1 : Nat) (r2 : Nat) (r3 : Nat) (r4 : Nat) (r5 : Nat) (r6 : Nat) (M0 : Int → Int) (M1 : Int → Int) (M2 : Int → Int) (M3 : Int → Int) (M4 : Int → Int) (M5 : Int → Int) (M6 : Int → Int) (i : Int) (h0 : 0 ≤ i ∧ i < 60) (h1 : 0 ≤ pl ∧ pl ≤ 60) : mG l yX3_get wsX3_get 1 21 K [.ref pa, .int (iI i), .int (iI 6)] [gPth K pa nb ra pl pe r0 r1 r2 r3 r4 r5 r6 M0 M1 M2 M3 M4 M5 M6] (fun (v : Value) (u : Unit) => (v = .int (iI (if i < pl then M6 i else 0)))) (fun (u : Unit) => [gPth K pa nb ra pl pe r0 r1 r2 r3 r4 r5 r6 M0 M1 M2 M3 M4 M5 M6]) 0 0 := by
  refine mG_of cX3_get 3 (by decide) rfl (Nat.le_of_ble_eq_true rfl) ?_
  intro p e s m below meth c A ls Q S C hG hl hr hlk hin hQ
  have S : CallFix p m c cX3_get 3 s ([.ref pa, .int (iI i), .int (iI 6)] : List Value).toArray wsX3_get RX3 := S
  have iX30 : ∀ w ∈ wsX30, w ∈ wsX3_get := fun _ h => List.mem_cons_of_mem _ (List.mem_append_right _ (h))
  have hl : lv_has ls 3 [(0, .ref pa), (1, .int (iI i)), (2, .int (iI 6))] := hl
  have hG : gW K A s.heap [gPth K pa nb ra pl pe r0 r1 r2 r3 r4 r5 r6 M0 M1 M2 M3 M4 M5 M6] s.heap [] := hG
  refine lv_iload_n S.1 S.2.1 dX3_get_0 rfl (lv_at hl 1 rfl) ?_
  refine lv_aload_n S.1 S.2.1 dX3_get_1 rfl (lv_at hl 0 rfl) ?_
  refine g_get S C hG iX30 0 rfl rfl 2 (by decide) (List.mem_of_getElem? (i := 1) rfl) rfl dX3_get_2 ?_
  refine g_icmp_ge (tgt := 34) S dX3_get_5 (by decide) (by omega) (by omega) (fun q5 => ?_) (fun q5 => ?_)
  · skip
    refine g_iconst S dX3_get_34 ?_
    have hG : gW K A s.heap [gPth K pa nb ra pl pe r0 r1 r2 r3 r4 r5 r6 M0 M1 M2 M3 M4 M5 M6] _ _ := hG
    exact g_iret S hr hlk hQ dX3_get_35 (Nat.le_of_ble_eq_true rfl) (Nat.le_of_ble_eq_true rfl) (() : Unit) (congrArg (fun z : Int => Value.int (iI z)) (by first | exact (if_pos (by omega)).symm | exact (if_neg (by omega)).symm)) hG
  · skip
    refine lv_iload_n S.1 S.2.1 dX3_get_8 rfl (lv_at hl 2 rfl) ?_
    refine g_if_lt (tgt := 34) S dX3_get_9 (by decide) (by omega) (fun q9 => ?_) (fun q9 => ?_)
    · skip
      exact absurd q9 (by decide)
    · skip
      refine lv_iload_n S.1 S.2.1 dX3_get_12 rfl (lv_at hl 2 rfl) ?_
      refine lv_aload_n S.1 S.2.1 dX3_get_13 rfl (lv_at hl 0 rfl) ?_
      refine g_get S C hG iX30 0 rfl rfl 0 (by decide) (List.mem_of_getElem? (i := 2) rfl) rfl dX3_get_14 ?_
      refine g_alen (z := 7) S C hG 1 6 rfl rfl rfl dX3_get_17 ?_
      refine g_icmp_ge (tgt := 34) S dX3_get_18 (by decide) (by omega) (by omega) (fun q18 => ?_) (fun q18 => ?_)
      · skip
        exact absurd q18 (by decide)
      · skip
        refine lv_aload_n S.1 S.2.1 dX3_get_21 rfl (lv_at hl 0 rfl) ?_
        refine g_get S C hG iX30 0 rfl rfl 0 (by decide) (List.mem_of_getElem? (i := 2) rfl) rfl dX3_get_22 ?_
        refine lv_iload_n S.1 S.2.1 dX3_get_25 rfl (lv_at hl 2 rfl) ?_
        refine g_aald6 S C hG 1 rfl 6 r6 rfl (by decide) (by decide) rfl dX3_get_26 ?_
        refine lv_iload_n S.1 S.2.1 dX3_get_27 rfl (lv_at hl 1 rfl) ?_
        have hG : gW K A s.heap [gPthC K pa nb ra pl pe, gRw7 K nb r0 r1 r2 r3 r4 r5 r6, gArr K 60 r0 M0, gArr K 60 r1 M1, gArr K 60 r2 M2, gArr K 60 r3 M3, gArr K 60 r4 M4, gArr K 60 r5 M5, gArr K 60 r6 M6] _ _ := hG
        refine g_invSN (As := [.ref r6, .int (iI i)]) (rest := []) (gs' := (fun u : Unit => [gPthC K pa nb ra pl pe, gRw7 K nb r0 r1 r2 r3 r4 r5 r6, gArr K 60 r0 M0, gArr K 60 r1 M1, gArr K 60 r2 M2, gArr K 60 r3 M3, gArr K 60 r4 M4, gArr K 60 r5 M5, gArr K 60 r6 M6])) S C hG [8] (c_X8_at l K 60 r6 M6 i h0 (by omega)) rfl rfl ⟨va_cnB 2 S.2.2.2.2 gX3_get_X8_at_n80 rfl rfl rfl (C.1.2.1 _ (List.mem_of_getElem? (i := 10) rfl)) (S.2.2.2.2 _ (List.mem_of_getElem? (i := 4) rfl)) (by decide +kernel) ⟨Nat.le_of_ble_eq_true rfl, Nat.le_of_ble_eq_true rfl⟩, (S.2.2.2.2 _ (List.mem_of_getElem? (i := 3) rfl)), trivial⟩ rfl hl.1 rfl (Nat.le_of_ble_eq_true rfl) dX3_get_28 ⟨Nat.le_of_ble_eq_true rfl, Nat.le_of_ble_eq_true rfl⟩ (fun _ => Nat.le_of_ble_eq_true rfl) (fun _ => rfl) (fun v u H locs hp hG => ?_)
        subst hp
        refine lv_goto (tgt := 35) S.1 S.2.1 dX3_get_31 (by decide) ?_
        have hG : gW K A s.heap [gPth K pa nb ra pl pe r0 r1 r2 r3 r4 r5 r6 M0 M1 M2 M3 M4 M5 M6] _ _ := hG
        exact g_iret S hr hlk hQ dX3_get_35 (Nat.le_of_ble_eq_true rfl) (Nat.le_of_ble_eq_true rfl) (() : Unit) (congrArg (fun z : Int => Value.int (iI z)) (by first | exact (if_pos (by omega)).symm | exact (if_neg (by omega)).symm)) hG
theorem c_X3_getw (l : Launch) (K : KC) (pa : Nat) (nb : Nat) (ra : Nat) (pl : Int) (pe : Int) (r0 : Nat) (r1 : Nat) (r2 : Nat) (r3 : Nat) (r4 : Nat) (r5 : Nat) (r6 : Nat) (M0 : Int → Int) (M1 : Int → Int) (M2 : Int → Int) (M3 : Int → Int) (M4 : Int → Int) (M5 : Int → Int) (M6 : Int → Int) (i : Int) (w : Int) (h0 : 0 ≤ i ∧ i < 60) (h1 : 0 ≤ pl ∧ pl ≤ 60) (h2 : 0 ≤ w ∧ w ≤ 6) : mG l yX3_get wsX3_get 1 21 K [.ref pa, .int (iI i), .int (iI w)] [gPth K pa nb ra pl pe r0 r1 r2 r3 r4 r5 r6 M0 M1 M2 M3 M4 M5 M6] (fun (v : Value) (u : Unit) => (v = .int (iI (if i < pl then pick7 w (M0 i) (M1 i) (M2 i) (M3 i) (M4 i) (M5 i) (M6 i) else 0)))) (fun (u : Unit) => [gPth K pa nb ra pl pe r0 r1 r2 r3 r4 r5 r6 M0 M1 M2 M3 M4 M5 M6]) 0 0 := by
  rcases (show w = 0 ∨ w = 1 ∨ w = 2 ∨ w = 3 ∨ w = 4 ∨ w = 5 ∨ w = 6 by omega) with rfl | rfl | rfl | rfl | rfl | rfl | rfl
  · exact c_X3_get0 l K pa nb ra pl pe r0 r1 r2 r3 r4 r5 r6 M0 M1 M2 M3 M4 M5 M6 i h0 h1
  · exact c_X3_get1 l K pa nb ra pl pe r0 r1 r2 r3 r4 r5 r6 M0 M1 M2 M3 M4 M5 M6 i h0 h1
  · exact c_X3_get2 l K pa nb ra pl pe r0 r1 r2 r3 r4 r5 r6 M0 M1 M2 M3 M4 M5 M6 i h0 h1
  · exact c_X3_get3 l K pa nb ra pl pe r0 r1 r2 r3 r4 r5 r6 M0 M1 M2 M3 M4 M5 M6 i h0 h1
  · exact c_X3_get4 l K pa nb ra pl pe r0 r1 r2 r3 r4 r5 r6 M0 M1 M2 M3 M4 M5 M6 i h0 h1
  · exact c_X3_get5 l K pa nb ra pl pe r0 r1 r2 r3 r4 r5 r6 M0 M1 M2 M3 M4 M5 M6 i h0 h1
  · exact c_X3_get6 l K pa nb ra pl pe r0 r1 r2 r3 r4 r5 r6 M0 M1 M2 M3 M4 M5 M6 i h0 h1
set_option maxHeartbeats 4000000 in
set_option maxRecDepth 100000 in
theorem c_X3_legsAcross (l : Launch) (K : KC) (pa : Nat) (nb : Nat) (ra : Nat) (pl : Int) (pe : Int) (r0 : Nat) (r1 : Nat) (r2 : Nat) (r3 : Nat) (r4 : Nat) (r5 : Nat) (r6 : Nat) (M0 : Int → Int) (M1 : Int → Int) (M2 : Int → Int) (M3 : Int → Int) (M4 : Int → Int) (M5 : Int → Int) (M6 : Int → Int) (y : Int) (h0 : 0 ≤ pl ∧ pl ≤ 60) (h1 : -2147483648 ≤ y ∧ y < 2147483648) (h2 : ∀ i : Int, 0 ≤ i → i < pl → 0 ≤ M0 i ∧ M0 i ≤ 9) : mG l yX3_legsAcross wsX3_legsAcross 2 43 K [.ref pa, .int (iI y)] [gPth K pa nb ra pl pe r0 r1 r2 r3 r4 r5 r6 M0 M1 M2 M3 M4 M5 M6] (fun (v : Value) (u : Unit) => (v = .int (iI (cnF M0 y pl.toNat)))) (fun (u : Unit) => [gPth K pa nb ra pl pe r0 r1 r2 r3 r4 r5 r6 M0 M1 M2 M3 M4 M5 M6]) 0 0 := by
  refine mG_of cX3_legsAcross 4 (by decide) rfl (Nat.le_of_ble_eq_true rfl) ?_
  intro p e s m below meth c A ls Q S C hG hl hr hlk hin hQ
  have S : CallFix p m c cX3_legsAcross 4 s ([.ref pa, .int (iI y)] : List Value).toArray wsX3_legsAcross RX3 := S
  have iX30 : ∀ w ∈ wsX30, w ∈ wsX3_legsAcross := fun _ h => List.mem_cons_of_mem _ (List.mem_append_right _ (h))
  have hl : lv_has ls 4 [(0, .ref pa), (1, .int (iI y))] := hl
  have hG : gW K A s.heap [gPth K pa nb ra pl pe r0 r1 r2 r3 r4 r5 r6 M0 M1 M2 M3 M4 M5 M6] s.heap [] := hG
  refine g_iconst S dX3_legsAcross_0 ?_
  refine lv_istore_n (lv' := [(2, .int (iI 0)), (0, .ref pa), (1, .int (iI y))]) S.1 S.2.1 dX3_legsAcross_1 rfl hl (by decide) rfl (fun ls hl => ?_)
  refine g_iconst S dX3_legsAcross_2 ?_
  refine lv_istore_n (lv' := [(3, .int (iI 0)), (2, .int (iI 0)), (0, .ref pa), (1, .int (iI y))]) S.1 S.2.1 dX3_legsAcross_3 rfl hl (by decide) rfl (fun ls hl => ?_)
  have L4 : ∀ (fu : Nat) (w : Int) (d : Int) (H : Heap) (locs : List Loc) (ls : Array Slot), ((pl - w).toNat) < fu → (0 ≤ w ∧ w ≤ pl) → (d = cnF M0 y w.toNat) → lv_has ls 4 [(0, .ref pa), (1, .int (iI y)), (2, .int (iI d)), (3, .int (iI w))] → gW K A s.heap [gPth K pa nb ra pl pe r0 r1 r2 r3 r4 r5 r6 M0 M1 M2 M3 M4 M5 M6] H locs → W p l e { frames := 2, cells := 0, slots := 0, locals := 43 } s m ([.ref pa, .int (iI y)] : List Value).toArray below meth c H locs 0 0 Q (F0 m 4 ls []) := by
    intro fu
    induction fu with
    | zero => intro w d H locs ls hfu; exact absurd hfu (Nat.not_lt_zero _)
    | succ fu ih =>
      intro w d H locs ls hfu hw hd hl hG
      refine lv_iload_n S.1 S.2.1 dX3_legsAcross_4 rfl (lv_at hl 3 rfl) ?_
      refine lv_aload_n S.1 S.2.1 dX3_legsAcross_5 rfl (lv_at hl 0 rfl) ?_
      refine g_get S C hG iX30 0 rfl rfl 2 (by decide) (List.mem_of_getElem? (i := 1) rfl) rfl dX3_legsAcross_6 ?_
      refine g_icmp_ge (tgt := 31) S dX3_legsAcross_9 (by decide) (by omega) (by omega) (fun q9 => ?_) (fun q9 => ?_)
      · skip
        refine lv_iload_n S.1 S.2.1 dX3_legsAcross_31 rfl (lv_at hl 2 rfl) ?_
        have hG : gW K A s.heap [gPth K pa nb ra pl pe r0 r1 r2 r3 r4 r5 r6 M0 M1 M2 M3 M4 M5 M6] _ _ := hG
        exact g_iret S hr hlk hQ dX3_legsAcross_32 (Nat.le_of_ble_eq_true rfl) (Nat.le_of_ble_eq_true rfl) (() : Unit) (congrArg (fun z : Int => Value.int (iI z)) (by rw [hd, show w = pl by omega])) hG
      · skip
        refine lv_aload_n S.1 S.2.1 dX3_legsAcross_12 rfl (lv_at hl 0 rfl) ?_
        refine lv_iload_n S.1 S.2.1 dX3_legsAcross_13 rfl (lv_at hl 3 rfl) ?_
        refine g_iconst S dX3_legsAcross_14 ?_
        refine g_invV (As := [.int (iI w), .int (iI 0)]) (rest := []) (gs' := (fun u : Unit => [gPth K pa nb ra pl pe r0 r1 r2 r3 r4 r5 r6 M0 M1 M2 M3 M4 M5 M6])) S C hG [0] (c_X3_get0 l K pa nb ra pl pe r0 r1 r2 r3 r4 r5 r6 M0 M1 M2 M3 M4 M5 M6 w (by omega) h0) rfl rfl 0 rfl rfl (cwV 2 S.2.2.2.2 gX3_legsAcross_X3_get rfl rfl rfl (by decide +kernel) ⟨Nat.le_of_ble_eq_true rfl, Nat.le_of_ble_eq_true rfl⟩) rfl hl.1 rfl (Nat.le_of_ble_eq_true rfl) dX3_legsAcross_15 ⟨Nat.le_of_ble_eq_true rfl, Nat.le_of_ble_eq_true rfl⟩ (fun _ => Nat.le_of_ble_eq_true rfl) (fun _ => rfl) (fun v u H locs hp hG => ?_)
        subst hp
        have h3 := h2 w (by omega) (by omega)
        refine g_top (w := .int (iI (M0 w))) (congrArg (fun z : Int => Value.int (iI z)) (if_pos (by omega))) ?_
        refine lv_iload_n S.1 S.2.1 dX3_legsAcross_18 rfl (lv_at hl 1 rfl) ?_
        refine g_icmp_ne (tgt := 25) S dX3_legsAcross_19 (by decide) (by omega) (by omega) (fun q19 => ?_) (fun q19 => ?_)
        · skip
          refine lv_iinc (v := iI (w + 1)) (lv' := [(3, .int (iI (w + 1))), (0, .ref pa), (1, .int (iI y)), (2, .int (iI d))]) S.1 S.2.1 dX3_legsAcross_25 hl (k := 3) rfl (g_iinc rfl) (by decide) rfl (fun ls hl => ?_)
          refine lv_goto (tgt := 4) S.1 S.2.1 dX3_legsAcross_28 (by decide) ?_
          exact ih (w + 1) d _ _ _ (by omega) (by omega) (by rw [show (w + 1).toNat = w.toNat + 1 by omega, cnF, ← hd, Int.toNat_of_nonneg (by omega)]; first | rw [if_pos (by omega)] | (rw [if_neg (by omega)]; omega)) (lv_sub hl [1, 2, 3, 0] rfl) hG
        · skip
          refine lv_iinc (v := iI (d + 1)) (lv' := [(2, .int (iI (d + 1))), (0, .ref pa), (1, .int (iI y)), (3, .int (iI w))]) S.1 S.2.1 dX3_legsAcross_22 hl (k := 2) rfl (g_iinc rfl) (by decide) rfl (fun ls hl => ?_)
          refine lv_iinc (v := iI (w + 1)) (lv' := [(3, .int (iI (w + 1))), (2, .int (iI (d + 1))), (0, .ref pa), (1, .int (iI y))]) S.1 S.2.1 dX3_legsAcross_25 hl (k := 3) rfl (g_iinc rfl) (by decide) rfl (fun ls hl => ?_)
          refine lv_goto (tgt := 4) S.1 S.2.1 dX3_legsAcross_28 (by decide) ?_
          exact ih (w + 1) (d + 1) _ _ _ (by omega) (by omega) (by rw [show (w + 1).toNat = w.toNat + 1 by omega, cnF, ← hd, Int.toNat_of_nonneg (by omega)]; first | rw [if_pos (by omega)] | (rw [if_neg (by omega)]; omega)) (lv_sub hl [2, 3, 1, 0] rfl) hG
  exact L4 (Nat.succ ((pl - 0).toNat)) 0 0 _ _ _ (Nat.lt_succ_self _) (by omega) rfl (lv_sub hl [2, 3, 1, 0] rfl) hG
