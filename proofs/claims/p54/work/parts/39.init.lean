set_option maxHeartbeats 1000000 in
set_option maxRecDepth 100000 in
theorem c_X7_init (l : Launch) (K : KC) (a : Nat) : mV l yX7_init wsX7_init 1 24 K [.ref a] [gNew7 K a] (fun (u : Nat) => True) (fun (u : Nat) => [gTab K a u 0 (fun _ => 0)]) 1 60 := by
  refine mV_of cX7_init 1 (by decide) rfl (Nat.le_of_ble_eq_true rfl) ?_
  intro p e s m below meth c A ls Q S C hG hl hr hlk hin hQ
  have S : CallFix p m c cX7_init 1 s ([.ref a] : List Value).toArray wsX7_init RX7 := S
  have iX70 : ∀ w ∈ wsX70, w ∈ wsX7_init := fun _ h => List.mem_cons_of_mem _ (List.mem_append_right _ (h))
  have hl : lv_has ls 1 [(0, .ref a)] := hl
  have hG : gW K A s.heap [gNew7 K a] s.heap [] := hG
  refine lv_aload_n S.1 S.2.1 dX7_init_0 rfl (lv_at hl 0 rfl) ?_
  refine W.objInit S.1 S.2.1 S.2.2.2.1 (S.2.2.2.2 _ (List.mem_of_getElem? (i := 1) rfl)) (S.2.2.2.2 _ (List.mem_of_getElem? (i := 2) rfl)) (S.2.2.2.2 _ (List.mem_of_getElem? (i := 3) rfl)) rfl (by rw [S.2.2.1]; exact hl.1) rfl dX7_init_1 (Nat.le_of_ble_eq_true rfl) (Nat.le_of_ble_eq_true rfl) ?_
  refine W.eq (g2 := F0 m 4 ls []) rfl ?_
  refine lv_aload_n S.1 S.2.1 dX7_init_4 rfl (lv_at hl 0 rfl) ?_
  refine g_bipush S dX7_init_5 (by decide) ?_
  refine g_newa (gs' := fun nw7 => [gNew7 K a, gArr K 60 nw7 (fun _ => 0)]) (a0 := (60, .inl (fun j : Nat => iI ((fun _ : Int => 0) (j : Int))))) S C hG (ty := .int) rfl (List.mem_of_getElem? (i := 4) rfl) 0 rfl 60 rfl (ha_i 60) (Nat.le_of_ble_eq_true rfl) (Nat.le_of_ble_eq_true rfl) (Nat.le_of_ble_eq_true rfl) (Nat.le_of_ble_eq_true rfl) (fun _ => rfl) dX7_init_7 (fun nw7 H hG => ?_)
  refine g_putF (gs' := [[(a, .inr (7, [.ref nw7, .int (iI 0)]))], gArr K 60 nw7 (fun _ => 0)]) S C hG iX70 tyX7 tyX7_ok nmX7 0 rfl rfl 0 (by decide) (List.mem_of_getElem? (i := 5) rfl) rfl hin rfl rfl rfl (Nat.le_of_ble_eq_true rfl) rfl dX7_init_9 (fun H locs hG => ?_)
  refine lv_aload_n S.1 S.2.1 dX7_init_12 rfl (lv_at hl 0 rfl) ?_
  refine g_iconst S dX7_init_13 ?_
  refine g_put (gs' := [[(a, .inr (7, [.ref nw7, .int (iI 0)]))], gArr K 60 nw7 (fun _ => 0)]) S C hG iX70 tyX7 tyX7_ok nmX7 0 rfl rfl 1 (by decide) (List.mem_of_getElem? (i := 6) rfl) rfl rfl rfl (Nat.le_of_ble_eq_true rfl) rfl dX7_init_14 (fun H locs hG => ?_)
  have hG : gW K A s.heap [gTab K a nw7 0 (fun _ => 0)] _ _ := hG
  exact g_vret S hr hlk hQ dX7_init_17 (Nat.le_of_ble_eq_true rfl) (Nat.le_of_ble_eq_true rfl) ((nw7) : Nat) trivial hG
set_option maxHeartbeats 1000000 in
set_option maxRecDepth 100000 in
theorem c_X0_init (l : Launch) (K : KC) (a : Nat) : mV l yX0_init wsX0_init 1 24 K [.ref a] [gNew0 K a] (fun (u : Nat) => True) (fun (u : Nat) => [gBuf K a u 0 (fun _ => 0)]) 1 400 := by
  refine mV_of cX0_init 1 (by decide) rfl (Nat.le_of_ble_eq_true rfl) ?_
  intro p e s m below meth c A ls Q S C hG hl hr hlk hin hQ
  have S : CallFix p m c cX0_init 1 s ([.ref a] : List Value).toArray wsX0_init RX0 := S
  have iX00 : ∀ w ∈ wsX00, w ∈ wsX0_init := fun _ h => List.mem_cons_of_mem _ (List.mem_append_right _ (h))
  have hl : lv_has ls 1 [(0, .ref a)] := hl
  have hG : gW K A s.heap [gNew0 K a] s.heap [] := hG
  refine lv_aload_n S.1 S.2.1 dX0_init_0 rfl (lv_at hl 0 rfl) ?_
  refine W.objInit S.1 S.2.1 S.2.2.2.1 (S.2.2.2.2 _ (List.mem_of_getElem? (i := 1) rfl)) (S.2.2.2.2 _ (List.mem_of_getElem? (i := 2) rfl)) (S.2.2.2.2 _ (List.mem_of_getElem? (i := 3) rfl)) rfl (by rw [S.2.2.1]; exact hl.1) rfl dX0_init_1 (Nat.le_of_ble_eq_true rfl) (Nat.le_of_ble_eq_true rfl) ?_
  refine W.eq (g2 := F0 m 4 ls []) rfl ?_
  refine lv_aload_n S.1 S.2.1 dX0_init_4 rfl (lv_at hl 0 rfl) ?_
  refine g_sipush S dX0_init_5 (by decide) ?_
  refine g_newa (gs' := fun nw8 => [gNew0 K a, [aB K nw8 400 (fun _ : Int => 0)]]) (a0 := (400, .inl (fun j : Nat => bB ((fun _ : Int => 0) (j : Int))))) S C hG (ty := .byte) rfl (List.mem_of_getElem? (i := 4) rfl) 1 rfl 400 rfl (ha_b 400) (Nat.le_of_ble_eq_true rfl) (Nat.le_of_ble_eq_true rfl) (Nat.le_of_ble_eq_true rfl) (Nat.le_of_ble_eq_true rfl) (fun _ => rfl) dX0_init_8 (fun nw8 H hG => ?_)
  refine g_putF (gs' := [[(a, .inr (0, [.ref nw8, .int (iI 0)]))], [aB K nw8 400 (fun _ : Int => 0)]]) S C hG iX00 tyX0 tyX0_ok nmX0 0 rfl rfl 0 (by decide) (List.mem_of_getElem? (i := 5) rfl) rfl hin rfl rfl rfl (Nat.le_of_ble_eq_true rfl) rfl dX0_init_10 (fun H locs hG => ?_)
  refine lv_aload_n S.1 S.2.1 dX0_init_13 rfl (lv_at hl 0 rfl) ?_
  refine g_iconst S dX0_init_14 ?_
  refine g_put (gs' := [[(a, .inr (0, [.ref nw8, .int (iI 0)]))], [aB K nw8 400 (fun _ : Int => 0)]]) S C hG iX00 tyX0 tyX0_ok nmX0 0 rfl rfl 1 (by decide) (List.mem_of_getElem? (i := 6) rfl) rfl rfl rfl (Nat.le_of_ble_eq_true rfl) rfl dX0_init_15 (fun H locs hG => ?_)
  have hG : gW K A s.heap [gBuf K a nw8 0 (fun _ => 0)] _ _ := hG
  exact g_vret S hr hlk hQ dX0_init_18 (Nat.le_of_ble_eq_true rfl) (Nat.le_of_ble_eq_true rfl) ((nw8) : Nat) trivial hG
set_option maxHeartbeats 1000000 in
set_option maxRecDepth 100000 in
theorem c_X5_init (l : Launch) (K : KC) (a : Nat) : mV l yX5_init wsX5_init 2 44 K [.ref a] [gNew5 K a] (fun (u : Nat × Nat × Nat × Nat) => True) (fun (u : Nat × Nat × Nat × Nat) => [gScn K a u.1 u.2.1 u.2.2.1 u.2.2.2 1000 0 1000 0 (fun _ => 0) 0 (fun _ => 0)]) 4 124 := by
  refine mV_of cX5_init 1 (by decide) rfl (Nat.le_of_ble_eq_true rfl) ?_
  intro p e s m below meth c A ls Q S C hG hl hr hlk hin hQ
  have S : CallFix p m c cX5_init 1 s ([.ref a] : List Value).toArray wsX5_init RX5 := S
  have iX70 : ∀ w ∈ wsX70, w ∈ wsX5_init := fun _ h => List.mem_cons_of_mem _ (List.mem_append_left _ (List.mem_append_right _ (h)))
  have iX50 : ∀ w ∈ wsX50, w ∈ wsX5_init := fun _ h => List.mem_cons_of_mem _ (List.mem_append_right _ (h))
  have hl : lv_has ls 1 [(0, .ref a)] := hl
  have hG : gW K A s.heap [gNew5 K a] s.heap [] := hG
  refine lv_aload_n S.1 S.2.1 dX5_init_0 rfl (lv_at hl 0 rfl) ?_
  refine W.objInit S.1 S.2.1 S.2.2.2.1 (S.2.2.2.2 _ (List.mem_of_getElem? (i := 1) rfl)) (S.2.2.2.2 _ (List.mem_of_getElem? (i := 2) rfl)) (S.2.2.2.2 _ (List.mem_of_getElem? (i := 3) rfl)) rfl (by rw [S.2.2.1]; exact hl.1) rfl dX5_init_1 (Nat.le_of_ble_eq_true rfl) (Nat.le_of_ble_eq_true rfl) ?_
  refine W.eq (g2 := F0 m 4 ls []) rfl ?_
  refine lv_aload_n S.1 S.2.1 dX5_init_4 rfl (lv_at hl 0 rfl) ?_
  refine g_new (ci := 7) (fs := [.null, .int (iI 0)]) (gs' := fun nw5 => [gNew5 K a, gNew7 K nw5]) S C hG iX70 tyX7 tyX7_ok (List.mem_of_getElem? (i := 4) rfl) (List.mem_of_getElem? (i := 5) rfl) (List.mem_of_getElem? (i := 6) rfl) rfl dfX7 (Nat.le_of_ble_eq_true rfl) (Nat.le_of_ble_eq_true rfl) (fun nw5 => rfl) dX5_init_5 (fun nw5 H hG => ?_)
  refine lv_dup S.1 S.2.1 dX5_init_8 rfl ?_
  refine g_invIN (As := []) (rest := [.ref nw5, .ref a]) (gs' := (fun u : Nat => [gNew5 K a, gTab K nw5 u 0 (fun _ => 0)])) S C hG [1] (c_X7_init l K nw5) rfl rfl ⟨va_cnB 0 S.2.2.2.2 gX5_init_X7_init_n11 rfl rfl rfl (C.1.2.1 _ (List.mem_of_getElem? (i := 2) rfl)) (S.2.2.2.2 _ (List.mem_of_getElem? (i := 6) rfl)) (by decide +kernel) ⟨Nat.le_of_ble_eq_true rfl, Nat.le_of_ble_eq_true rfl⟩, rfl, (S.2.2.2.2 _ (List.mem_of_getElem? (i := 12) rfl))⟩ rfl hl.1 rfl (Nat.le_of_ble_eq_true rfl) dX5_init_9 ⟨Nat.le_of_ble_eq_true rfl, Nat.le_of_ble_eq_true rfl⟩ (fun _ => Nat.le_of_ble_eq_true rfl) (fun _ => rfl) (fun u H locs hp hG => ?_)
  obtain ⟨b_9, rfl⟩ : ∃ z, z = u := ⟨_, rfl⟩
  have hG : gW K A s.heap [gNew5 K a, gTab K nw5 b_9 0 (fun _ => 0)] _ _ := hG
  refine g_putF (gs' := [[(a, .inr (5, [.ref nw5, .null, .int (iI 0), .int (iI 0), .int (iI 0)]))], gTab K nw5 b_9 0 (fun _ => 0)]) S C hG iX50 tyX5 tyX5_ok nmX5 0 rfl rfl 0 (by decide) (List.mem_of_getElem? (i := 7) rfl) rfl hin rfl rfl rfl (Nat.le_of_ble_eq_true rfl) rfl dX5_init_12 (fun H locs hG => ?_)
  refine lv_aload_n S.1 S.2.1 dX5_init_15 rfl (lv_at hl 0 rfl) ?_
  refine g_new (ci := 7) (fs := [.null, .int (iI 0)]) (gs' := fun nw16 => [[(a, .inr (5, [.ref nw5, .null, .int (iI 0), .int (iI 0), .int (iI 0)]))], gTab K nw5 b_9 0 (fun _ => 0), gNew7 K nw16]) S C hG iX70 tyX7 tyX7_ok (List.mem_of_getElem? (i := 4) rfl) (List.mem_of_getElem? (i := 5) rfl) (List.mem_of_getElem? (i := 6) rfl) rfl dfX7 (Nat.le_of_ble_eq_true rfl) (Nat.le_of_ble_eq_true rfl) (fun nw16 => rfl) dX5_init_16 (fun nw16 H hG => ?_)
  refine lv_dup S.1 S.2.1 dX5_init_19 rfl ?_
  refine g_invIN (As := []) (rest := [.ref nw16, .ref a]) (gs' := (fun u : Nat => [[(a, .inr (5, [.ref nw5, .null, .int (iI 0), .int (iI 0), .int (iI 0)]))], gTab K nw5 b_9 0 (fun _ => 0), gTab K nw16 u 0 (fun _ => 0)])) S C hG [2] (c_X7_init l K nw16) rfl rfl ⟨va_cnB 0 S.2.2.2.2 gX5_init_X7_init_n11 rfl rfl rfl (C.1.2.1 _ (List.mem_of_getElem? (i := 2) rfl)) (S.2.2.2.2 _ (List.mem_of_getElem? (i := 6) rfl)) (by decide +kernel) ⟨Nat.le_of_ble_eq_true rfl, Nat.le_of_ble_eq_true rfl⟩, rfl, (S.2.2.2.2 _ (List.mem_of_getElem? (i := 12) rfl))⟩ rfl hl.1 rfl (Nat.le_of_ble_eq_true rfl) dX5_init_20 ⟨Nat.le_of_ble_eq_true rfl, Nat.le_of_ble_eq_true rfl⟩ (fun _ => Nat.le_of_ble_eq_true rfl) (fun _ => rfl) (fun u H locs hp hG => ?_)
  obtain ⟨b_20, rfl⟩ : ∃ z, z = u := ⟨_, rfl⟩
  have hG : gW K A s.heap [[(a, .inr (5, [.ref nw5, .null, .int (iI 0), .int (iI 0), .int (iI 0)]))], gTab K nw5 b_9 0 (fun _ => 0), gTab K nw16 b_20 0 (fun _ => 0)] _ _ := hG
  refine g_putF (gs' := [[(a, .inr (5, [.ref nw5, .ref nw16, .int (iI 0), .int (iI 0), .int (iI 0)]))], gTab K nw5 b_9 0 (fun _ => 0), gTab K nw16 b_20 0 (fun _ => 0)]) S C hG iX50 tyX5 tyX5_ok nmX5 0 rfl rfl 1 (by decide) (List.mem_of_getElem? (i := 8) rfl) rfl hin rfl rfl rfl (Nat.le_of_ble_eq_true rfl) rfl dX5_init_23 (fun H locs hG => ?_)
  refine lv_aload_n S.1 S.2.1 dX5_init_26 rfl (lv_at hl 0 rfl) ?_
  refine g_sipush S dX5_init_27 (by decide) ?_
  refine g_put (gs' := [[(a, .inr (5, [.ref nw5, .ref nw16, .int (iI 1000), .int (iI 0), .int (iI 0)]))], gTab K nw5 b_9 0 (fun _ => 0), gTab K nw16 b_20 0 (fun _ => 0)]) S C hG iX50 tyX5 tyX5_ok nmX5 0 rfl rfl 2 (by decide) (List.mem_of_getElem? (i := 9) rfl) rfl rfl rfl (Nat.le_of_ble_eq_true rfl) rfl dX5_init_30 (fun H locs hG => ?_)
  refine lv_aload_n S.1 S.2.1 dX5_init_33 rfl (lv_at hl 0 rfl) ?_
  refine g_iconst S dX5_init_34 ?_
  refine g_put (gs' := [[(a, .inr (5, [.ref nw5, .ref nw16, .int (iI 1000), .int (iI 0), .int (iI 0)]))], gTab K nw5 b_9 0 (fun _ => 0), gTab K nw16 b_20 0 (fun _ => 0)]) S C hG iX50 tyX5 tyX5_ok nmX5 0 rfl rfl 3 (by decide) (List.mem_of_getElem? (i := 10) rfl) rfl (nz_b (Or.inl rfl)) (fz_b (Or.inl rfl)) (Nat.le_of_ble_eq_true rfl) rfl dX5_init_35 (fun H locs hG => ?_)
  refine lv_aload_n S.1 S.2.1 dX5_init_38 rfl (lv_at hl 0 rfl) ?_
  refine g_sipush S dX5_init_39 (by decide) ?_
  refine g_put (gs' := [[(a, .inr (5, [.ref nw5, .ref nw16, .int (iI 1000), .int (iI 0), .int (iI 1000)]))], gTab K nw5 b_9 0 (fun _ => 0), gTab K nw16 b_20 0 (fun _ => 0)]) S C hG iX50 tyX5 tyX5_ok nmX5 0 rfl rfl 4 (by decide) (List.mem_of_getElem? (i := 11) rfl) rfl rfl rfl (Nat.le_of_ble_eq_true rfl) rfl dX5_init_42 (fun H locs hG => ?_)
  have hG : gW K A s.heap [gScn K a nw5 b_9 nw16 b_20 1000 0 1000 0 (fun _ => 0) 0 (fun _ => 0)] _ _ := hG
  exact g_vret S hr hlk hQ dX5_init_45 (Nat.le_of_ble_eq_true rfl) (Nat.le_of_ble_eq_true rfl) ((nw5, b_9, nw16, b_20) : Nat × Nat × Nat × Nat) trivial hG
set_option maxHeartbeats 1000000 in
set_option maxRecDepth 100000 in
theorem c_X1_init (l : Launch) (K : KC) (a : Nat) : mV l yX1_init wsX1_init 1 24 K [.ref a] [gNew1 K a] (fun (u : Nat) => True) (fun (u : Nat) => [gHisC K a u 0 0, gQS K u 6 (fun _ => none)]) 1 6 := by
  refine mV_of cX1_init 1 (by decide) rfl (Nat.le_of_ble_eq_true rfl) ?_
  intro p e s m below meth c A ls Q S C hG hl hr hlk hin hQ
  have S : CallFix p m c cX1_init 1 s ([.ref a] : List Value).toArray wsX1_init RX1 := S
  have iX10 : ∀ w ∈ wsX10, w ∈ wsX1_init := fun _ h => List.mem_cons_of_mem _ (List.mem_append_right _ (h))
  have hl : lv_has ls 1 [(0, .ref a)] := hl
  have hG : gW K A s.heap [gNew1 K a] s.heap [] := hG
  refine lv_aload_n S.1 S.2.1 dX1_init_0 rfl (lv_at hl 0 rfl) ?_
  refine W.objInit S.1 S.2.1 S.2.2.2.1 (S.2.2.2.2 _ (List.mem_of_getElem? (i := 1) rfl)) (S.2.2.2.2 _ (List.mem_of_getElem? (i := 2) rfl)) (S.2.2.2.2 _ (List.mem_of_getElem? (i := 3) rfl)) rfl (by rw [S.2.2.1]; exact hl.1) rfl dX1_init_1 (Nat.le_of_ble_eq_true rfl) (Nat.le_of_ble_eq_true rfl) ?_
  refine W.eq (g2 := F0 m 4 ls []) rfl ?_
  refine lv_aload_n S.1 S.2.1 dX1_init_4 rfl (lv_at hl 0 rfl) ?_
  refine g_bipush S dX1_init_5 (by decide) ?_
  refine g_newq (gs' := fun nw7 => [gNew1 K a, gQS K nw7 6 (fun _ => none)]) S C hG (List.mem_of_getElem? (i := 4) rfl) 6 rfl (Nat.le_of_ble_eq_true rfl) (Nat.le_of_ble_eq_true rfl) (Nat.le_of_ble_eq_true rfl) (fun _ => rfl) dX1_init_7 (fun nw7 H hG => ?_)
  refine g_putF (gs' := [[(a, .inr (1, [.ref nw7, .int (iI 0), .int (iI 0)]))], gQS K nw7 6 (fun _ => none)]) S C hG iX10 tyX1 tyX1_ok nmX1 0 rfl rfl 0 (by decide) (List.mem_of_getElem? (i := 5) rfl) rfl hin rfl rfl rfl (Nat.le_of_ble_eq_true rfl) rfl dX1_init_10 (fun H locs hG => ?_)
  refine lv_aload_n S.1 S.2.1 dX1_init_13 rfl (lv_at hl 0 rfl) ?_
  refine g_iconst S dX1_init_14 ?_
  refine g_put (gs' := [[(a, .inr (1, [.ref nw7, .int (iI 0), .int (iI 0)]))], gQS K nw7 6 (fun _ => none)]) S C hG iX10 tyX1 tyX1_ok nmX1 0 rfl rfl 1 (by decide) (List.mem_of_getElem? (i := 6) rfl) rfl rfl rfl (Nat.le_of_ble_eq_true rfl) rfl dX1_init_15 (fun H locs hG => ?_)
  refine lv_aload_n S.1 S.2.1 dX1_init_18 rfl (lv_at hl 0 rfl) ?_
  refine g_iconst S dX1_init_19 ?_
  refine g_put (gs' := [[(a, .inr (1, [.ref nw7, .int (iI 0), .int (iI 0)]))], gQS K nw7 6 (fun _ => none)]) S C hG iX10 tyX1 tyX1_ok nmX1 0 rfl rfl 2 (by decide) (List.mem_of_getElem? (i := 7) rfl) rfl rfl rfl (Nat.le_of_ble_eq_true rfl) rfl dX1_init_20 (fun H locs hG => ?_)
  have hG : gW K A s.heap [gHisC K a nw7 0 0, gQS K nw7 6 (fun _ => none)] _ _ := hG
  exact g_vret S hr hlk hQ dX1_init_23 (Nat.le_of_ble_eq_true rfl) (Nat.le_of_ble_eq_true rfl) ((nw7) : Nat) trivial hG
set_option maxHeartbeats 1000000 in
set_option maxRecDepth 100000 in
theorem c_X8_sceneAt (l : Launch) (K : KC) (a : Nat) (n : Nat) (P : Nat → Option Nat) (i : Int) (h0 : 0 ≤ i ∧ i < n) (h1 : n ≤ 100) : mG l yX8_sceneAt wsX8_sceneAt 0 0 K [.ref a, .int (iI i)] [gQS K a n P] (fun (v : Value) (u : Unit) => (v = va_rf (P i.toNat))) (fun (u : Unit) => [gQS K a n P]) 0 0 := by
  refine mG_of cX8_sceneAt 2 (by decide) rfl (Nat.le_of_ble_eq_true rfl) ?_
  intro p e s m below meth c A ls Q S C hG hl hr hlk hin hQ
  have S : CallFix p m c cX8_sceneAt 2 s ([.ref a, .int (iI i)] : List Value).toArray wsX8_sceneAt RX8 := S
  have hl : lv_has ls 2 [(0, .ref a), (1, .int (iI i))] := hl
  have hG : gW K A s.heap [gQS K a n P] s.heap [] := hG
  refine lv_aload_n S.1 S.2.1 dX8_sceneAt_0 rfl (lv_at hl 0 rfl) ?_
  refine lv_ifnull S.1 S.2.1 dX8_sceneAt_1 ?_
  refine lv_iload_n S.1 S.2.1 dX8_sceneAt_4 rfl (lv_at hl 1 rfl) ?_
  refine g_if_lt (tgt := 20) S dX8_sceneAt_5 (by decide) (by omega) (fun q5 => ?_) (fun q5 => ?_)
  · skip
    omega
  · skip
    refine lv_iload_n S.1 S.2.1 dX8_sceneAt_8 rfl (lv_at hl 1 rfl) ?_
    refine lv_aload_n S.1 S.2.1 dX8_sceneAt_9 rfl (lv_at hl 0 rfl) ?_
    refine g_alen (z := (n : Int)) S C hG 0 5 rfl rfl rfl dX8_sceneAt_10 ?_
    refine g_icmp_ge (tgt := 20) S dX8_sceneAt_11 (by decide) (by omega) (by omega) (fun q11 => ?_) (fun q11 => ?_)
    · skip
      omega
    · skip
      refine lv_aload_n S.1 S.2.1 dX8_sceneAt_14 rfl (lv_at hl 0 rfl) ?_
      refine lv_iload_n S.1 S.2.1 dX8_sceneAt_15 rfl (lv_at hl 1 rfl) ?_
      refine g_aald5 S C hG 0 rfl (by omega) (by omega) (by omega) dX8_sceneAt_16 ?_
      refine lv_goto (tgt := 21) S.1 S.2.1 dX8_sceneAt_17 (by decide) ?_
      have hG : gW K A s.heap [gQS K a n P] _ _ := hG
      exact g_aret S hr hlk hQ (va_rf_or _) dX8_sceneAt_21 (Nat.le_of_ble_eq_true rfl) (Nat.le_of_ble_eq_true rfl) (() : Unit) rfl hG
set_option maxHeartbeats 1000000 in
set_option maxRecDepth 100000 in
theorem c_X1_remember_n (l : Launch) (K : KC) (a : Nat) (pa : Nat) (nx : Int) (sz : Int) (P : Nat → Option Nat) (a2 : Nat) (la2 : Nat) (lb2 : Nat) (sa2 : Nat) (sb2 : Nat) (ou2 : Int) (mi2 : Int) (bo2 : Int) (ln2 : Int) (LF2 : Int → Int) (sn2 : Int) (SF2 : Int → Int) (FR : va_W) (h0 : 0 ≤ nx ∧ nx < 6) (h1 : 0 ≤ sz ∧ sz ≤ 6) (h2 : mi2 = 0 ∨ mi2 = 1) (hP : P nx.toNat = none) : mV l yX1_remember wsX1_remember 3 102 K [.ref a, .ref a2] [gHisC K a pa nx sz, gQS K pa 6 P, gScn K a2 la2 lb2 sa2 sb2 ou2 mi2 bo2 ln2 LF2 sn2 SF2, gFR K FR] (fun (u : Nat × Nat × Nat × Nat × Nat) => True) (fun (u : Nat × Nat × Nat × Nat × Nat) => [gHisC K a pa ((nx + 1) % 6) (min (sz + 1) 6), gQS K pa 6 (va_up P nx.toNat (some u.1)), gScn K a2 la2 lb2 sa2 sb2 ou2 mi2 bo2 ln2 LF2 sn2 SF2, gScn K u.1 u.2.1 u.2.2.1 u.2.2.2.1 u.2.2.2.2 ou2 mi2 bo2 ln2 (cpyI LF2 (fun _ => 0) 60) sn2 (cpyI SF2 (fun _ => 0) 60), gFR K FR]) 5 129 := by
  refine mV_of cX1_remember 3 (by decide) rfl (Nat.le_of_ble_eq_true rfl) ?_
  intro p e s m below meth c A ls Q S C hG hl hr hlk hin hQ
  have S : CallFix p m c cX1_remember 3 s ([.ref a, .ref a2] : List Value).toArray wsX1_remember RX1 := S
  have iX10 : ∀ w ∈ wsX10, w ∈ wsX1_remember := fun _ h => List.mem_cons_of_mem _ (List.mem_append_left _ (List.mem_append_left _ (List.mem_append_right _ (h))))
  have iX50 : ∀ w ∈ wsX50, w ∈ wsX1_remember := fun _ h => List.mem_cons_of_mem _ (List.mem_append_left _ (List.mem_append_right _ (h)))
  have iX70 : ∀ w ∈ wsX70, w ∈ wsX1_remember := fun _ h => List.mem_cons_of_mem _ (List.mem_append_right _ (h))
  have hl : lv_has ls 3 [(0, .ref a), (1, .ref a2)] := hl
  have hG : gW K A s.heap [gHisC K a pa nx sz, gQS K pa 6 P, gScn K a2 la2 lb2 sa2 sb2 ou2 mi2 bo2 ln2 LF2 sn2 SF2, gFR K FR] s.heap [] := hG
  refine lv_aload_n S.1 S.2.1 dX1_remember_0 rfl (lv_at hl 0 rfl) ?_
  refine g_get S C hG iX10 0 rfl rfl 0 (by decide) (List.mem_of_getElem? (i := 1) rfl) rfl dX1_remember_1 ?_
  refine lv_aload_n S.1 S.2.1 dX1_remember_4 rfl (lv_at hl 0 rfl) ?_
  refine g_get S C hG iX10 0 rfl rfl 1 (by decide) (List.mem_of_getElem? (i := 2) rfl) rfl dX1_remember_5 ?_
  refine g_invSN (As := [.ref pa, .int (iI nx)]) (rest := []) (gs' := (fun u : Unit => [gHisC K a pa nx sz, gQS K pa 6 P, gScn K a2 la2 lb2 sa2 sb2 ou2 mi2 bo2 ln2 LF2 sn2 SF2, gFR K FR])) S C hG [1] (c_X8_sceneAt l K pa 6 P nx h0 (by omega)) rfl rfl ⟨va_cnB 2 S.2.2.2.2 gX1_remember_X8_sceneAt_n24 rfl rfl rfl (C.1.2.1 _ (List.mem_of_getElem? (i := 5) rfl)) (S.2.2.2.2 _ (List.mem_of_getElem? (i := 12) rfl)) (by decide +kernel) ⟨Nat.le_of_ble_eq_true rfl, Nat.le_of_ble_eq_true rfl⟩, (S.2.2.2.2 _ (List.mem_of_getElem? (i := 11) rfl)), trivial⟩ rfl hl.1 rfl (Nat.le_of_ble_eq_true rfl) dX1_remember_8 ⟨Nat.le_of_ble_eq_true rfl, Nat.le_of_ble_eq_true rfl⟩ (fun _ => Nat.le_of_ble_eq_true rfl) (fun _ => rfl) (fun v u H locs hp hG => ?_)
  subst hp
  refine g_top (w := .null) (by rw [hP]; rfl) ?_
  refine lv_astore_nN (lv' := [(2, .null), (0, .ref a), (1, .ref a2)]) S.1 S.2.1 dX1_remember_11 rfl hl (by decide) rfl (fun ls hl => ?_)
  refine lv_aload_nN S.1 S.2.1 dX1_remember_12 rfl (lv_at hl 0 rfl) ?_
  refine lv_ifnonnullN S.1 S.2.1 dX1_remember_13 ?_
  refine g_new (ci := 5) (fs := [.null, .null, .int (iI 0), .int (iI 0), .int (iI 0)]) (gs' := fun nw16 => [gHisC K a pa nx sz, gQS K pa 6 P, gScn K a2 la2 lb2 sa2 sb2 ou2 mi2 bo2 ln2 LF2 sn2 SF2, gFR K FR, gNew5 K nw16]) S C hG iX50 tyX5 tyX5_ok (List.mem_of_getElem? (i := 3) rfl) (List.mem_of_getElem? (i := 4) rfl) (List.mem_of_getElem? (i := 5) rfl) rfl dfX5 (Nat.le_of_ble_eq_true rfl) (Nat.le_of_ble_eq_true rfl) (fun nw16 => flat_new [gHisC K a pa nx sz, gQS K pa 6 P, gScn K a2 la2 lb2 sa2 sb2 ou2 mi2 bo2 ln2 LF2 sn2 SF2, gFR K FR] (gNew5 K nw16)) dX1_remember_16 (fun nw16 H hG => ?_)
  have hG : gW K A s.heap [gHisC K a pa nx sz, gQS K pa 6 P, gScn K a2 la2 lb2 sa2 sb2 ou2 mi2 bo2 ln2 LF2 sn2 SF2, gNew5 K nw16, gFR K FR] _ _ := gW_tail [gHisC K a pa nx sz, gQS K pa 6 P, gScn K a2 la2 lb2 sa2 sb2 ou2 mi2 bo2 ln2 LF2 sn2 SF2] (gFR K FR) (gNew5 K nw16) hG
  refine lv_dup S.1 S.2.1 dX1_remember_19 rfl ?_
  refine g_invIN (As := []) (rest := [.ref nw16]) (gs' := (fun u : Nat × Nat × Nat × Nat => [gHisC K a pa nx sz, gQS K pa 6 P, gScn K a2 la2 lb2 sa2 sb2 ou2 mi2 bo2 ln2 LF2 sn2 SF2, gScn K nw16 u.1 u.2.1 u.2.2.1 u.2.2.2 1000 0 1000 0 (fun _ => 0) 0 (fun _ => 0), gFR K FR])) S C hG [3] (c_X5_init l K nw16) rfl rfl ⟨va_cnB 0 S.2.2.2.2 gX1_remember_X5_init_n28 rfl rfl rfl (C.1.2.1 _ (List.mem_of_getElem? (i := 6) rfl)) (S.2.2.2.2 _ (List.mem_of_getElem? (i := 5) rfl)) (by decide +kernel) ⟨Nat.le_of_ble_eq_true rfl, Nat.le_of_ble_eq_true rfl⟩, rfl, (S.2.2.2.2 _ (List.mem_of_getElem? (i := 14) rfl))⟩ rfl hl.1 rfl (Nat.le_of_ble_eq_true rfl) dX1_remember_20 ⟨Nat.le_of_ble_eq_true rfl, Nat.le_of_ble_eq_true rfl⟩ (fun _ => Nat.le_of_ble_eq_true rfl) (fun _ => rfl) (fun u H locs hp hG => ?_)
  obtain ⟨la_20, lb_20, sa_20, sb_20⟩ := u
  have hG : gW K A s.heap [gHisC K a pa nx sz, gQS K pa 6 P, gScn K a2 la2 lb2 sa2 sb2 ou2 mi2 bo2 ln2 LF2 sn2 SF2, gScn K nw16 la_20 lb_20 sa_20 sb_20 1000 0 1000 0 (fun _ => 0) 0 (fun _ => 0), gFR K FR] _ _ := hG
  refine lv_astore_n (lv' := [(2, .ref nw16), (0, .ref a), (1, .ref a2)]) S.1 S.2.1 dX1_remember_23 rfl hl (by decide) rfl (fun ls hl => ?_)
  refine lv_aload_n S.1 S.2.1 dX1_remember_24 rfl (lv_at hl 1 rfl) ?_
  refine g_get S C hG iX10 0 rfl rfl 1 (by decide) (List.mem_of_getElem? (i := 2) rfl) rfl dX1_remember_25 ?_
  refine g_if_lt (tgt := 53) S dX1_remember_28 (by decide) (by omega) (fun q28 => ?_) (fun q28 => ?_)
  · skip
    omega
  · skip
    refine lv_aload_n S.1 S.2.1 dX1_remember_31 rfl (lv_at hl 1 rfl) ?_
    refine g_get S C hG iX10 0 rfl rfl 1 (by decide) (List.mem_of_getElem? (i := 2) rfl) rfl dX1_remember_32 ?_
    refine lv_aload_n S.1 S.2.1 dX1_remember_35 rfl (lv_at hl 1 rfl) ?_
    refine g_get S C hG iX10 0 rfl rfl 0 (by decide) (List.mem_of_getElem? (i := 1) rfl) rfl dX1_remember_36 ?_
    refine g_alen (z := 6) S C hG 1 5 rfl rfl rfl dX1_remember_39 ?_
    refine g_icmp_ge (tgt := 53) S dX1_remember_40 (by decide) (by omega) (by omega) (fun q40 => ?_) (fun q40 => ?_)
    · skip
      omega
    · skip
      refine lv_aload_n S.1 S.2.1 dX1_remember_43 rfl (lv_at hl 1 rfl) ?_
      refine g_get S C hG iX10 0 rfl rfl 0 (by decide) (List.mem_of_getElem? (i := 1) rfl) rfl dX1_remember_44 ?_
      refine lv_aload_n S.1 S.2.1 dX1_remember_47 rfl (lv_at hl 1 rfl) ?_
      refine g_get S C hG iX10 0 rfl rfl 1 (by decide) (List.mem_of_getElem? (i := 2) rfl) rfl dX1_remember_48 ?_
      refine lv_aload_n S.1 S.2.1 dX1_remember_51 rfl (lv_at hl 0 rfl) ?_
      refine g_aast5 (gs1 := [gHisC K a pa nx sz, gQS K pa 6 (va_up P nx.toNat (some nw16)), gScn K a2 la2 lb2 sa2 sb2 ou2 mi2 bo2 ln2 LF2 sn2 SF2, gScn K nw16 la_20 lb_20 sa_20 sb_20 1000 0 1000 0 (fun _ => 0) 0 (fun _ => 0), gFR K FR]) S C hG 1 7 rfl rfl (by omega) (by omega) (by omega) rfl dX1_remember_52 (fun H locs hG => ?_)
      refine lv_aload_n S.1 S.2.1 dX1_remember_53 rfl (lv_at hl 0 rfl) ?_
      refine lv_aload_n S.1 S.2.1 dX1_remember_54 rfl (lv_at hl 2 rfl) ?_
      refine g_invVv (As := [.ref a2]) (rest := []) (gs' := (fun u : Unit => [gHisC K a pa nx sz, gQS K pa 6 (va_up P nx.toNat (some nw16)), gScn K a2 la2 lb2 sa2 sb2 ou2 mi2 bo2 ln2 LF2 sn2 SF2, gScn K nw16 la_20 lb_20 sa_20 sb_20 ou2 mi2 bo2 ln2 (cpyI LF2 (fun _ => 0) 60) sn2 (cpyI SF2 (fun _ => 0) 60), gFR K FR])) S C hG [3, 2] (c_X5_become l K nw16 la_20 lb_20 sa_20 sb_20 1000 0 1000 0 (fun _ => 0) 0 (fun _ => 0) a2 la2 lb2 sa2 sb2 ou2 mi2 bo2 ln2 LF2 sn2 SF2 h2) rfl rfl 0 rfl rfl (cwV 1 S.2.2.2.2 gX1_remember_X5_become rfl rfl rfl (by decide +kernel) ⟨Nat.le_of_ble_eq_true rfl, Nat.le_of_ble_eq_true rfl⟩) rfl hl.1 rfl (Nat.le_of_ble_eq_true rfl) dX1_remember_55 ⟨Nat.le_of_ble_eq_true rfl, Nat.le_of_ble_eq_true rfl⟩ (fun _ => Nat.le_of_ble_eq_true rfl) (fun _ => rfl) (fun u H locs hp hG => ?_)
      refine lv_aload_n S.1 S.2.1 dX1_remember_58 rfl (lv_at hl 1 rfl) ?_
      refine lv_aload_n S.1 S.2.1 dX1_remember_59 rfl (lv_at hl 1 rfl) ?_
      refine g_get S C hG iX10 0 rfl rfl 1 (by decide) (List.mem_of_getElem? (i := 2) rfl) rfl dX1_remember_60 ?_
      refine g_iconst S dX1_remember_63 ?_
      refine g_iadd S dX1_remember_64 rfl ?_
      refine g_bipush S dX1_remember_65 (by decide) ?_
      refine g_irem S dX1_remember_67 (by omega) (by omega) rfl ?_
      refine g_put (gs' := [gHisC K a pa ((nx + 1) % 6) sz, gQS K pa 6 (va_up P nx.toNat (some nw16)), gScn K a2 la2 lb2 sa2 sb2 ou2 mi2 bo2 ln2 LF2 sn2 SF2, gScn K nw16 la_20 lb_20 sa_20 sb_20 ou2 mi2 bo2 ln2 (cpyI LF2 (fun _ => 0) 60) sn2 (cpyI SF2 (fun _ => 0) 60), gFR K FR]) S C hG iX10 tyX1 tyX1_ok nmX1 0 rfl rfl 1 (by decide) (List.mem_of_getElem? (i := 2) rfl) rfl rfl rfl (Nat.le_of_ble_eq_true rfl) rfl dX1_remember_68 (fun H locs hG => ?_)
      refine lv_aload_n S.1 S.2.1 dX1_remember_71 rfl (lv_at hl 1 rfl) ?_
      refine lv_aload_n S.1 S.2.1 dX1_remember_72 rfl (lv_at hl 1 rfl) ?_
      refine g_get S C hG iX10 0 rfl rfl 2 (by decide) (List.mem_of_getElem? (i := 6) rfl) rfl dX1_remember_73 ?_
      refine g_iconst S dX1_remember_76 ?_
      refine g_iadd S dX1_remember_77 rfl ?_
      refine g_bipush S dX1_remember_78 (by decide) ?_
      refine va_mmin S.1 S.2.1 (by rw [S.2.2.1]; exact hl.1.symm) S.2.2.2.1 (S.2.2.2.2 _ (List.mem_of_getElem? (i := 7) rfl)) (S.2.2.2.2 _ (List.mem_of_getElem? (i := 8) rfl)) (S.2.2.2.2 _ (List.mem_of_getElem? (i := 9) rfl)) (S.2.2.2.2 _ (List.mem_of_getElem? (i := 10) rfl)) (Nat.le_of_ble_eq_true rfl) (Nat.le_of_ble_eq_true rfl) (Nat.le_of_ble_eq_true rfl) (Nat.le_of_ble_eq_true rfl) dX1_remember_80 ?_
      refine g_top (w := .int (iI (min (sz + 1) 6))) (imin_eq (by omega) (by omega)) ?_
      refine g_put (gs' := [gHisC K a pa ((nx + 1) % 6) (min (sz + 1) 6), gQS K pa 6 (va_up P nx.toNat (some nw16)), gScn K a2 la2 lb2 sa2 sb2 ou2 mi2 bo2 ln2 LF2 sn2 SF2, gScn K nw16 la_20 lb_20 sa_20 sb_20 ou2 mi2 bo2 ln2 (cpyI LF2 (fun _ => 0) 60) sn2 (cpyI SF2 (fun _ => 0) 60), gFR K FR]) S C hG iX10 tyX1 tyX1_ok nmX1 0 rfl rfl 2 (by decide) (List.mem_of_getElem? (i := 6) rfl) rfl rfl rfl (Nat.le_of_ble_eq_true rfl) rfl dX1_remember_83 (fun H locs hG => ?_)
      have hG : gW K A s.heap [gHisC K a pa ((nx + 1) % 6) (min (sz + 1) 6), gQS K pa 6 (va_up P nx.toNat (some nw16)), gScn K a2 la2 lb2 sa2 sb2 ou2 mi2 bo2 ln2 LF2 sn2 SF2, gScn K nw16 la_20 lb_20 sa_20 sb_20 ou2 mi2 bo2 ln2 (cpyI LF2 (fun _ => 0) 60) sn2 (cpyI SF2 (fun _ => 0) 60), gFR K FR] _ _ := hG
      exact g_vret S hr hlk hQ dX1_remember_86 (Nat.le_of_ble_eq_true rfl) (Nat.le_of_ble_eq_true rfl) ((nw16, la_20, lb_20, sa_20, sb_20) : Nat × Nat × Nat × Nat × Nat) trivial hG
set_option maxHeartbeats 1000000 in
set_option maxRecDepth 100000 in
theorem c_X1_remember_s (l : Launch) (K : KC) (a : Nat) (pa : Nat) (nx : Int) (sz : Int) (P : Nat → Option Nat) (a2 : Nat) (la2 : Nat) (lb2 : Nat) (sa2 : Nat) (sb2 : Nat) (ou2 : Int) (mi2 : Int) (bo2 : Int) (ln2 : Int) (LF2 : Int → Int) (sn2 : Int) (SF2 : Int → Int) (a3 : Nat) (la3 : Nat) (lb3 : Nat) (sa3 : Nat) (sb3 : Nat) (ou3 : Int) (mi3 : Int) (bo3 : Int) (ln3 : Int) (LF3 : Int → Int) (sn3 : Int) (SF3 : Int → Int) (FR : va_W) (h0 : 0 ≤ nx ∧ nx < 6) (h1 : 0 ≤ sz ∧ sz ≤ 6) (h2 : mi2 = 0 ∨ mi2 = 1) (hP : P nx.toNat = some a3) : mV l yX1_remember wsX1_remember 3 102 K [.ref a, .ref a2] [gHisC K a pa nx sz, gQS K pa 6 P, gScn K a2 la2 lb2 sa2 sb2 ou2 mi2 bo2 ln2 LF2 sn2 SF2, gScn K a3 la3 lb3 sa3 sb3 ou3 mi3 bo3 ln3 LF3 sn3 SF3, gFR K FR] (fun (u : Unit) => True) (fun (u : Unit) => [gHisC K a pa ((nx + 1) % 6) (min (sz + 1) 6), gQS K pa 6 P, gScn K a2 la2 lb2 sa2 sb2 ou2 mi2 bo2 ln2 LF2 sn2 SF2, gScn K a3 la3 lb3 sa3 sb3 ou2 mi2 bo2 ln2 (cpyI LF2 LF3 60) sn2 (cpyI SF2 SF3 60), gFR K FR]) 5 129 := by
  refine mV_of cX1_remember 3 (by decide) rfl (Nat.le_of_ble_eq_true rfl) ?_
  intro p e s m below meth c A ls Q S C hG hl hr hlk hin hQ
  have S : CallFix p m c cX1_remember 3 s ([.ref a, .ref a2] : List Value).toArray wsX1_remember RX1 := S
  have iX10 : ∀ w ∈ wsX10, w ∈ wsX1_remember := fun _ h => List.mem_cons_of_mem _ (List.mem_append_left _ (List.mem_append_left _ (List.mem_append_right _ (h))))
  have iX50 : ∀ w ∈ wsX50, w ∈ wsX1_remember := fun _ h => List.mem_cons_of_mem _ (List.mem_append_left _ (List.mem_append_right _ (h)))
  have iX70 : ∀ w ∈ wsX70, w ∈ wsX1_remember := fun _ h => List.mem_cons_of_mem _ (List.mem_append_right _ (h))
  have hl : lv_has ls 3 [(0, .ref a), (1, .ref a2)] := hl
  have hG : gW K A s.heap [gHisC K a pa nx sz, gQS K pa 6 P, gScn K a2 la2 lb2 sa2 sb2 ou2 mi2 bo2 ln2 LF2 sn2 SF2, gScn K a3 la3 lb3 sa3 sb3 ou3 mi3 bo3 ln3 LF3 sn3 SF3, gFR K FR] s.heap [] := hG
  refine lv_aload_n S.1 S.2.1 dX1_remember_0 rfl (lv_at hl 0 rfl) ?_
  refine g_get S C hG iX10 0 rfl rfl 0 (by decide) (List.mem_of_getElem? (i := 1) rfl) rfl dX1_remember_1 ?_
  refine lv_aload_n S.1 S.2.1 dX1_remember_4 rfl (lv_at hl 0 rfl) ?_
  refine g_get S C hG iX10 0 rfl rfl 1 (by decide) (List.mem_of_getElem? (i := 2) rfl) rfl dX1_remember_5 ?_
  refine g_invSN (As := [.ref pa, .int (iI nx)]) (rest := []) (gs' := (fun u : Unit => [gHisC K a pa nx sz, gQS K pa 6 P, gScn K a2 la2 lb2 sa2 sb2 ou2 mi2 bo2 ln2 LF2 sn2 SF2, gScn K a3 la3 lb3 sa3 sb3 ou3 mi3 bo3 ln3 LF3 sn3 SF3, gFR K FR])) S C hG [1] (c_X8_sceneAt l K pa 6 P nx h0 (by omega)) rfl rfl ⟨va_cnB 2 S.2.2.2.2 gX1_remember_X8_sceneAt_n24 rfl rfl rfl (C.1.2.1 _ (List.mem_of_getElem? (i := 5) rfl)) (S.2.2.2.2 _ (List.mem_of_getElem? (i := 12) rfl)) (by decide +kernel) ⟨Nat.le_of_ble_eq_true rfl, Nat.le_of_ble_eq_true rfl⟩, (S.2.2.2.2 _ (List.mem_of_getElem? (i := 11) rfl)), trivial⟩ rfl hl.1 rfl (Nat.le_of_ble_eq_true rfl) dX1_remember_8 ⟨Nat.le_of_ble_eq_true rfl, Nat.le_of_ble_eq_true rfl⟩ (fun _ => Nat.le_of_ble_eq_true rfl) (fun _ => rfl) (fun v u H locs hp hG => ?_)
  subst hp
  refine g_top (w := .ref a3) (by rw [hP]; rfl) ?_
  refine lv_astore_n (lv' := [(2, .ref a3), (0, .ref a), (1, .ref a2)]) S.1 S.2.1 dX1_remember_11 rfl hl (by decide) rfl (fun ls hl => ?_)
  refine lv_aload_n S.1 S.2.1 dX1_remember_12 rfl (lv_at hl 0 rfl) ?_
  refine lv_ifnonnull (tgt := 53) S.1 S.2.1 dX1_remember_13 (by decide) ?_
  refine lv_aload_n S.1 S.2.1 dX1_remember_53 rfl (lv_at hl 0 rfl) ?_
  refine lv_aload_n S.1 S.2.1 dX1_remember_54 rfl (lv_at hl 2 rfl) ?_
  refine g_invVv (As := [.ref a2]) (rest := []) (gs' := (fun u : Unit => [gHisC K a pa nx sz, gQS K pa 6 P, gScn K a2 la2 lb2 sa2 sb2 ou2 mi2 bo2 ln2 LF2 sn2 SF2, gScn K a3 la3 lb3 sa3 sb3 ou2 mi2 bo2 ln2 (cpyI LF2 LF3 60) sn2 (cpyI SF2 SF3 60), gFR K FR])) S C hG [3, 2] (c_X5_become l K a3 la3 lb3 sa3 sb3 ou3 mi3 bo3 ln3 LF3 sn3 SF3 a2 la2 lb2 sa2 sb2 ou2 mi2 bo2 ln2 LF2 sn2 SF2 h2) rfl rfl 0 rfl rfl (cwV 1 S.2.2.2.2 gX1_remember_X5_become rfl rfl rfl (by decide +kernel) ⟨Nat.le_of_ble_eq_true rfl, Nat.le_of_ble_eq_true rfl⟩) rfl hl.1 rfl (Nat.le_of_ble_eq_true rfl) dX1_remember_55 ⟨Nat.le_of_ble_eq_true rfl, Nat.le_of_ble_eq_true rfl⟩ (fun _ => Nat.le_of_ble_eq_true rfl) (fun _ => rfl) (fun u H locs hp hG => ?_)
  refine lv_aload_n S.1 S.2.1 dX1_remember_58 rfl (lv_at hl 1 rfl) ?_
  refine lv_aload_n S.1 S.2.1 dX1_remember_59 rfl (lv_at hl 1 rfl) ?_
  refine g_get S C hG iX10 0 rfl rfl 1 (by decide) (List.mem_of_getElem? (i := 2) rfl) rfl dX1_remember_60 ?_
  refine g_iconst S dX1_remember_63 ?_
  refine g_iadd S dX1_remember_64 rfl ?_
  refine g_bipush S dX1_remember_65 (by decide) ?_
  refine g_irem S dX1_remember_67 (by omega) (by omega) rfl ?_
  refine g_put (gs' := [gHisC K a pa ((nx + 1) % 6) sz, gQS K pa 6 P, gScn K a2 la2 lb2 sa2 sb2 ou2 mi2 bo2 ln2 LF2 sn2 SF2, gScn K a3 la3 lb3 sa3 sb3 ou2 mi2 bo2 ln2 (cpyI LF2 LF3 60) sn2 (cpyI SF2 SF3 60), gFR K FR]) S C hG iX10 tyX1 tyX1_ok nmX1 0 rfl rfl 1 (by decide) (List.mem_of_getElem? (i := 2) rfl) rfl rfl rfl (Nat.le_of_ble_eq_true rfl) rfl dX1_remember_68 (fun H locs hG => ?_)
  refine lv_aload_n S.1 S.2.1 dX1_remember_71 rfl (lv_at hl 1 rfl) ?_
  refine lv_aload_n S.1 S.2.1 dX1_remember_72 rfl (lv_at hl 1 rfl) ?_
  refine g_get S C hG iX10 0 rfl rfl 2 (by decide) (List.mem_of_getElem? (i := 6) rfl) rfl dX1_remember_73 ?_
  refine g_iconst S dX1_remember_76 ?_
  refine g_iadd S dX1_remember_77 rfl ?_
  refine g_bipush S dX1_remember_78 (by decide) ?_
  refine va_mmin S.1 S.2.1 (by rw [S.2.2.1]; exact hl.1.symm) S.2.2.2.1 (S.2.2.2.2 _ (List.mem_of_getElem? (i := 7) rfl)) (S.2.2.2.2 _ (List.mem_of_getElem? (i := 8) rfl)) (S.2.2.2.2 _ (List.mem_of_getElem? (i := 9) rfl)) (S.2.2.2.2 _ (List.mem_of_getElem? (i := 10) rfl)) (Nat.le_of_ble_eq_true rfl) (Nat.le_of_ble_eq_true rfl) (Nat.le_of_ble_eq_true rfl) (Nat.le_of_ble_eq_true rfl) dX1_remember_80 ?_
  refine g_top (w := .int (iI (min (sz + 1) 6))) (imin_eq (by omega) (by omega)) ?_
  refine g_put (gs' := [gHisC K a pa ((nx + 1) % 6) (min (sz + 1) 6), gQS K pa 6 P, gScn K a2 la2 lb2 sa2 sb2 ou2 mi2 bo2 ln2 LF2 sn2 SF2, gScn K a3 la3 lb3 sa3 sb3 ou2 mi2 bo2 ln2 (cpyI LF2 LF3 60) sn2 (cpyI SF2 SF3 60), gFR K FR]) S C hG iX10 tyX1 tyX1_ok nmX1 0 rfl rfl 2 (by decide) (List.mem_of_getElem? (i := 6) rfl) rfl rfl rfl (Nat.le_of_ble_eq_true rfl) rfl dX1_remember_83 (fun H locs hG => ?_)
  have hG : gW K A s.heap [gHisC K a pa ((nx + 1) % 6) (min (sz + 1) 6), gQS K pa 6 P, gScn K a2 la2 lb2 sa2 sb2 ou2 mi2 bo2 ln2 LF2 sn2 SF2, gScn K a3 la3 lb3 sa3 sb3 ou2 mi2 bo2 ln2 (cpyI LF2 LF3 60) sn2 (cpyI SF2 SF3 60), gFR K FR] _ _ := hG
  exact g_vret S hr hlk hQ dX1_remember_86 (Nat.le_of_ble_eq_true rfl) (Nat.le_of_ble_eq_true rfl) (() : Unit) trivial hG
