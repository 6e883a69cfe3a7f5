def gSvyC (K : KC) (va sc ra : Nat) (vl vd vn vf vt ve vg vb vw : Int) : va_W := [(va, .inr (6, [.ref sc, .ref ra, .int (iI vl), .int (iI vd), .int (iI vn), .int (iI vf), .int (iI vt), .int (iI ve), .int (iI vg), .int (iI vb), .long (iL vw)]))]
def gPrsC (K : KC) (qa tx sc : Nat) (qp qs qk qn qo qb qe qf : Int) : va_W := [(qa, .inr (2, [.ref tx, .ref sc, .int (iI qp), .int (iI qs), .int (iI qk), .int (iI qn), .int (iI qo), .int (iI qb), .int (iI qe), .int (iI qf)]))]
set_option maxHeartbeats 1000000 in
set_option maxRecDepth 100000 in
theorem c_X4_init (l : Launch) (K : KC) (ra : Nat) (sc : Nat) : mV l yX4_init wsX4_init 1 24 K [.ref ra, .ref sc] [gNew4 K ra] (fun (u : Nat × Nat × Nat × Nat) => True) (fun (u : Nat × Nat × Nat × Nat) => [gRay K ra u.1 u.2.1 u.2.2.1 u.2.2.2 sc 0 0 0 0 0 0 0 0 0 0 0 0 0 (fun _ => 0) (fun _ => 0) (fun _ => 0) (fun _ => 0)]) 4 42 := by
  refine mV_of cX4_init 2 (by decide) rfl (Nat.le_of_ble_eq_true rfl) ?_
  intro p e s m below meth c A ls Q S C hG hl hr hlk hin hQ
  have S : CallFix p m c cX4_init 2 s ([.ref ra, .ref sc] : List Value).toArray wsX4_init RX4 := S
  have iX40 : ∀ w ∈ wsX40, w ∈ wsX4_init := fun _ h => List.mem_cons_of_mem _ (List.mem_append_right _ (h))
  have hl : lv_has ls 2 [(0, .ref ra), (1, .ref sc)] := hl
  have hG : gW K A s.heap [gNew4 K ra] s.heap [] := hG
  refine lv_aload_n S.1 S.2.1 dX4_init_0 rfl (lv_at hl 0 rfl) ?_
  refine W.objInit S.1 S.2.1 S.2.2.2.1 (S.2.2.2.2 _ (List.mem_of_getElem? (i := 1) rfl)) (S.2.2.2.2 _ (List.mem_of_getElem? (i := 2) rfl)) (S.2.2.2.2 _ (List.mem_of_getElem? (i := 3) rfl)) rfl (by rw [S.2.2.1]; exact hl.1) rfl dX4_init_1 (Nat.le_of_ble_eq_true rfl) (Nat.le_of_ble_eq_true rfl) ?_
  refine W.eq (g2 := F0 m 4 ls []) rfl ?_
  refine lv_aload_n S.1 S.2.1 dX4_init_4 rfl (lv_at hl 0 rfl) ?_
  refine g_bipush S dX4_init_5 (by decide) ?_
  refine g_newa (gs' := fun nw7 => [gNew4 K ra, gArr K 12 nw7 (fun _ => 0)]) (a0 := (12, .inl (fun j : Nat => iI ((fun _ : Int => 0) (j : Int))))) S C hG (ty := .int) rfl (List.mem_of_getElem? (i := 4) rfl) 0 rfl 12 rfl (ha_i 12) (Nat.le_of_ble_eq_true rfl) (Nat.le_of_ble_eq_true rfl) (Nat.le_of_ble_eq_true rfl) (Nat.le_of_ble_eq_true rfl) (fun _ => rfl) dX4_init_7 (fun nw7 H hG => ?_)
  refine g_putF (gs' := [[(ra, .inr (4, [.ref nw7, .null, .null, .null, .null, .int (iI 0), .int (iI 0), .int (iI 0), .int (iI 0), .int (iI 0), .int (iI 0), .int (iI 0), .int (iI 0), .int (iI 0), .int (iI 0), .int (iI 0), .int (iI 0), .int (iI 0)]))], gArr K 12 nw7 (fun _ => 0)]) S C hG iX40 tyX4 tyX4_ok nmX4 0 rfl rfl 0 (by decide) (List.mem_of_getElem? (i := 5) rfl) rfl hin rfl rfl rfl (Nat.le_of_ble_eq_true rfl) rfl dX4_init_9 (fun H locs hG => ?_)
  refine lv_aload_n S.1 S.2.1 dX4_init_12 rfl (lv_at hl 0 rfl) ?_
  refine g_bipush S dX4_init_13 (by decide) ?_
  refine g_newa (gs' := fun nw15 => [[(ra, .inr (4, [.ref nw7, .null, .null, .null, .null, .int (iI 0), .int (iI 0), .int (iI 0), .int (iI 0), .int (iI 0), .int (iI 0), .int (iI 0), .int (iI 0), .int (iI 0), .int (iI 0), .int (iI 0), .int (iI 0), .int (iI 0)]))], gArr K 12 nw7 (fun _ => 0), gArr K 10 nw15 (fun _ => 0)]) (a0 := (10, .inl (fun j : Nat => iI ((fun _ : Int => 0) (j : Int))))) S C hG (ty := .int) rfl (List.mem_of_getElem? (i := 4) rfl) 0 rfl 10 rfl (ha_i 10) (Nat.le_of_ble_eq_true rfl) (Nat.le_of_ble_eq_true rfl) (Nat.le_of_ble_eq_true rfl) (Nat.le_of_ble_eq_true rfl) (fun _ => rfl) dX4_init_15 (fun nw15 H hG => ?_)
  refine g_putF (gs' := [[(ra, .inr (4, [.ref nw7, .ref nw15, .null, .null, .null, .int (iI 0), .int (iI 0), .int (iI 0), .int (iI 0), .int (iI 0), .int (iI 0), .int (iI 0), .int (iI 0), .int (iI 0), .int (iI 0), .int (iI 0), .int (iI 0), .int (iI 0)]))], gArr K 12 nw7 (fun _ => 0), gArr K 10 nw15 (fun _ => 0)]) S C hG iX40 tyX4 tyX4_ok nmX4 0 rfl rfl 1 (by decide) (List.mem_of_getElem? (i := 6) rfl) rfl hin rfl rfl rfl (Nat.le_of_ble_eq_true rfl) rfl dX4_init_17 (fun H locs hG => ?_)
  refine lv_aload_n S.1 S.2.1 dX4_init_20 rfl (lv_at hl 0 rfl) ?_
  refine g_bipush S dX4_init_21 (by decide) ?_
  refine g_newa (gs' := fun nw23 => [[(ra, .inr (4, [.ref nw7, .ref nw15, .null, .null, .null, .int (iI 0), .int (iI 0), .int (iI 0), .int (iI 0), .int (iI 0), .int (iI 0), .int (iI 0), .int (iI 0), .int (iI 0), .int (iI 0), .int (iI 0), .int (iI 0), .int (iI 0)]))], gArr K 12 nw7 (fun _ => 0), gArr K 10 nw15 (fun _ => 0), gArr K 10 nw23 (fun _ => 0)]) (a0 := (10, .inl (fun j : Nat => iI ((fun _ : Int => 0) (j : Int))))) S C hG (ty := .int) rfl (List.mem_of_getElem? (i := 4) rfl) 0 rfl 10 rfl (ha_i 10) (Nat.le_of_ble_eq_true rfl) (Nat.le_of_ble_eq_true rfl) (Nat.le_of_ble_eq_true rfl) (Nat.le_of_ble_eq_true rfl) (fun _ => rfl) dX4_init_23 (fun nw23 H hG => ?_)
  refine g_putF (gs' := [[(ra, .inr (4, [.ref nw7, .ref nw15, .ref nw23, .null, .null, .int (iI 0), .int (iI 0), .int (iI 0), .int (iI 0), .int (iI 0), .int (iI 0), .int (iI 0), .int (iI 0), .int (iI 0), .int (iI 0), .int (iI 0), .int (iI 0), .int (iI 0)]))], gArr K 12 nw7 (fun _ => 0), gArr K 10 nw15 (fun _ => 0), gArr K 10 nw23 (fun _ => 0)]) S C hG iX40 tyX4 tyX4_ok nmX4 0 rfl rfl 2 (by decide) (List.mem_of_getElem? (i := 7) rfl) rfl hin rfl rfl rfl (Nat.le_of_ble_eq_true rfl) rfl dX4_init_25 (fun H locs hG => ?_)
  refine lv_aload_n S.1 S.2.1 dX4_init_28 rfl (lv_at hl 0 rfl) ?_
  refine g_bipush S dX4_init_29 (by decide) ?_
  refine g_newa (gs' := fun nw31 => [[(ra, .inr (4, [.ref nw7, .ref nw15, .ref nw23, .null, .null, .int (iI 0), .int (iI 0), .int (iI 0), .int (iI 0), .int (iI 0), .int (iI 0), .int (iI 0), .int (iI 0), .int (iI 0), .int (iI 0), .int (iI 0), .int (iI 0), .int (iI 0)]))], gArr K 12 nw7 (fun _ => 0), gArr K 10 nw15 (fun _ => 0), gArr K 10 nw23 (fun _ => 0), gArr K 10 nw31 (fun _ => 0)]) (a0 := (10, .inl (fun j : Nat => iI ((fun _ : Int => 0) (j : Int))))) S C hG (ty := .int) rfl (List.mem_of_getElem? (i := 4) rfl) 0 rfl 10 rfl (ha_i 10) (Nat.le_of_ble_eq_true rfl) (Nat.le_of_ble_eq_true rfl) (Nat.le_of_ble_eq_true rfl) (Nat.le_of_ble_eq_true rfl) (fun _ => rfl) dX4_init_31 (fun nw31 H hG => ?_)
  refine g_putF (gs' := [[(ra, .inr (4, [.ref nw7, .ref nw15, .ref nw23, .ref nw31, .null, .int (iI 0), .int (iI 0), .int (iI 0), .int (iI 0), .int (iI 0), .int (iI 0), .int (iI 0), .int (iI 0), .int (iI 0), .int (iI 0), .int (iI 0), .int (iI 0), .int (iI 0)]))], gArr K 12 nw7 (fun _ => 0), gArr K 10 nw15 (fun _ => 0), gArr K 10 nw23 (fun _ => 0), gArr K 10 nw31 (fun _ => 0)]) S C hG iX40 tyX4 tyX4_ok nmX4 0 rfl rfl 3 (by decide) (List.mem_of_getElem? (i := 8) rfl) rfl hin rfl rfl rfl (Nat.le_of_ble_eq_true rfl) rfl dX4_init_33 (fun H locs hG => ?_)
  refine lv_aload_n S.1 S.2.1 dX4_init_36 rfl (lv_at hl 0 rfl) ?_
  refine lv_aload_n S.1 S.2.1 dX4_init_37 rfl (lv_at hl 1 rfl) ?_
  refine g_put (gs' := [[(ra, .inr (4, [.ref nw7, .ref nw15, .ref nw23, .ref nw31, .ref sc, .int (iI 0), .int (iI 0), .int (iI 0), .int (iI 0), .int (iI 0), .int (iI 0), .int (iI 0), .int (iI 0), .int (iI 0), .int (iI 0), .int (iI 0), .int (iI 0), .int (iI 0)]))], gArr K 12 nw7 (fun _ => 0), gArr K 10 nw15 (fun _ => 0), gArr K 10 nw23 (fun _ => 0), gArr K 10 nw31 (fun _ => 0)]) S C hG iX40 tyX4 tyX4_ok nmX4 0 rfl rfl 4 (by decide) (List.mem_of_getElem? (i := 9) rfl) rfl rfl rfl (Nat.le_of_ble_eq_true rfl) rfl dX4_init_38 (fun H locs hG => ?_)
  have hG : gW K A s.heap [gRay K ra nw7 nw15 nw23 nw31 sc 0 0 0 0 0 0 0 0 0 0 0 0 0 (fun _ => 0) (fun _ => 0) (fun _ => 0) (fun _ => 0)] _ _ := hG
  exact g_vret S hr hlk hQ dX4_init_41 (Nat.le_of_ble_eq_true rfl) (Nat.le_of_ble_eq_true rfl) ((nw7, nw15, nw23, nw31) : Nat × Nat × Nat × Nat) trivial hG
set_option maxHeartbeats 1000000 in
set_option maxRecDepth 100000 in
theorem c_X3_init (l : Launch) (K : KC) (pa : Nat) (sc : Nat) : mV l yX3_init wsX3_init 2 45 K [.ref pa, .ref sc] [gNew3 K pa] (fun (u : Nat × Nat × Nat × Nat × Nat × Nat × Nat × Nat × Nat × Nat × Nat × Nat × Nat) => True) (fun (u : Nat × Nat × Nat × Nat × Nat × Nat × Nat × Nat × Nat × Nat × Nat × Nat × Nat) => [gPth K pa u.1 u.2.1 0 4 u.2.2.1 u.2.2.2.1 u.2.2.2.2.1 u.2.2.2.2.2.1 u.2.2.2.2.2.2.1 u.2.2.2.2.2.2.2.1 u.2.2.2.2.2.2.2.2.1 (fun _ => 0) (fun _ => 0) (fun _ => 0) (fun _ => 0) (fun _ => 0) (fun _ => 0) (fun _ => 0), gRay K u.2.1 u.2.2.2.2.2.2.2.2.2.1 u.2.2.2.2.2.2.2.2.2.2.1 u.2.2.2.2.2.2.2.2.2.2.2.1 u.2.2.2.2.2.2.2.2.2.2.2.2 sc 0 0 0 0 0 0 0 0 0 0 0 0 0 (fun _ => 0) (fun _ => 0) (fun _ => 0) (fun _ => 0)]) 13 487 := by
  refine mV_of cX3_init 2 (by decide) rfl (Nat.le_of_ble_eq_true rfl) ?_
  intro p e s m below meth c A ls Q S C hG hl hr hlk hin hQ
  have S : CallFix p m c cX3_init 2 s ([.ref pa, .ref sc] : List Value).toArray wsX3_init RX3 := S
  have iX30 : ∀ w ∈ wsX30, w ∈ wsX3_init := fun _ h => List.mem_cons_of_mem _ (List.mem_append_left _ (List.mem_append_right _ (h)))
  have iX40 : ∀ w ∈ wsX40, w ∈ wsX3_init := fun _ h => List.mem_cons_of_mem _ (List.mem_append_right _ (h))
  have hl : lv_has ls 2 [(0, .ref pa), (1, .ref sc)] := hl
  have hG : gW K A s.heap [gNew3 K pa] s.heap [] := hG
  refine lv_aload_n S.1 S.2.1 dX3_init_0 rfl (lv_at hl 0 rfl) ?_
  refine W.objInit S.1 S.2.1 S.2.2.2.1 (S.2.2.2.2 _ (List.mem_of_getElem? (i := 1) rfl)) (S.2.2.2.2 _ (List.mem_of_getElem? (i := 2) rfl)) (S.2.2.2.2 _ (List.mem_of_getElem? (i := 3) rfl)) rfl (by rw [S.2.2.1]; exact hl.1) rfl dX3_init_1 (Nat.le_of_ble_eq_true rfl) (Nat.le_of_ble_eq_true rfl) ?_
  refine W.eq (g2 := F0 m 4 ls []) rfl ?_
  refine lv_aload_n S.1 S.2.1 dX3_init_4 rfl (lv_at hl 0 rfl) ?_
  refine g_bipush S dX3_init_5 (by decide) ?_
  refine g_bipush S dX3_init_7 (by decide) ?_
  refine g_mna7 S C hG (List.mem_of_getElem? (i := 4) rfl) (List.mem_of_getElem? (i := 5) rfl) (Nat.le_of_ble_eq_true rfl) (Nat.le_of_ble_eq_true rfl) dX3_init_9 (fun nw9 r0_9 r1_9 r2_9 r3_9 r4_9 r5_9 r6_9 H hG => ?_)
  have hG : gW K A s.heap [gNew3 K pa, gRw7 K nw9 r0_9 r1_9 r2_9 r3_9 r4_9 r5_9 r6_9, gArr K 60 r0_9 (fun _ => 0), gArr K 60 r1_9 (fun _ => 0), gArr K 60 r2_9 (fun _ => 0), gArr K 60 r3_9 (fun _ => 0), gArr K 60 r4_9 (fun _ => 0), gArr K 60 r5_9 (fun _ => 0), gArr K 60 r6_9 (fun _ => 0)] _ _ := hG
  refine g_putF (gs' := [[(pa, .inr (3, [.ref nw9, .null, .int (iI 0), .int (iI 0)]))], gRw7 K nw9 r0_9 r1_9 r2_9 r3_9 r4_9 r5_9 r6_9, gArr K 60 r0_9 (fun _ => 0), gArr K 60 r1_9 (fun _ => 0), gArr K 60 r2_9 (fun _ => 0), gArr K 60 r3_9 (fun _ => 0), gArr K 60 r4_9 (fun _ => 0), gArr K 60 r5_9 (fun _ => 0), gArr K 60 r6_9 (fun _ => 0)]) S C hG iX30 tyX3 tyX3_ok nmX3 0 rfl rfl 0 (by decide) (List.mem_of_getElem? (i := 6) rfl) rfl hin rfl rfl rfl (Nat.le_of_ble_eq_true rfl) rfl dX3_init_13 (fun H locs hG => ?_)
  refine lv_aload_n S.1 S.2.1 dX3_init_16 rfl (lv_at hl 0 rfl) ?_
  refine g_iconst S dX3_init_17 ?_
  refine g_put (gs' := [[(pa, .inr (3, [.ref nw9, .null, .int (iI 0), .int (iI 0)]))], gRw7 K nw9 r0_9 r1_9 r2_9 r3_9 r4_9 r5_9 r6_9, gArr K 60 r0_9 (fun _ => 0), gArr K 60 r1_9 (fun _ => 0), gArr K 60 r2_9 (fun _ => 0), gArr K 60 r3_9 (fun _ => 0), gArr K 60 r4_9 (fun _ => 0), gArr K 60 r5_9 (fun _ => 0), gArr K 60 r6_9 (fun _ => 0)]) S C hG iX30 tyX3 tyX3_ok nmX3 0 rfl rfl 2 (by decide) (List.mem_of_getElem? (i := 7) rfl) rfl rfl rfl (Nat.le_of_ble_eq_true rfl) rfl dX3_init_18 (fun H locs hG => ?_)
  refine lv_aload_n S.1 S.2.1 dX3_init_21 rfl (lv_at hl 0 rfl) ?_
  refine g_iconst S dX3_init_22 ?_
  refine g_put (gs' := [[(pa, .inr (3, [.ref nw9, .null, .int (iI 0), .int (iI 4)]))], gRw7 K nw9 r0_9 r1_9 r2_9 r3_9 r4_9 r5_9 r6_9, gArr K 60 r0_9 (fun _ => 0), gArr K 60 r1_9 (fun _ => 0), gArr K 60 r2_9 (fun _ => 0), gArr K 60 r3_9 (fun _ => 0), gArr K 60 r4_9 (fun _ => 0), gArr K 60 r5_9 (fun _ => 0), gArr K 60 r6_9 (fun _ => 0)]) S C hG iX30 tyX3 tyX3_ok nmX3 0 rfl rfl 3 (by decide) (List.mem_of_getElem? (i := 8) rfl) rfl rfl rfl (Nat.le_of_ble_eq_true rfl) rfl dX3_init_23 (fun H locs hG => ?_)
  refine lv_aload_n S.1 S.2.1 dX3_init_26 rfl (lv_at hl 0 rfl) ?_
  refine g_new (ci := 4) (fs := [.null, .null, .null, .null, .null, .int (iI 0), .int (iI 0), .int (iI 0), .int (iI 0), .int (iI 0), .int (iI 0), .int (iI 0), .int (iI 0), .int (iI 0), .int (iI 0), .int (iI 0), .int (iI 0), .int (iI 0)]) (gs' := fun nw27 => [[(pa, .inr (3, [.ref nw9, .null, .int (iI 0), .int (iI 4)]))], gRw7 K nw9 r0_9 r1_9 r2_9 r3_9 r4_9 r5_9 r6_9, gArr K 60 r0_9 (fun _ => 0), gArr K 60 r1_9 (fun _ => 0), gArr K 60 r2_9 (fun _ => 0), gArr K 60 r3_9 (fun _ => 0), gArr K 60 r4_9 (fun _ => 0), gArr K 60 r5_9 (fun _ => 0), gArr K 60 r6_9 (fun _ => 0), gNew4 K nw27]) S C hG iX40 tyX4 tyX4_ok (List.mem_of_getElem? (i := 9) rfl) (List.mem_of_getElem? (i := 10) rfl) (List.mem_of_getElem? (i := 11) rfl) rfl dfX4 (Nat.le_of_ble_eq_true rfl) (Nat.le_of_ble_eq_true rfl) (fun nw27 => rfl) dX3_init_27 (fun nw27 H hG => ?_)
  refine lv_dup S.1 S.2.1 dX3_init_30 rfl ?_
  refine lv_aload_n S.1 S.2.1 dX3_init_31 rfl (lv_at hl 1 rfl) ?_
  refine g_invI (As := [.ref sc]) (rest := [.ref nw27, .ref pa]) (gs' := (fun u : Nat × Nat × Nat × Nat => [[(pa, .inr (3, [.ref nw9, .null, .int (iI 0), .int (iI 4)]))], gRw7 K nw9 r0_9 r1_9 r2_9 r3_9 r4_9 r5_9 r6_9, gArr K 60 r0_9 (fun _ => 0), gArr K 60 r1_9 (fun _ => 0), gArr K 60 r2_9 (fun _ => 0), gArr K 60 r3_9 (fun _ => 0), gArr K 60 r4_9 (fun _ => 0), gArr K 60 r5_9 (fun _ => 0), gArr K 60 r6_9 (fun _ => 0), gRay K nw27 u.1 u.2.1 u.2.2.1 u.2.2.2 sc 0 0 0 0 0 0 0 0 0 0 0 0 0 (fun _ => 0) (fun _ => 0) (fun _ => 0) (fun _ => 0)])) S C hG [9] (c_X4_init l K nw27 sc) rfl rfl (cwI 1 S.2.2.2.2 gX3_init_X4_init rfl rfl rfl (S.2.2.2.2 _ (List.mem_of_getElem? (i := 11) rfl)) (S.2.2.2.2 _ (List.mem_of_getElem? (i := 13) rfl)) (S.2.2.2.2 _ (List.mem_of_getElem? (i := 14) rfl)) rfl (by decide +kernel) ⟨Nat.le_of_ble_eq_true rfl, Nat.le_of_ble_eq_true rfl⟩) rfl hl.1 rfl (Nat.le_of_ble_eq_true rfl) dX3_init_32 ⟨Nat.le_of_ble_eq_true rfl, Nat.le_of_ble_eq_true rfl⟩ (fun _ => Nat.le_of_ble_eq_true rfl) (fun _ => rfl) (fun u H locs hp hG => ?_)
  obtain ⟨xa_32, sha_32, lea_32, tma_32⟩ := u
  have hG : gW K A s.heap [[(pa, .inr (3, [.ref nw9, .null, .int (iI 0), .int (iI 4)]))], gRw7 K nw9 r0_9 r1_9 r2_9 r3_9 r4_9 r5_9 r6_9, gArr K 60 r0_9 (fun _ => 0), gArr K 60 r1_9 (fun _ => 0), gArr K 60 r2_9 (fun _ => 0), gArr K 60 r3_9 (fun _ => 0), gArr K 60 r4_9 (fun _ => 0), gArr K 60 r5_9 (fun _ => 0), gArr K 60 r6_9 (fun _ => 0), gRay K nw27 xa_32 sha_32 lea_32 tma_32 sc 0 0 0 0 0 0 0 0 0 0 0 0 0 (fun _ => 0) (fun _ => 0) (fun _ => 0) (fun _ => 0)] _ _ := hG
  refine g_putF (gs' := [[(pa, .inr (3, [.ref nw9, .ref nw27, .int (iI 0), .int (iI 4)]))], gRw7 K nw9 r0_9 r1_9 r2_9 r3_9 r4_9 r5_9 r6_9, gArr K 60 r0_9 (fun _ => 0), gArr K 60 r1_9 (fun _ => 0), gArr K 60 r2_9 (fun _ => 0), gArr K 60 r3_9 (fun _ => 0), gArr K 60 r4_9 (fun _ => 0), gArr K 60 r5_9 (fun _ => 0), gArr K 60 r6_9 (fun _ => 0), gRay K nw27 xa_32 sha_32 lea_32 tma_32 sc 0 0 0 0 0 0 0 0 0 0 0 0 0 (fun _ => 0) (fun _ => 0) (fun _ => 0) (fun _ => 0)]) S C hG iX30 tyX3 tyX3_ok nmX3 0 rfl rfl 1 (by decide) (List.mem_of_getElem? (i := 12) rfl) rfl hin rfl rfl rfl (Nat.le_of_ble_eq_true rfl) rfl dX3_init_35 (fun H locs hG => ?_)
  have hG : gW K A s.heap [gPth K pa nw9 nw27 0 4 r0_9 r1_9 r2_9 r3_9 r4_9 r5_9 r6_9 (fun _ => 0) (fun _ => 0) (fun _ => 0) (fun _ => 0) (fun _ => 0) (fun _ => 0) (fun _ => 0), gRay K nw27 xa_32 sha_32 lea_32 tma_32 sc 0 0 0 0 0 0 0 0 0 0 0 0 0 (fun _ => 0) (fun _ => 0) (fun _ => 0) (fun _ => 0)] _ _ := hG
  exact g_vret S hr hlk hQ dX3_init_38 (Nat.le_of_ble_eq_true rfl) (Nat.le_of_ble_eq_true rfl) ((nw9, nw27, r0_9, r1_9, r2_9, r3_9, r4_9, r5_9, r6_9, xa_32, sha_32, lea_32, tma_32) : Nat × Nat × Nat × Nat × Nat × Nat × Nat × Nat × Nat × Nat × Nat × Nat × Nat) trivial hG
set_option maxHeartbeats 1000000 in
set_option maxRecDepth 100000 in
theorem c_X6_init (l : Launch) (K : KC) (va : Nat) (sc : Nat) : mV l yX6_init wsX6_init 2 45 K [.ref va, .ref sc] [gNew6 K va] (fun (u : Nat × Nat × Nat × Nat × Nat) => True) (fun (u : Nat × Nat × Nat × Nat × Nat) => [gSvyC K va sc u.1 0 0 0 0 0 0 0 (-1) 0, gRay K u.1 u.2.1 u.2.2.1 u.2.2.2.1 u.2.2.2.2 sc 0 0 0 0 0 0 0 0 0 0 0 0 0 (fun _ => 0) (fun _ => 0) (fun _ => 0) (fun _ => 0)]) 5 60 := by
  refine mV_of cX6_init 2 (by decide) rfl (Nat.le_of_ble_eq_true rfl) ?_
  intro p e s m below meth c A ls Q S C hG hl hr hlk hin hQ
  have S : CallFix p m c cX6_init 2 s ([.ref va, .ref sc] : List Value).toArray wsX6_init RX6 := S
  have iX60 : ∀ w ∈ wsX60, w ∈ wsX6_init := fun _ h => List.mem_cons_of_mem _ (List.mem_append_left _ (List.mem_append_right _ (h)))
  have iX40 : ∀ w ∈ wsX40, w ∈ wsX6_init := fun _ h => List.mem_cons_of_mem _ (List.mem_append_right _ (h))
  have hl : lv_has ls 2 [(0, .ref va), (1, .ref sc)] := hl
  have hG : gW K A s.heap [gNew6 K va] s.heap [] := hG
  refine lv_aload_n S.1 S.2.1 dX6_init_0 rfl (lv_at hl 0 rfl) ?_
  refine W.objInit S.1 S.2.1 S.2.2.2.1 (S.2.2.2.2 _ (List.mem_of_getElem? (i := 1) rfl)) (S.2.2.2.2 _ (List.mem_of_getElem? (i := 2) rfl)) (S.2.2.2.2 _ (List.mem_of_getElem? (i := 3) rfl)) rfl (by rw [S.2.2.1]; exact hl.1) rfl dX6_init_1 (Nat.le_of_ble_eq_true rfl) (Nat.le_of_ble_eq_true rfl) ?_
  refine W.eq (g2 := F0 m 4 ls []) rfl ?_
  refine lv_aload_n S.1 S.2.1 dX6_init_4 rfl (lv_at hl 0 rfl) ?_
  refine g_iconst S dX6_init_5 ?_
  refine g_put (gs' := [[(va, .inr (6, [.null, .null, .int (iI 0), .int (iI 0), .int (iI 0), .int (iI 0), .int (iI 0), .int (iI 0), .int (iI 0), .int (iI (-1)), .long (iL 0)]))]]) S C hG iX60 tyX6 tyX6_ok nmX6 0 rfl rfl 9 (by decide) (List.mem_of_getElem? (i := 4) rfl) rfl rfl rfl (Nat.le_of_ble_eq_true rfl) rfl dX6_init_6 (fun H locs hG => ?_)
  refine lv_aload_n S.1 S.2.1 dX6_init_9 rfl (lv_at hl 0 rfl) ?_
  refine g_lconst (z := 0) S dX6_init_10 rfl ?_
  refine g_put (gs' := [[(va, .inr (6, [.null, .null, .int (iI 0), .int (iI 0), .int (iI 0), .int (iI 0), .int (iI 0), .int (iI 0), .int (iI 0), .int (iI (-1)), .long (iL 0)]))]]) S C hG iX60 tyX6 tyX6_ok nmX6 0 rfl rfl 10 (by decide) (List.mem_of_getElem? (i := 5) rfl) rfl rfl rfl (Nat.le_of_ble_eq_true rfl) rfl dX6_init_11 (fun H locs hG => ?_)
  refine lv_aload_n S.1 S.2.1 dX6_init_14 rfl (lv_at hl 0 rfl) ?_
  refine lv_aload_n S.1 S.2.1 dX6_init_15 rfl (lv_at hl 1 rfl) ?_
  refine g_putF (gs' := [[(va, .inr (6, [.ref sc, .null, .int (iI 0), .int (iI 0), .int (iI 0), .int (iI 0), .int (iI 0), .int (iI 0), .int (iI 0), .int (iI (-1)), .long (iL 0)]))]]) S C hG iX60 tyX6 tyX6_ok nmX6 0 rfl rfl 0 (by decide) (List.mem_of_getElem? (i := 6) rfl) rfl hin rfl rfl rfl (Nat.le_of_ble_eq_true rfl) rfl dX6_init_16 (fun H locs hG => ?_)
  refine lv_aload_n S.1 S.2.1 dX6_init_19 rfl (lv_at hl 0 rfl) ?_
  refine g_new (ci := 4) (fs := [.null, .null, .null, .null, .null, .int (iI 0), .int (iI 0), .int (iI 0), .int (iI 0), .int (iI 0), .int (iI 0), .int (iI 0), .int (iI 0), .int (iI 0), .int (iI 0), .int (iI 0), .int (iI 0), .int (iI 0)]) (gs' := fun nw20 => [[(va, .inr (6, [.ref sc, .null, .int (iI 0), .int (iI 0), .int (iI 0), .int (iI 0), .int (iI 0), .int (iI 0), .int (iI 0), .int (iI (-1)), .long (iL 0)]))], gNew4 K nw20]) S C hG iX40 tyX4 tyX4_ok (List.mem_of_getElem? (i := 7) rfl) (List.mem_of_getElem? (i := 8) rfl) (List.mem_of_getElem? (i := 9) rfl) rfl dfX4 (Nat.le_of_ble_eq_true rfl) (Nat.le_of_ble_eq_true rfl) (fun nw20 => rfl) dX6_init_20 (fun nw20 H hG => ?_)
  refine lv_dup S.1 S.2.1 dX6_init_23 rfl ?_
  refine lv_aload_n S.1 S.2.1 dX6_init_24 rfl (lv_at hl 1 rfl) ?_
  refine g_invI (As := [.ref sc]) (rest := [.ref nw20, .ref va]) (gs' := (fun u : Nat × Nat × Nat × Nat => [[(va, .inr (6, [.ref sc, .null, .int (iI 0), .int (iI 0), .int (iI 0), .int (iI 0), .int (iI 0), .int (iI 0), .int (iI 0), .int (iI (-1)), .long (iL 0)]))], gRay K nw20 u.1 u.2.1 u.2.2.1 u.2.2.2 sc 0 0 0 0 0 0 0 0 0 0 0 0 0 (fun _ => 0) (fun _ => 0) (fun _ => 0) (fun _ => 0)])) S C hG [1] (c_X4_init l K nw20 sc) rfl rfl (cwI 1 S.2.2.2.2 gX6_init_X4_init rfl rfl rfl (S.2.2.2.2 _ (List.mem_of_getElem? (i := 9) rfl)) (S.2.2.2.2 _ (List.mem_of_getElem? (i := 11) rfl)) (S.2.2.2.2 _ (List.mem_of_getElem? (i := 12) rfl)) rfl (by decide +kernel) ⟨Nat.le_of_ble_eq_true rfl, Nat.le_of_ble_eq_true rfl⟩) rfl hl.1 rfl (Nat.le_of_ble_eq_true rfl) dX6_init_25 ⟨Nat.le_of_ble_eq_true rfl, Nat.le_of_ble_eq_true rfl⟩ (fun _ => Nat.le_of_ble_eq_true rfl) (fun _ => rfl) (fun u H locs hp hG => ?_)
  obtain ⟨xa_25, sha_25, lea_25, tma_25⟩ := u
  have hG : gW K A s.heap [[(va, .inr (6, [.ref sc, .null, .int (iI 0), .int (iI 0), .int (iI 0), .int (iI 0), .int (iI 0), .int (iI 0), .int (iI 0), .int (iI (-1)), .long (iL 0)]))], gRay K nw20 xa_25 sha_25 lea_25 tma_25 sc 0 0 0 0 0 0 0 0 0 0 0 0 0 (fun _ => 0) (fun _ => 0) (fun _ => 0) (fun _ => 0)] _ _ := hG
  refine g_putF (gs' := [[(va, .inr (6, [.ref sc, .ref nw20, .int (iI 0), .int (iI 0), .int (iI 0), .int (iI 0), .int (iI 0), .int (iI 0), .int (iI 0), .int (iI (-1)), .long (iL 0)]))], gRay K nw20 xa_25 sha_25 lea_25 tma_25 sc 0 0 0 0 0 0 0 0 0 0 0 0 0 (fun _ => 0) (fun _ => 0) (fun _ => 0) (fun _ => 0)]) S C hG iX60 tyX6 tyX6_ok nmX6 0 rfl rfl 1 (by decide) (List.mem_of_getElem? (i := 10) rfl) rfl hin rfl rfl rfl (Nat.le_of_ble_eq_true rfl) rfl dX6_init_28 (fun H locs hG => ?_)
  have hG : gW K A s.heap [gSvyC K va sc nw20 0 0 0 0 0 0 0 (-1) 0, gRay K nw20 xa_25 sha_25 lea_25 tma_25 sc 0 0 0 0 0 0 0 0 0 0 0 0 0 (fun _ => 0) (fun _ => 0) (fun _ => 0) (fun _ => 0)] _ _ := hG
  exact g_vret S hr hlk hQ dX6_init_31 (Nat.le_of_ble_eq_true rfl) (Nat.le_of_ble_eq_true rfl) ((nw20, xa_25, sha_25, lea_25, tma_25) : Nat × Nat × Nat × Nat × Nat) trivial hG
set_option maxHeartbeats 1000000 in
set_option maxRecDepth 100000 in
theorem c_X2_init (l : Launch) (K : KC) (qa : Nat) (tx : Nat) (sc : Nat) : mV l yX2_init wsX2_init 1 24 K [.ref qa, .ref tx, .ref sc] [gNew2 K qa] (fun (u : Unit) => True) (fun (u : Unit) => [gPrsC K qa tx sc 0 0 0 0 0 0 0 (-1)]) 0 0 := by
  refine mV_of cX2_init 3 (by decide) rfl (Nat.le_of_ble_eq_true rfl) ?_
  intro p e s m below meth c A ls Q S C hG hl hr hlk hin hQ
  have S : CallFix p m c cX2_init 3 s ([.ref qa, .ref tx, .ref sc] : List Value).toArray wsX2_init RX2 := S
  have iX20 : ∀ w ∈ wsX20, w ∈ wsX2_init := fun _ h => List.mem_cons_of_mem _ (List.mem_append_right _ (h))
  have hl : lv_has ls 3 [(0, .ref qa), (1, .ref tx), (2, .ref sc)] := hl
  have hG : gW K A s.heap [gNew2 K qa] s.heap [] := hG
  refine lv_aload_n S.1 S.2.1 dX2_init_0 rfl (lv_at hl 0 rfl) ?_
  refine W.objInit S.1 S.2.1 S.2.2.2.1 (S.2.2.2.2 _ (List.mem_of_getElem? (i := 1) rfl)) (S.2.2.2.2 _ (List.mem_of_getElem? (i := 2) rfl)) (S.2.2.2.2 _ (List.mem_of_getElem? (i := 3) rfl)) rfl (by rw [S.2.2.1]; exact hl.1) rfl dX2_init_1 (Nat.le_of_ble_eq_true rfl) (Nat.le_of_ble_eq_true rfl) ?_
  refine W.eq (g2 := F0 m 4 ls []) rfl ?_
  refine lv_aload_n S.1 S.2.1 dX2_init_4 rfl (lv_at hl 0 rfl) ?_
  refine g_iconst S dX2_init_5 ?_
  refine g_put (gs' := [[(qa, .inr (2, [.null, .null, .int (iI 0), .int (iI 0), .int (iI 0), .int (iI 0), .int (iI 0), .int (iI 0), .int (iI 0), .int (iI 0)]))]]) S C hG iX20 tyX2 tyX2_ok nmX2 0 rfl rfl 8 (by decide) (List.mem_of_getElem? (i := 4) rfl) rfl rfl rfl (Nat.le_of_ble_eq_true rfl) rfl dX2_init_6 (fun H locs hG => ?_)
  refine lv_aload_n S.1 S.2.1 dX2_init_9 rfl (lv_at hl 0 rfl) ?_
  refine g_iconst S dX2_init_10 ?_
  refine g_put (gs' := [[(qa, .inr (2, [.null, .null, .int (iI 0), .int (iI 0), .int (iI 0), .int (iI 0), .int (iI 0), .int (iI 0), .int (iI 0), .int (iI (-1))]))]]) S C hG iX20 tyX2 tyX2_ok nmX2 0 rfl rfl 9 (by decide) (List.mem_of_getElem? (i := 5) rfl) rfl rfl rfl (Nat.le_of_ble_eq_true rfl) rfl dX2_init_11 (fun H locs hG => ?_)
  refine lv_aload_n S.1 S.2.1 dX2_init_14 rfl (lv_at hl 0 rfl) ?_
  refine lv_aload_n S.1 S.2.1 dX2_init_15 rfl (lv_at hl 1 rfl) ?_
  refine g_putF (gs' := [[(qa, .inr (2, [.ref tx, .null, .int (iI 0), .int (iI 0), .int (iI 0), .int (iI 0), .int (iI 0), .int (iI 0), .int (iI 0), .int (iI (-1))]))]]) S C hG iX20 tyX2 tyX2_ok nmX2 0 rfl rfl 0 (by decide) (List.mem_of_getElem? (i := 6) rfl) rfl hin rfl rfl rfl (Nat.le_of_ble_eq_true rfl) rfl dX2_init_16 (fun H locs hG => ?_)
  refine lv_aload_n S.1 S.2.1 dX2_init_19 rfl (lv_at hl 0 rfl) ?_
  refine lv_aload_n S.1 S.2.1 dX2_init_20 rfl (lv_at hl 2 rfl) ?_
  refine g_putF (gs' := [[(qa, .inr (2, [.ref tx, .ref sc, .int (iI 0), .int (iI 0), .int (iI 0), .int (iI 0), .int (iI 0), .int (iI 0), .int (iI 0), .int (iI (-1))]))]]) S C hG iX20 tyX2 tyX2_ok nmX2 0 rfl rfl 1 (by decide) (List.mem_of_getElem? (i := 7) rfl) rfl hin rfl rfl rfl (Nat.le_of_ble_eq_true rfl) rfl dX2_init_21 (fun H locs hG => ?_)
  have hG : gW K A s.heap [gPrsC K qa tx sc 0 0 0 0 0 0 0 (-1)] _ _ := hG
  exact g_vret S hr hlk hQ dX2_init_24 (Nat.le_of_ble_eq_true rfl) (Nat.le_of_ble_eq_true rfl) (() : Unit) trivial hG
