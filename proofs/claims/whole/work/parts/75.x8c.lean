set_option maxHeartbeats 1000000 in
set_option maxRecDepth 100000 in
theorem c_X8_slants (l : Launch) (K : KC) (ad : Nat → Nat) (ou : Int) (mi : Int) (bo : Int) (ln : Int) (LF : Int → Int) (sn : Int) (SF : Int → Int) (N : Int → Int) (vl : Int) (vd : Int) (vn : Int) (vf : Int) (vt : Int) (ve : Int) (vg : Int) (vb : Int) (vw : Int) (rz : RU) (zX : Int → Int) (y : Int) (x : Int) (z : Int) (hS : ScOk N ou mi bo ln LF sn SF) (hN : NOk0 N) (hv : -2147483648 ≤ y ∧ y < 2147483648) (hx : x = 0 ∨ x = 1) (hz : -2147483648 ≤ z ∧ z < 2147483648) (hvw : -3000000000 ≤ vw ∧ vw ≤ 3000000000) (hy : 0 ≤ y ∧ y < N 0) (h1 : 0 ≤ z ∧ z ≤ 3) : mG l yX8_slants wsX8_slants 6 142 K [.ref (ad 0), .int (iI y), .int (iI x), .int (iI z)] [gRLC K ad, gSvyC K (ad 10) (ad 3) (ad 53) vl vd vn vf vt ve vg vb vw, gRayU K (ad 53) (ad 54) (ad 55) (ad 56) (ad 57) (ad 3) rz zX, gScn K (ad 3) (ad 14) (ad 15) (ad 16) (ad 17) ou mi bo ln LF sn SF] (fun (v : Value) (u : Int × Int × Int × Int × Int × Int × Int × Int × Int × RU × (Int → Int)) => (v = .int (iI (cntS N y x z (nX N y).toNat))) ∧ (-3000000000 ≤ u.2.2.2.2.2.2.2.2.1 ∧ u.2.2.2.2.2.2.2.2.1 ≤ 3000000000)) (fun (u : Int × Int × Int × Int × Int × Int × Int × Int × Int × RU × (Int → Int)) => [gRLC K ad, gSvyC K (ad 10) (ad 3) (ad 53) u.1 u.2.1 u.2.2.1 u.2.2.2.1 u.2.2.2.2.1 u.2.2.2.2.2.1 u.2.2.2.2.2.2.1 u.2.2.2.2.2.2.2.1 u.2.2.2.2.2.2.2.2.1, gRayU K (ad 53) (ad 54) (ad 55) (ad 56) (ad 57) (ad 3) u.2.2.2.2.2.2.2.2.2.1 u.2.2.2.2.2.2.2.2.2.2, gScn K (ad 3) (ad 14) (ad 15) (ad 16) (ad 17) ou mi bo ln LF sn SF]) 0 0 := by
  refine mG_of cX8_slants 4 (by decide) rfl (Nat.le_of_ble_eq_true rfl) ?_
  intro p e s m below meth c A ls Q S C hG hl hr hlk hin hQ
  have S : CallFix p m c cX8_slants 4 s ([.ref (ad 0), .int (iI y), .int (iI x), .int (iI z)] : List Value).toArray wsX8_slants RX8 := S
  have iX80 : ∀ w ∈ wsX80, w ∈ wsX8_slants := fun _ h => List.mem_cons_of_mem _ (List.mem_append_left _ (List.mem_append_left _ (List.mem_append_left _ (List.mem_append_left _ (List.mem_append_left _ (List.mem_append_left _ (List.mem_append_right _ (h))))))))
  have iX50 : ∀ w ∈ wsX50, w ∈ wsX8_slants := fun _ h => List.mem_cons_of_mem _ (List.mem_append_left _ (List.mem_append_left _ (List.mem_append_left _ (List.mem_append_left _ (List.mem_append_left _ (List.mem_append_right _ (h)))))))
  have iX70 : ∀ w ∈ wsX70, w ∈ wsX8_slants := fun _ h => List.mem_cons_of_mem _ (List.mem_append_left _ (List.mem_append_left _ (List.mem_append_left _ (List.mem_append_left _ (List.mem_append_right _ (h))))))
  have iX60 : ∀ w ∈ wsX60, w ∈ wsX8_slants := fun _ h => List.mem_cons_of_mem _ (List.mem_append_left _ (List.mem_append_left _ (List.mem_append_left _ (List.mem_append_right _ (h)))))
  have iX40 : ∀ w ∈ wsX40, w ∈ wsX8_slants := fun _ h => List.mem_cons_of_mem _ (List.mem_append_left _ (List.mem_append_left _ (List.mem_append_right _ (h))))
  have hl : lv_has ls 4 [(0, .ref (ad 0)), (1, .int (iI y)), (2, .int (iI x)), (3, .int (iI z))] := hl
  have hG : gW K A s.heap [gRLC K ad, gSvyC K (ad 10) (ad 3) (ad 53) vl vd vn vf vt ve vg vb vw, gRayU K (ad 53) (ad 54) (ad 55) (ad 56) (ad 57) (ad 3) rz zX, gScn K (ad 3) (ad 14) (ad 15) (ad 16) (ad 17) ou mi bo ln LF sn SF] s.heap [] := hG
  obtain ⟨e0, e1, e2, e3, e4, e5, e6⟩ := id hS
  have n0 := hN.1
  have n3 := hN.2.2.2.1
  refine lv_aload_n S.1 S.2.1 dX8_slants_0 rfl (lv_at hl 0 rfl) ?_
  refine lv_iload_n S.1 S.2.1 dX8_slants_1 rfl (lv_at hl 1 rfl) ?_
  refine lv_iload_n S.1 S.2.1 dX8_slants_2 rfl (lv_at hl 3 rfl) ?_
  refine g_invVv (As := [.int (iI y), .int (iI z)]) (rest := []) (gs' := (fun u : Unit => [gRLC K ad, gSvyC K (ad 10) (ad 3) (ad 53) vl vd vn vf vt ve vg vb vw, gRayU K (ad 53) (ad 54) (ad 55) (ad 56) (ad 57) (ad 3) rz zX, gScn K (ad 3) (ad 14) (ad 15) (ad 16) (ad 17) ou mi bo ln LF sn SF])) S C hG [0, 3] (c_X8_checkLayerAndEnd l K ad ou mi bo ln LF sn SF N y z hS hN hv hz hy h1) rfl rfl 0 rfl rfl (cwV 2 S.2.2.2.2 gX8_slants_X8_checkLayerAndEnd rfl rfl rfl (by decide +kernel) ⟨Nat.le_of_ble_eq_true rfl, Nat.le_of_ble_eq_true rfl⟩) rfl hl.1 rfl (Nat.le_of_ble_eq_true rfl) dX8_slants_3 ⟨Nat.le_of_ble_eq_true rfl, Nat.le_of_ble_eq_true rfl⟩ (fun _ => Nat.le_of_ble_eq_true rfl) (fun _ => rfl) (fun u H locs hp hG => ?_)
  refine lv_aload_n S.1 S.2.1 dX8_slants_6 rfl (lv_at hl 0 rfl) ?_
  refine g_get S C hG iX80 0 rfl rfl 9 (by decide) (List.mem_of_getElem? (i := 1) rfl) rfl dX8_slants_7 ?_
  refine lv_iload_n S.1 S.2.1 dX8_slants_10 rfl (lv_at hl 1 rfl) ?_
  refine lv_iload_n S.1 S.2.1 dX8_slants_11 rfl (lv_at hl 2 rfl) ?_
  refine lv_iload_n S.1 S.2.1 dX8_slants_12 rfl (lv_at hl 3 rfl) ?_
  refine g_invV (As := [.int (iI y), .int (iI x), .int (iI z)]) (rest := []) (gs' := (fun u : Int × Int × Int × Int × Int × RU × (Int → Int) => [gRLC K ad, gSvyC K (ad 10) (ad 3) (ad 53) y x (nX N y) u.1 u.2.1 u.2.2.1 u.2.2.2.1 u.2.2.2.2.1 vw, gRayU K (ad 53) (ad 54) (ad 55) (ad 56) (ad 57) (ad 3) u.2.2.2.2.2.1 u.2.2.2.2.2.2, gScn K (ad 3) (ad 14) (ad 15) (ad 16) (ad 17) ou mi bo ln LF sn SF])) S C hG [1, 2, 3] (c_X6_countSlants l K (ad 10) vl vd vn vf vt ve vg vb vw (ad 53) (ad 54) (ad 55) (ad 56) (ad 57) (ad 3) rz zX (ad 14) (ad 15) (ad 16) (ad 17) ou mi bo ln LF sn SF N y x z hS hN hy hx (by omega)) rfl rfl 0 rfl rfl (cwV 3 S.2.2.2.2 gX8_slants_X6_countSlants rfl rfl rfl (by decide +kernel) ⟨Nat.le_of_ble_eq_true rfl, Nat.le_of_ble_eq_true rfl⟩) rfl hl.1 rfl (Nat.le_of_ble_eq_true rfl) dX8_slants_13 ⟨Nat.le_of_ble_eq_true rfl, Nat.le_of_ble_eq_true rfl⟩ (fun _ => Nat.le_of_ble_eq_true rfl) (fun _ => rfl) (fun v u H locs hp hG => ?_)
  obtain ⟨uf2_13, ut2_13, ue2_13, ug2_13, ub2_13, rv2_13, X2_13⟩ := u
  obtain ⟨rfl, hE2_13⟩ := hp
  have hE2_13 : EntOk N X2_13 := hE2_13
  have hG : gW K A s.heap [gRLC K ad, gSvyC K (ad 10) (ad 3) (ad 53) y x (nX N y) uf2_13 ut2_13 ue2_13 ug2_13 ub2_13 vw, gRayU K (ad 53) (ad 54) (ad 55) (ad 56) (ad 57) (ad 3) rv2_13 X2_13, gScn K (ad 3) (ad 14) (ad 15) (ad 16) (ad 17) ou mi bo ln LF sn SF] _ _ := hG
  have hG : gW K A s.heap [gRLC K ad, gSvyC K (ad 10) (ad 3) (ad 53) y x (nX N y) uf2_13 ut2_13 ue2_13 ug2_13 ub2_13 vw, gRayU K (ad 53) (ad 54) (ad 55) (ad 56) (ad 57) (ad 3) rv2_13 X2_13, gScn K (ad 3) (ad 14) (ad 15) (ad 16) (ad 17) ou mi bo ln LF sn SF] _ _ := hG
  exact g_iret S hr hlk hQ dX8_slants_16 (Nat.le_of_ble_eq_true rfl) (Nat.le_of_ble_eq_true rfl) ((y, x, nX N y, uf2_13, ut2_13, ue2_13, ug2_13, ub2_13, vw, rv2_13, X2_13) : Int × Int × Int × Int × Int × Int × Int × Int × Int × RU × (Int → Int)) ⟨rfl, hvw⟩ hG

set_option maxHeartbeats 1000000 in
set_option maxRecDepth 100000 in
theorem x1_slants (l : Launch) (K : KC) (ad : Nat → Nat) (ou : Int) (mi : Int) (bo : Int) (ln : Int) (LF : Int → Int) (sn : Int) (SF : Int → Int) (N : Int → Int) (vl : Int) (vd : Int) (vn : Int) (vf : Int) (vt : Int) (ve : Int) (vg : Int) (vb : Int) (vw : Int) (rz : RU) (zX : Int → Int) (y : Int) (x : Int) (z : Int) (hS : ScOk N ou mi bo ln LF sn SF) (hN : NOk0 N) (hv : -2147483648 ≤ y ∧ y < 2147483648) (hx : x = 0 ∨ x = 1) (hz : -2147483648 ≤ z ∧ z < 2147483648) (hvw : -3000000000 ≤ vw ∧ vw ≤ 3000000000) (h0 : ¬ (0 ≤ y ∧ y < N 0)) (hst : l.stackTraces = false) : mX l yX8_slants wsX8_slants 8 125 K [.ref (ad 0), .int (iI y), .int (iI x), .int (iI z)] [gRLC K ad, gSvyC K (ad 10) (ad 3) (ad 53) vl vd vn vf vt ve vg vb vw, gRayU K (ad 53) (ad 54) (ad 55) (ad 56) (ad 57) (ad 3) rz zX, gScn K (ad 3) (ad 14) (ad 15) (ad 16) (ad 17) ou mi bo ln LF sn SF] "java/lang/IndexOutOfBoundsException" (fun (u : Unit) => True) (fun (u : Unit) => [gRLC K ad, gSvyC K (ad 10) (ad 3) (ad 53) vl vd vn vf vt ve vg vb vw, gRayU K (ad 53) (ad 54) (ad 55) (ad 56) (ad 57) (ad 3) rz zX, gScn K (ad 3) (ad 14) (ad 15) (ad 16) (ad 17) ou mi bo ln LF sn SF]) 1 6 := by
  refine mX_of cX8_slants 4 (by decide) rfl (Nat.le_of_ble_eq_true rfl) ?_
  intro p e s m below meth c A ls Q S C hG hl hex hlk hin hQ
  have S : CallFix p m c cX8_slants 4 s ([.ref (ad 0), .int (iI y), .int (iI x), .int (iI z)] : List Value).toArray wsX8_slants RX8 := S
  have iX80 : ∀ w ∈ wsX80, w ∈ wsX8_slants := fun _ h => List.mem_cons_of_mem _ (List.mem_append_left _ (List.mem_append_left _ (List.mem_append_left _ (List.mem_append_left _ (List.mem_append_left _ (List.mem_append_left _ (List.mem_append_right _ (h))))))))
  have iX50 : ∀ w ∈ wsX50, w ∈ wsX8_slants := fun _ h => List.mem_cons_of_mem _ (List.mem_append_left _ (List.mem_append_left _ (List.mem_append_left _ (List.mem_append_left _ (List.mem_append_left _ (List.mem_append_right _ (h)))))))
  have iX70 : ∀ w ∈ wsX70, w ∈ wsX8_slants := fun _ h => List.mem_cons_of_mem _ (List.mem_append_left _ (List.mem_append_left _ (List.mem_append_left _ (List.mem_append_left _ (List.mem_append_right _ (h))))))
  have iX60 : ∀ w ∈ wsX60, w ∈ wsX8_slants := fun _ h => List.mem_cons_of_mem _ (List.mem_append_left _ (List.mem_append_left _ (List.mem_append_left _ (List.mem_append_right _ (h)))))
  have iX40 : ∀ w ∈ wsX40, w ∈ wsX8_slants := fun _ h => List.mem_cons_of_mem _ (List.mem_append_left _ (List.mem_append_left _ (List.mem_append_right _ (h))))
  have hl : lv_has ls 4 [(0, .ref (ad 0)), (1, .int (iI y)), (2, .int (iI x)), (3, .int (iI z))] := hl
  have hG : gW K A s.heap [gRLC K ad, gSvyC K (ad 10) (ad 3) (ad 53) vl vd vn vf vt ve vg vb vw, gRayU K (ad 53) (ad 54) (ad 55) (ad 56) (ad 57) (ad 3) rz zX, gScn K (ad 3) (ad 14) (ad 15) (ad 16) (ad 17) ou mi bo ln LF sn SF] s.heap [] := hG
  obtain ⟨e0, e1, e2, e3, e4, e5, e6⟩ := id hS
  have n0 := hN.1
  have n3 := hN.2.2.2.1
  refine lv_aload_n S.1 S.2.1 dX8_slants_0 rfl (lv_at hl 0 rfl) ?_
  refine lv_iload_n S.1 S.2.1 dX8_slants_1 rfl (lv_at hl 1 rfl) ?_
  refine lv_iload_n S.1 S.2.1 dX8_slants_2 rfl (lv_at hl 3 rfl) ?_
  refine g_xV (E := "java/lang/IndexOutOfBoundsException") (As := [.int (iI y), .int (iI z)]) (rest := []) (gs' := (fun u : Unit => [gRLC K ad, gSvyC K (ad 10) (ad 3) (ad 53) vl vd vn vf vt ve vg vb vw, gRayU K (ad 53) (ad 54) (ad 55) (ad 56) (ad 57) (ad 3) rz zX, gScn K (ad 3) (ad 14) (ad 15) (ad 16) (ad 17) ou mi bo ln LF sn SF])) S C hG [0, 3] (x1_checkLayerAndEnd l K ad ou mi bo ln LF sn SF N y z hS hN hv hz h0 hst) rfl rfl 0 rfl rfl (cwV 2 S.2.2.2.2 gX8_slants_X8_checkLayerAndEnd rfl rfl rfl (by decide +kernel) ⟨Nat.le_of_ble_eq_true rfl, Nat.le_of_ble_eq_true rfl⟩) rfl hl.1 rfl (Nat.le_of_ble_eq_true rfl) dX8_slants_3 ⟨Nat.le_of_ble_eq_true rfl, Nat.le_of_ble_eq_true rfl⟩ (fun _ => Nat.le_of_ble_eq_true rfl) (fun _ => rfl) (fun u q9 ce9 H locs hp hG hq9 hv9 hcl9 => ?_)
  have hG : gW K A s.heap [gRLC K ad, gSvyC K (ad 10) (ad 3) (ad 53) vl vd vn vf vt ve vg vb vw, gRayU K (ad 53) (ad 54) (ad 55) (ad 56) (ad 57) (ad 3) rz zX, gScn K (ad 3) (ad 14) (ad 15) (ad 16) (ad 17) ou mi bo ln LF sn SF] _ _ := hG
  exact g_xout hQ hex hlk hq9 hv9 hcl9 (Nat.le_of_ble_eq_true rfl) (Nat.le_of_ble_eq_true rfl) (() : Unit) trivial hG

set_option maxHeartbeats 1000000 in
set_option maxRecDepth 100000 in
theorem x2_slants (l : Launch) (K : KC) (ad : Nat → Nat) (ou : Int) (mi : Int) (bo : Int) (ln : Int) (LF : Int → Int) (sn : Int) (SF : Int → Int) (N : Int → Int) (vl : Int) (vd : Int) (vn : Int) (vf : Int) (vt : Int) (ve : Int) (vg : Int) (vb : Int) (vw : Int) (rz : RU) (zX : Int → Int) (y : Int) (x : Int) (z : Int) (hS : ScOk N ou mi bo ln LF sn SF) (hN : NOk0 N) (hv : -2147483648 ≤ y ∧ y < 2147483648) (hx : x = 0 ∨ x = 1) (hz : -2147483648 ≤ z ∧ z < 2147483648) (hvw : -3000000000 ≤ vw ∧ vw ≤ 3000000000) (hy : 0 ≤ y ∧ y < N 0) (h1 : ¬ (0 ≤ z ∧ z ≤ 3)) (hst : l.stackTraces = false) : mX l yX8_slants wsX8_slants 8 126 K [.ref (ad 0), .int (iI y), .int (iI x), .int (iI z)] [gRLC K ad, gSvyC K (ad 10) (ad 3) (ad 53) vl vd vn vf vt ve vg vb vw, gRayU K (ad 53) (ad 54) (ad 55) (ad 56) (ad 57) (ad 3) rz zX, gScn K (ad 3) (ad 14) (ad 15) (ad 16) (ad 17) ou mi bo ln LF sn SF] "java/lang/IllegalArgumentException" (fun (u : Unit) => True) (fun (u : Unit) => [gRLC K ad, gSvyC K (ad 10) (ad 3) (ad 53) vl vd vn vf vt ve vg vb vw, gRayU K (ad 53) (ad 54) (ad 55) (ad 56) (ad 57) (ad 3) rz zX, gScn K (ad 3) (ad 14) (ad 15) (ad 16) (ad 17) ou mi bo ln LF sn SF]) 1 6 := by
  refine mX_of cX8_slants 4 (by decide) rfl (Nat.le_of_ble_eq_true rfl) ?_
  intro p e s m below meth c A ls Q S C hG hl hex hlk hin hQ
  have S : CallFix p m c cX8_slants 4 s ([.ref (ad 0), .int (iI y), .int (iI x), .int (iI z)] : List Value).toArray wsX8_slants RX8 := S
  have iX80 : ∀ w ∈ wsX80, w ∈ wsX8_slants := fun _ h => List.mem_cons_of_mem _ (List.mem_append_left _ (List.mem_append_left _ (List.mem_append_left _ (List.mem_append_left _ (List.mem_append_left _ (List.mem_append_left _ (List.mem_append_right _ (h))))))))
  have iX50 : ∀ w ∈ wsX50, w ∈ wsX8_slants := fun _ h => List.mem_cons_of_mem _ (List.mem_append_left _ (List.mem_append_left _ (List.mem_append_left _ (List.mem_append_left _ (List.mem_append_left _ (List.mem_append_right _ (h)))))))
  have iX70 : ∀ w ∈ wsX70, w ∈ wsX8_slants := fun _ h => List.mem_cons_of_mem _ (List.mem_append_left _ (List.mem_append_left _ (List.mem_append_left _ (List.mem_append_left _ (List.mem_append_right _ (h))))))
  have iX60 : ∀ w ∈ wsX60, w ∈ wsX8_slants := fun _ h => List.mem_cons_of_mem _ (List.mem_append_left _ (List.mem_append_left _ (List.mem_append_left _ (List.mem_append_right _ (h)))))
  have iX40 : ∀ w ∈ wsX40, w ∈ wsX8_slants := fun _ h => List.mem_cons_of_mem _ (List.mem_append_left _ (List.mem_append_left _ (List.mem_append_right _ (h))))
  have hl : lv_has ls 4 [(0, .ref (ad 0)), (1, .int (iI y)), (2, .int (iI x)), (3, .int (iI z))] := hl
  have hG : gW K A s.heap [gRLC K ad, gSvyC K (ad 10) (ad 3) (ad 53) vl vd vn vf vt ve vg vb vw, gRayU K (ad 53) (ad 54) (ad 55) (ad 56) (ad 57) (ad 3) rz zX, gScn K (ad 3) (ad 14) (ad 15) (ad 16) (ad 17) ou mi bo ln LF sn SF] s.heap [] := hG
  obtain ⟨e0, e1, e2, e3, e4, e5, e6⟩ := id hS
  have n0 := hN.1
  have n3 := hN.2.2.2.1
  refine lv_aload_n S.1 S.2.1 dX8_slants_0 rfl (lv_at hl 0 rfl) ?_
  refine lv_iload_n S.1 S.2.1 dX8_slants_1 rfl (lv_at hl 1 rfl) ?_
  refine lv_iload_n S.1 S.2.1 dX8_slants_2 rfl (lv_at hl 3 rfl) ?_
  refine g_xV (E := "java/lang/IllegalArgumentException") (As := [.int (iI y), .int (iI z)]) (rest := []) (gs' := (fun u : Unit => [gRLC K ad, gSvyC K (ad 10) (ad 3) (ad 53) vl vd vn vf vt ve vg vb vw, gRayU K (ad 53) (ad 54) (ad 55) (ad 56) (ad 57) (ad 3) rz zX, gScn K (ad 3) (ad 14) (ad 15) (ad 16) (ad 17) ou mi bo ln LF sn SF])) S C hG [0, 3] (x2_checkLayerAndEnd l K ad ou mi bo ln LF sn SF N y z hS hN hv hz hy h1 hst) rfl rfl 0 rfl rfl (cwV 2 S.2.2.2.2 gX8_slants_X8_checkLayerAndEnd rfl rfl rfl (by decide +kernel) ⟨Nat.le_of_ble_eq_true rfl, Nat.le_of_ble_eq_true rfl⟩) rfl hl.1 rfl (Nat.le_of_ble_eq_true rfl) dX8_slants_3 ⟨Nat.le_of_ble_eq_true rfl, Nat.le_of_ble_eq_true rfl⟩ (fun _ => Nat.le_of_ble_eq_true rfl) (fun _ => rfl) (fun u q9 ce9 H locs hp hG hq9 hv9 hcl9 => ?_)
  have hG : gW K A s.heap [gRLC K ad, gSvyC K (ad 10) (ad 3) (ad 53) vl vd vn vf vt ve vg vb vw, gRayU K (ad 53) (ad 54) (ad 55) (ad 56) (ad 57) (ad 3) rz zX, gScn K (ad 3) (ad 14) (ad 15) (ad 16) (ad 17) ou mi bo ln LF sn SF] _ _ := hG
  exact g_xout hQ hex hlk hq9 hv9 hcl9 (Nat.le_of_ble_eq_true rfl) (Nat.le_of_ble_eq_true rfl) (() : Unit) trivial hG

set_option maxHeartbeats 1000000 in
set_option maxRecDepth 100000 in
theorem c_X8_leastSlant (l : Launch) (K : KC) (ad : Nat → Nat) (ou : Int) (mi : Int) (bo : Int) (ln : Int) (LF : Int → Int) (sn : Int) (SF : Int → Int) (N : Int → Int) (vl : Int) (vd : Int) (vn : Int) (vf : Int) (vt : Int) (ve : Int) (vg : Int) (vb : Int) (vw : Int) (rz : RU) (zX : Int → Int) (y : Int) (x : Int) (z : Int) (hS : ScOk N ou mi bo ln LF sn SF) (hN : NOk0 N) (hv : -2147483648 ≤ y ∧ y < 2147483648) (hx : x = 0 ∨ x = 1) (hz : -2147483648 ≤ z ∧ z < 2147483648) (hvw : -3000000000 ≤ vw ∧ vw ≤ 3000000000) (hy : 0 ≤ y ∧ y < N 0) (h1 : 0 ≤ z ∧ z ≤ 3) : mG l yX8_leastSlant wsX8_leastSlant 6 141 K [.ref (ad 0), .int (iI y), .int (iI x), .int (iI z)] [gRLC K ad, gSvyC K (ad 10) (ad 3) (ad 53) vl vd vn vf vt ve vg vb vw, gRayU K (ad 53) (ad 54) (ad 55) (ad 56) (ad 57) (ad 3) rz zX, gScn K (ad 3) (ad 14) (ad 15) (ad 16) (ad 17) ou mi bo ln LF sn SF] (fun (v : Value) (u : Int × Int × Int × Int × Int × Int × Int × Int × Int × Int × RU × (Int → Int)) => (v = .int (iI u.1)) ∧ (LowR N y x z u.1) ∧ (-3000000000 ≤ u.2.2.2.2.2.2.2.2.2.1 ∧ u.2.2.2.2.2.2.2.2.2.1 ≤ 3000000000)) (fun (u : Int × Int × Int × Int × Int × Int × Int × Int × Int × Int × RU × (Int → Int)) => [gRLC K ad, gSvyC K (ad 10) (ad 3) (ad 53) u.2.1 u.2.2.1 u.2.2.2.1 u.2.2.2.2.1 u.2.2.2.2.2.1 u.2.2.2.2.2.2.1 u.2.2.2.2.2.2.2.1 u.2.2.2.2.2.2.2.2.1 u.2.2.2.2.2.2.2.2.2.1, gRayU K (ad 53) (ad 54) (ad 55) (ad 56) (ad 57) (ad 3) u.2.2.2.2.2.2.2.2.2.2.1 u.2.2.2.2.2.2.2.2.2.2.2, gScn K (ad 3) (ad 14) (ad 15) (ad 16) (ad 17) ou mi bo ln LF sn SF]) 0 0 := by
  refine mG_of cX8_leastSlant 4 (by decide) rfl (Nat.le_of_ble_eq_true rfl) ?_
  intro p e s m below meth c A ls Q S C hG hl hr hlk hin hQ
  have S : CallFix p m c cX8_leastSlant 4 s ([.ref (ad 0), .int (iI y), .int (iI x), .int (iI z)] : List Value).toArray wsX8_leastSlant RX8 := S
  have iX80 : ∀ w ∈ wsX80, w ∈ wsX8_leastSlant := fun _ h => List.mem_cons_of_mem _ (List.mem_append_left _ (List.mem_append_left _ (List.mem_append_left _ (List.mem_append_left _ (List.mem_append_left _ (List.mem_append_left _ (List.mem_append_right _ (h))))))))
  have iX50 : ∀ w ∈ wsX50, w ∈ wsX8_leastSlant := fun _ h => List.mem_cons_of_mem _ (List.mem_append_left _ (List.mem_append_left _ (List.mem_append_left _ (List.mem_append_left _ (List.mem_append_left _ (List.mem_append_right _ (h)))))))
  have iX70 : ∀ w ∈ wsX70, w ∈ wsX8_leastSlant := fun _ h => List.mem_cons_of_mem _ (List.mem_append_left _ (List.mem_append_left _ (List.mem_append_left _ (List.mem_append_left _ (List.mem_append_right _ (h))))))
  have iX60 : ∀ w ∈ wsX60, w ∈ wsX8_leastSlant := fun _ h => List.mem_cons_of_mem _ (List.mem_append_left _ (List.mem_append_left _ (List.mem_append_left _ (List.mem_append_right _ (h)))))
  have iX40 : ∀ w ∈ wsX40, w ∈ wsX8_leastSlant := fun _ h => List.mem_cons_of_mem _ (List.mem_append_left _ (List.mem_append_left _ (List.mem_append_right _ (h))))
  have hl : lv_has ls 4 [(0, .ref (ad 0)), (1, .int (iI y)), (2, .int (iI x)), (3, .int (iI z))] := hl
  have hG : gW K A s.heap [gRLC K ad, gSvyC K (ad 10) (ad 3) (ad 53) vl vd vn vf vt ve vg vb vw, gRayU K (ad 53) (ad 54) (ad 55) (ad 56) (ad 57) (ad 3) rz zX, gScn K (ad 3) (ad 14) (ad 15) (ad 16) (ad 17) ou mi bo ln LF sn SF] s.heap [] := hG
  obtain ⟨e0, e1, e2, e3, e4, e5, e6⟩ := id hS
  have n0 := hN.1
  have n3 := hN.2.2.2.1
  refine lv_aload_n S.1 S.2.1 dX8_leastSlant_0 rfl (lv_at hl 0 rfl) ?_
  refine lv_iload_n S.1 S.2.1 dX8_leastSlant_1 rfl (lv_at hl 1 rfl) ?_
  refine lv_iload_n S.1 S.2.1 dX8_leastSlant_2 rfl (lv_at hl 3 rfl) ?_
  refine g_invVv (As := [.int (iI y), .int (iI z)]) (rest := []) (gs' := (fun u : Unit => [gRLC K ad, gSvyC K (ad 10) (ad 3) (ad 53) vl vd vn vf vt ve vg vb vw, gRayU K (ad 53) (ad 54) (ad 55) (ad 56) (ad 57) (ad 3) rz zX, gScn K (ad 3) (ad 14) (ad 15) (ad 16) (ad 17) ou mi bo ln LF sn SF])) S C hG [0, 3] (c_X8_checkLayerAndEnd l K ad ou mi bo ln LF sn SF N y z hS hN hv hz hy h1) rfl rfl 0 rfl rfl (cwV 2 S.2.2.2.2 gX8_leastSlant_X8_checkLayerAndEnd rfl rfl rfl (by decide +kernel) ⟨Nat.le_of_ble_eq_true rfl, Nat.le_of_ble_eq_true rfl⟩) rfl hl.1 rfl (Nat.le_of_ble_eq_true rfl) dX8_leastSlant_3 ⟨Nat.le_of_ble_eq_true rfl, Nat.le_of_ble_eq_true rfl⟩ (fun _ => Nat.le_of_ble_eq_true rfl) (fun _ => rfl) (fun u H locs hp hG => ?_)
  refine lv_aload_n S.1 S.2.1 dX8_leastSlant_6 rfl (lv_at hl 0 rfl) ?_
  refine g_get S C hG iX80 0 rfl rfl 9 (by decide) (List.mem_of_getElem? (i := 1) rfl) rfl dX8_leastSlant_7 ?_
  refine lv_iload_n S.1 S.2.1 dX8_leastSlant_10 rfl (lv_at hl 1 rfl) ?_
  refine lv_iload_n S.1 S.2.1 dX8_leastSlant_11 rfl (lv_at hl 2 rfl) ?_
  refine lv_iload_n S.1 S.2.1 dX8_leastSlant_12 rfl (lv_at hl 3 rfl) ?_
  refine g_invV (As := [.int (iI y), .int (iI x), .int (iI z)]) (rest := []) (gs' := (fun u : Int × Int × Int × Int × Int × Int × RU × (Int → Int) => [gRLC K ad, gSvyC K (ad 10) (ad 3) (ad 53) y x (nX N y) u.2.1 u.2.2.1 u.2.2.2.1 u.2.2.2.2.1 u.2.2.2.2.2.1 vw, gRayU K (ad 53) (ad 54) (ad 55) (ad 56) (ad 57) (ad 3) u.2.2.2.2.2.2.1 u.2.2.2.2.2.2.2, gScn K (ad 3) (ad 14) (ad 15) (ad 16) (ad 17) ou mi bo ln LF sn SF])) S C hG [1, 2, 3] (c_X6_lowestSlant l K (ad 10) vl vd vn vf vt ve vg vb vw (ad 53) (ad 54) (ad 55) (ad 56) (ad 57) (ad 3) rz zX (ad 14) (ad 15) (ad 16) (ad 17) ou mi bo ln LF sn SF N y x z hS hN hy hx (by omega)) rfl rfl 0 rfl rfl (cwV 3 S.2.2.2.2 gX8_leastSlant_X6_lowestSlant rfl rfl rfl (by decide +kernel) ⟨Nat.le_of_ble_eq_true rfl, Nat.le_of_ble_eq_true rfl⟩) rfl hl.1 rfl (Nat.le_of_ble_eq_true rfl) dX8_leastSlant_13 ⟨Nat.le_of_ble_eq_true rfl, Nat.le_of_ble_eq_true rfl⟩ (fun _ => Nat.le_of_ble_eq_true rfl) (fun _ => rfl) (fun v u H locs hp hG => ?_)
  obtain ⟨r_13, uf2_13, ut2_13, ue2_13, ug2_13, ub2_13, rv2_13, X2_13⟩ := u
  obtain ⟨rfl, hE2_13, hr_13⟩ := hp
  have hE2_13 : EntOk N X2_13 := hE2_13
  have hr_13 : LowR N y x z r_13 := hr_13
  have hG : gW K A s.heap [gRLC K ad, gSvyC K (ad 10) (ad 3) (ad 53) y x (nX N y) uf2_13 ut2_13 ue2_13 ug2_13 ub2_13 vw, gRayU K (ad 53) (ad 54) (ad 55) (ad 56) (ad 57) (ad 3) rv2_13 X2_13, gScn K (ad 3) (ad 14) (ad 15) (ad 16) (ad 17) ou mi bo ln LF sn SF] _ _ := hG
  have hG : gW K A s.heap [gRLC K ad, gSvyC K (ad 10) (ad 3) (ad 53) y x (nX N y) uf2_13 ut2_13 ue2_13 ug2_13 ub2_13 vw, gRayU K (ad 53) (ad 54) (ad 55) (ad 56) (ad 57) (ad 3) rv2_13 X2_13, gScn K (ad 3) (ad 14) (ad 15) (ad 16) (ad 17) ou mi bo ln LF sn SF] _ _ := hG
  exact g_iret S hr hlk hQ dX8_leastSlant_16 (Nat.le_of_ble_eq_true rfl) (Nat.le_of_ble_eq_true rfl) ((r_13, y, x, nX N y, uf2_13, ut2_13, ue2_13, ug2_13, ub2_13, vw, rv2_13, X2_13) : Int × Int × Int × Int × Int × Int × Int × Int × Int × Int × RU × (Int → Int)) ⟨rfl, hr_13, hvw⟩ hG

set_option maxHeartbeats 1000000 in
set_option maxRecDepth 100000 in
theorem x1_leastSlant (l : Launch) (K : KC) (ad : Nat → Nat) (ou : Int) (mi : Int) (bo : Int) (ln : Int) (LF : Int → Int) (sn : Int) (SF : Int → Int) (N : Int → Int) (vl : Int) (vd : Int) (vn : Int) (vf : Int) (vt : Int) (ve : Int) (vg : Int) (vb : Int) (vw : Int) (rz : RU) (zX : Int → Int) (y : Int) (x : Int) (z : Int) (hS : ScOk N ou mi bo ln LF sn SF) (hN : NOk0 N) (hv : -2147483648 ≤ y ∧ y < 2147483648) (hx : x = 0 ∨ x = 1) (hz : -2147483648 ≤ z ∧ z < 2147483648) (hvw : -3000000000 ≤ vw ∧ vw ≤ 3000000000) (h0 : ¬ (0 ≤ y ∧ y < N 0)) (hst : l.stackTraces = false) : mX l yX8_leastSlant wsX8_leastSlant 8 125 K [.ref (ad 0), .int (iI y), .int (iI x), .int (iI z)] [gRLC K ad, gSvyC K (ad 10) (ad 3) (ad 53) vl vd vn vf vt ve vg vb vw, gRayU K (ad 53) (ad 54) (ad 55) (ad 56) (ad 57) (ad 3) rz zX, gScn K (ad 3) (ad 14) (ad 15) (ad 16) (ad 17) ou mi bo ln LF sn SF] "java/lang/IndexOutOfBoundsException" (fun (u : Unit) => True) (fun (u : Unit) => [gRLC K ad, gSvyC K (ad 10) (ad 3) (ad 53) vl vd vn vf vt ve vg vb vw, gRayU K (ad 53) (ad 54) (ad 55) (ad 56) (ad 57) (ad 3) rz zX, gScn K (ad 3) (ad 14) (ad 15) (ad 16) (ad 17) ou mi bo ln LF sn SF]) 1 6 := by
  refine mX_of cX8_leastSlant 4 (by decide) rfl (Nat.le_of_ble_eq_true rfl) ?_
  intro p e s m below meth c A ls Q S C hG hl hex hlk hin hQ
  have S : CallFix p m c cX8_leastSlant 4 s ([.ref (ad 0), .int (iI y), .int (iI x), .int (iI z)] : List Value).toArray wsX8_leastSlant RX8 := S
  have iX80 : ∀ w ∈ wsX80, w ∈ wsX8_leastSlant := fun _ h => List.mem_cons_of_mem _ (List.mem_append_left _ (List.mem_append_left _ (List.mem_append_left _ (List.mem_append_left _ (List.mem_append_left _ (List.mem_append_left _ (List.mem_append_right _ (h))))))))
  have iX50 : ∀ w ∈ wsX50, w ∈ wsX8_leastSlant := fun _ h => List.mem_cons_of_mem _ (List.mem_append_left _ (List.mem_append_left _ (List.mem_append_left _ (List.mem_append_left _ (List.mem_append_left _ (List.mem_append_right _ (h)))))))
  have iX70 : ∀ w ∈ wsX70, w ∈ wsX8_leastSlant := fun _ h => List.mem_cons_of_mem _ (List.mem_append_left _ (List.mem_append_left _ (List.mem_append_left _ (List.mem_append_left _ (List.mem_append_right _ (h))))))
  have iX60 : ∀ w ∈ wsX60, w ∈ wsX8_leastSlant := fun _ h => List.mem_cons_of_mem _ (List.mem_append_left _ (List.mem_append_left _ (List.mem_append_left _ (List.mem_append_right _ (h)))))
  have iX40 : ∀ w ∈ wsX40, w ∈ wsX8_leastSlant := fun _ h => List.mem_cons_of_mem _ (List.mem_append_left _ (List.mem_append_left _ (List.mem_append_right _ (h))))
  have hl : lv_has ls 4 [(0, .ref (ad 0)), (1, .int (iI y)), (2, .int (iI x)), (3, .int (iI z))] := hl
  have hG : gW K A s.heap [gRLC K ad, gSvyC K (ad 10) (ad 3) (ad 53) vl vd vn vf vt ve vg vb vw, gRayU K (ad 53) (ad 54) (ad 55) (ad 56) (ad 57) (ad 3) rz zX, gScn K (ad 3) (ad 14) (ad 15) (ad 16) (ad 17) ou mi bo ln LF sn SF] s.heap [] := hG
  obtain ⟨e0, e1, e2, e3, e4, e5, e6⟩ := id hS
  have n0 := hN.1
  have n3 := hN.2.2.2.1
  refine lv_aload_n S.1 S.2.1 dX8_leastSlant_0 rfl (lv_at hl 0 rfl) ?_
  refine lv_iload_n S.1 S.2.1 dX8_leastSlant_1 rfl (lv_at hl 1 rfl) ?_
  refine lv_iload_n S.1 S.2.1 dX8_leastSlant_2 rfl (lv_at hl 3 rfl) ?_
  refine g_xV (E := "java/lang/IndexOutOfBoundsException") (As := [.int (iI y), .int (iI z)]) (rest := []) (gs' := (fun u : Unit => [gRLC K ad, gSvyC K (ad 10) (ad 3) (ad 53) vl vd vn vf vt ve vg vb vw, gRayU K (ad 53) (ad 54) (ad 55) (ad 56) (ad 57) (ad 3) rz zX, gScn K (ad 3) (ad 14) (ad 15) (ad 16) (ad 17) ou mi bo ln LF sn SF])) S C hG [0, 3] (x1_checkLayerAndEnd l K ad ou mi bo ln LF sn SF N y z hS hN hv hz h0 hst) rfl rfl 0 rfl rfl (cwV 2 S.2.2.2.2 gX8_leastSlant_X8_checkLayerAndEnd rfl rfl rfl (by decide +kernel) ⟨Nat.le_of_ble_eq_true rfl, Nat.le_of_ble_eq_true rfl⟩) rfl hl.1 rfl (Nat.le_of_ble_eq_true rfl) dX8_leastSlant_3 ⟨Nat.le_of_ble_eq_true rfl, Nat.le_of_ble_eq_true rfl⟩ (fun _ => Nat.le_of_ble_eq_true rfl) (fun _ => rfl) (fun u q9 ce9 H locs hp hG hq9 hv9 hcl9 => ?_)
  have hG : gW K A s.heap [gRLC K ad, gSvyC K (ad 10) (ad 3) (ad 53) vl vd vn vf vt ve vg vb vw, gRayU K (ad 53) (ad 54) (ad 55) (ad 56) (ad 57) (ad 3) rz zX, gScn K (ad 3) (ad 14) (ad 15) (ad 16) (ad 17) ou mi bo ln LF sn SF] _ _ := hG
  exact g_xout hQ hex hlk hq9 hv9 hcl9 (Nat.le_of_ble_eq_true rfl) (Nat.le_of_ble_eq_true rfl) (() : Unit) trivial hG

set_option maxHeartbeats 1000000 in
set_option maxRecDepth 100000 in
theorem x2_leastSlant (l : Launch) (K : KC) (ad : Nat → Nat) (ou : Int) (mi : Int) (bo : Int) (ln : Int) (LF : Int → Int) (sn : Int) (SF : Int → Int) (N : Int → Int) (vl : Int) (vd : Int) (vn : Int) (vf : Int) (vt : Int) (ve : Int) (vg : Int) (vb : Int) (vw : Int) (rz : RU) (zX : Int → Int) (y : Int) (x : Int) (z : Int) (hS : ScOk N ou mi bo ln LF sn SF) (hN : NOk0 N) (hv : -2147483648 ≤ y ∧ y < 2147483648) (hx : x = 0 ∨ x = 1) (hz : -2147483648 ≤ z ∧ z < 2147483648) (hvw : -3000000000 ≤ vw ∧ vw ≤ 3000000000) (hy : 0 ≤ y ∧ y < N 0) (h1 : ¬ (0 ≤ z ∧ z ≤ 3)) (hst : l.stackTraces = false) : mX l yX8_leastSlant wsX8_leastSlant 8 126 K [.ref (ad 0), .int (iI y), .int (iI x), .int (iI z)] [gRLC K ad, gSvyC K (ad 10) (ad 3) (ad 53) vl vd vn vf vt ve vg vb vw, gRayU K (ad 53) (ad 54) (ad 55) (ad 56) (ad 57) (ad 3) rz zX, gScn K (ad 3) (ad 14) (ad 15) (ad 16) (ad 17) ou mi bo ln LF sn SF] "java/lang/IllegalArgumentException" (fun (u : Unit) => True) (fun (u : Unit) => [gRLC K ad, gSvyC K (ad 10) (ad 3) (ad 53) vl vd vn vf vt ve vg vb vw, gRayU K (ad 53) (ad 54) (ad 55) (ad 56) (ad 57) (ad 3) rz zX, gScn K (ad 3) (ad 14) (ad 15) (ad 16) (ad 17) ou mi bo ln LF sn SF]) 1 6 := by
  refine mX_of cX8_leastSlant 4 (by decide) rfl (Nat.le_of_ble_eq_true rfl) ?_
  intro p e s m below meth c A ls Q S C hG hl hex hlk hin hQ
  have S : CallFix p m c cX8_leastSlant 4 s ([.ref (ad 0), .int (iI y), .int (iI x), .int (iI z)] : List Value).toArray wsX8_leastSlant RX8 := S
  have iX80 : ∀ w ∈ wsX80, w ∈ wsX8_leastSlant := fun _ h => List.mem_cons_of_mem _ (List.mem_append_left _ (List.mem_append_left _ (List.mem_append_left _ (List.mem_append_left _ (List.mem_append_left _ (List.mem_append_left _ (List.mem_append_right _ (h))))))))
  have iX50 : ∀ w ∈ wsX50, w ∈ wsX8_leastSlant := fun _ h => List.mem_cons_of_mem _ (List.mem_append_left _ (List.mem_append_left _ (List.mem_append_left _ (List.mem_append_left _ (List.mem_append_left _ (List.mem_append_right _ (h)))))))
  have iX70 : ∀ w ∈ wsX70, w ∈ wsX8_leastSlant := fun _ h => List.mem_cons_of_mem _ (List.mem_append_left _ (List.mem_append_left _ (List.mem_append_left _ (List.mem_append_left _ (List.mem_append_right _ (h))))))
  have iX60 : ∀ w ∈ wsX60, w ∈ wsX8_leastSlant := fun _ h => List.mem_cons_of_mem _ (List.mem_append_left _ (List.mem_append_left _ (List.mem_append_left _ (List.mem_append_right _ (h)))))
  have iX40 : ∀ w ∈ wsX40, w ∈ wsX8_leastSlant := fun _ h => List.mem_cons_of_mem _ (List.mem_append_left _ (List.mem_append_left _ (List.mem_append_right _ (h))))
  have hl : lv_has ls 4 [(0, .ref (ad 0)), (1, .int (iI y)), (2, .int (iI x)), (3, .int (iI z))] := hl
  have hG : gW K A s.heap [gRLC K ad, gSvyC K (ad 10) (ad 3) (ad 53) vl vd vn vf vt ve vg vb vw, gRayU K (ad 53) (ad 54) (ad 55) (ad 56) (ad 57) (ad 3) rz zX, gScn K (ad 3) (ad 14) (ad 15) (ad 16) (ad 17) ou mi bo ln LF sn SF] s.heap [] := hG
  obtain ⟨e0, e1, e2, e3, e4, e5, e6⟩ := id hS
  have n0 := hN.1
  have n3 := hN.2.2.2.1
  refine lv_aload_n S.1 S.2.1 dX8_leastSlant_0 rfl (lv_at hl 0 rfl) ?_
  refine lv_iload_n S.1 S.2.1 dX8_leastSlant_1 rfl (lv_at hl 1 rfl) ?_
  refine lv_iload_n S.1 S.2.1 dX8_leastSlant_2 rfl (lv_at hl 3 rfl) ?_
  refine g_xV (E := "java/lang/IllegalArgumentException") (As := [.int (iI y), .int (iI z)]) (rest := []) (gs' := (fun u : Unit => [gRLC K ad, gSvyC K (ad 10) (ad 3) (ad 53) vl vd vn vf vt ve vg vb vw, gRayU K (ad 53) (ad 54) (ad 55) (ad 56) (ad 57) (ad 3) rz zX, gScn K (ad 3) (ad 14) (ad 15) (ad 16) (ad 17) ou mi bo ln LF sn SF])) S C hG [0, 3] (x2_checkLayerAndEnd l K ad ou mi bo ln LF sn SF N y z hS hN hv hz hy h1 hst) rfl rfl 0 rfl rfl (cwV 2 S.2.2.2.2 gX8_leastSlant_X8_checkLayerAndEnd rfl rfl rfl (by decide +kernel) ⟨Nat.le_of_ble_eq_true rfl, Nat.le_of_ble_eq_true rfl⟩) rfl hl.1 rfl (Nat.le_of_ble_eq_true rfl) dX8_leastSlant_3 ⟨Nat.le_of_ble_eq_true rfl, Nat.le_of_ble_eq_true rfl⟩ (fun _ => Nat.le_of_ble_eq_true rfl) (fun _ => rfl) (fun u q9 ce9 H locs hp hG hq9 hv9 hcl9 => ?_)
  have hG : gW K A s.heap [gRLC K ad, gSvyC K (ad 10) (ad 3) (ad 53) vl vd vn vf vt ve vg vb vw, gRayU K (ad 53) (ad 54) (ad 55) (ad 56) (ad 57) (ad 3) rz zX, gScn K (ad 3) (ad 14) (ad 15) (ad 16) (ad 17) ou mi bo ln LF sn SF] _ _ := hG
  exact g_xout hQ hex hlk hq9 hv9 hcl9 (Nat.le_of_ble_eq_true rfl) (Nat.le_of_ble_eq_true rfl) (() : Unit) trivial hG

set_option maxHeartbeats 1000000 in
set_option maxRecDepth 100000 in
theorem c_X8_slantFor (l : Launch) (K : KC) (ad : Nat → Nat) (ou : Int) (mi : Int) (bo : Int) (ln : Int) (LF : Int → Int) (sn : Int) (SF : Int → Int) (N : Int → Int) (vl : Int) (vd : Int) (vn : Int) (vf : Int) (vt : Int) (ve : Int) (vg : Int) (vb : Int) (vw : Int) (rz : RU) (zX : Int → Int) (y : Int) (x : Int) (z : Int) (hS : ScOk N ou mi bo ln LF sn SF) (hN : NOk0 N) (hv : -2147483648 ≤ y ∧ y < 2147483648) (hx : x = 0 ∨ x = 1) (hz : -2147483648 ≤ z ∧ z < 2147483648) (hvw : -3000000000 ≤ vw ∧ vw ≤ 3000000000) (hy : 0 ≤ y ∧ y < N 0) (h1 : 0 ≤ z) : mG l yX8_slantFor wsX8_slantFor 7 166 K [.ref (ad 0), .int (iI y), .int (iI x), .int (iI z)] [gRLC K ad, gSvyC K (ad 10) (ad 3) (ad 53) vl vd vn vf vt ve vg vb vw, gRayU K (ad 53) (ad 54) (ad 55) (ad 56) (ad 57) (ad 3) rz zX, gScn K (ad 3) (ad 14) (ad 15) (ad 16) (ad 17) ou mi bo ln LF sn SF] (fun (v : Value) (u : Int × Int × Int × Int × Int × Int × Int × Int × Int × RU × (Int → Int)) => (v = .int (iI u.2.2.2.2.2.2.2.1)) ∧ (BestI N y x 0 (nsG N y x z) True (nX N y) u.2.2.2.2.2.2.2.1 u.2.2.2.2.2.2.2.2.1) ∧ (-3000000000 ≤ u.2.2.2.2.2.2.2.2.1 ∧ u.2.2.2.2.2.2.2.2.1 ≤ 3000000000)) (fun (u : Int × Int × Int × Int × Int × Int × Int × Int × Int × RU × (Int → Int)) => [gRLC K ad, gSvyC K (ad 10) (ad 3) (ad 53) u.1 u.2.1 u.2.2.1 u.2.2.2.1 u.2.2.2.2.1 u.2.2.2.2.2.1 u.2.2.2.2.2.2.1 u.2.2.2.2.2.2.2.1 u.2.2.2.2.2.2.2.2.1, gRayU K (ad 53) (ad 54) (ad 55) (ad 56) (ad 57) (ad 3) u.2.2.2.2.2.2.2.2.2.1 u.2.2.2.2.2.2.2.2.2.2, gScn K (ad 3) (ad 14) (ad 15) (ad 16) (ad 17) ou mi bo ln LF sn SF]) 0 0 := by
  refine mG_of cX8_slantFor 4 (by decide) rfl (Nat.le_of_ble_eq_true rfl) ?_
  intro p e s m below meth c A ls Q S C hG hl hr hlk hin hQ
  have S : CallFix p m c cX8_slantFor 4 s ([.ref (ad 0), .int (iI y), .int (iI x), .int (iI z)] : List Value).toArray wsX8_slantFor RX8 := S
  have iX80 : ∀ w ∈ wsX80, w ∈ wsX8_slantFor := fun _ h => List.mem_cons_of_mem _ (List.mem_append_left _ (List.mem_append_left _ (List.mem_append_left _ (List.mem_append_left _ (List.mem_append_left _ (List.mem_append_left _ (List.mem_append_right _ (h))))))))
  have iX50 : ∀ w ∈ wsX50, w ∈ wsX8_slantFor := fun _ h => List.mem_cons_of_mem _ (List.mem_append_left _ (List.mem_append_left _ (List.mem_append_left _ (List.mem_append_left _ (List.mem_append_left _ (List.mem_append_right _ (h)))))))
  have iX70 : ∀ w ∈ wsX70, w ∈ wsX8_slantFor := fun _ h => List.mem_cons_of_mem _ (List.mem_append_left _ (List.mem_append_left _ (List.mem_append_left _ (List.mem_append_left _ (List.mem_append_right _ (h))))))
  have iX60 : ∀ w ∈ wsX60, w ∈ wsX8_slantFor := fun _ h => List.mem_cons_of_mem _ (List.mem_append_left _ (List.mem_append_left _ (List.mem_append_left _ (List.mem_append_right _ (h)))))
  have iX40 : ∀ w ∈ wsX40, w ∈ wsX8_slantFor := fun _ h => List.mem_cons_of_mem _ (List.mem_append_left _ (List.mem_append_left _ (List.mem_append_right _ (h))))
  have hl : lv_has ls 4 [(0, .ref (ad 0)), (1, .int (iI y)), (2, .int (iI x)), (3, .int (iI z))] := hl
  have hG : gW K A s.heap [gRLC K ad, gSvyC K (ad 10) (ad 3) (ad 53) vl vd vn vf vt ve vg vb vw, gRayU K (ad 53) (ad 54) (ad 55) (ad 56) (ad 57) (ad 3) rz zX, gScn K (ad 3) (ad 14) (ad 15) (ad 16) (ad 17) ou mi bo ln LF sn SF] s.heap [] := hG
  obtain ⟨e0, e1, e2, e3, e4, e5, e6⟩ := id hS
  have n0 := hN.1
  have n3 := hN.2.2.2.1
  refine lv_aload_n S.1 S.2.1 dX8_slantFor_0 rfl (lv_at hl 0 rfl) ?_
  refine lv_iload_n S.1 S.2.1 dX8_slantFor_1 rfl (lv_at hl 1 rfl) ?_
  refine g_invVv (As := [.int (iI y)]) (rest := []) (gs' := (fun u : Unit => [gRLC K ad, gSvyC K (ad 10) (ad 3) (ad 53) vl vd vn vf vt ve vg vb vw, gRayU K (ad 53) (ad 54) (ad 55) (ad 56) (ad 57) (ad 3) rz zX, gScn K (ad 3) (ad 14) (ad 15) (ad 16) (ad 17) ou mi bo ln LF sn SF])) S C hG [0, 3] (c_X8_checkLayer l K ad ou mi bo ln LF sn SF N y hS hN hv hy) rfl rfl 0 rfl rfl (cwV 1 S.2.2.2.2 gX8_slantFor_X8_checkLayer rfl rfl rfl (by decide +kernel) ⟨Nat.le_of_ble_eq_true rfl, Nat.le_of_ble_eq_true rfl⟩) rfl hl.1 rfl (Nat.le_of_ble_eq_true rfl) dX8_slantFor_2 ⟨Nat.le_of_ble_eq_true rfl, Nat.le_of_ble_eq_true rfl⟩ (fun _ => Nat.le_of_ble_eq_true rfl) (fun _ => rfl) (fun u H locs hp hG => ?_)
  refine lv_iload_n S.1 S.2.1 dX8_slantFor_5 rfl (lv_at hl 3 rfl) ?_
  refine g_invSv (As := [.int (iI z)]) (rest := []) (gs' := (fun u : Unit => [gRLC K ad, gSvyC K (ad 10) (ad 3) (ad 53) vl vd vn vf vt ve vg vb vw, gRayU K (ad 53) (ad 54) (ad 55) (ad 56) (ad 57) (ad 3) rz zX, gScn K (ad 3) (ad 14) (ad 15) (ad 16) (ad 17) ou mi bo ln LF sn SF])) S C hG [] (c_X8_checkNotNegative l K z hz h1) rfl rfl (va_cwS 1 S.2.2.2.2 gX8_slantFor_X8_checkNotNegative rfl rfl rfl (by decide +kernel) ⟨Nat.le_of_ble_eq_true rfl, Nat.le_of_ble_eq_true rfl⟩) rfl hl.1 rfl (Nat.le_of_ble_eq_true rfl) dX8_slantFor_6 ⟨Nat.le_of_ble_eq_true rfl, Nat.le_of_ble_eq_true rfl⟩ (fun _ => Nat.le_of_ble_eq_true rfl) (fun _ => rfl) (fun u H locs hp hG => ?_)
  refine lv_aload_n S.1 S.2.1 dX8_slantFor_9 rfl (lv_at hl 0 rfl) ?_
  refine g_get S C hG iX80 0 rfl rfl 9 (by decide) (List.mem_of_getElem? (i := 1) rfl) rfl dX8_slantFor_10 ?_
  refine lv_iload_n S.1 S.2.1 dX8_slantFor_13 rfl (lv_at hl 1 rfl) ?_
  refine lv_iload_n S.1 S.2.1 dX8_slantFor_14 rfl (lv_at hl 2 rfl) ?_
  refine lv_iload_n S.1 S.2.1 dX8_slantFor_15 rfl (lv_at hl 3 rfl) ?_
  refine g_invV (As := [.int (iI y), .int (iI x), .int (iI z)]) (rest := []) (gs' := (fun u : Int × Int × Int × Int × Int × Int × RU × (Int → Int) => [gRLC K ad, gSvyC K (ad 10) (ad 3) (ad 53) y x (nX N y) u.1 u.2.1 u.2.2.1 u.2.2.2.1 u.2.2.2.2.1 u.2.2.2.2.2.1, gRayU K (ad 53) (ad 54) (ad 55) (ad 56) (ad 57) (ad 3) u.2.2.2.2.2.2.1 u.2.2.2.2.2.2.2, gScn K (ad 3) (ad 14) (ad 15) (ad 16) (ad 17) ou mi bo ln LF sn SF])) S C hG [1, 2, 3] (c_X6_nearestSlant l K (ad 10) vl vd vn vf vt ve vg vb vw (ad 53) (ad 54) (ad 55) (ad 56) (ad 57) (ad 3) rz zX (ad 14) (ad 15) (ad 16) (ad 17) ou mi bo ln LF sn SF N y x z hS hN hy hx (by omega) hvw) rfl rfl 0 rfl rfl (cwV 3 S.2.2.2.2 gX8_slantFor_X6_nearestSlant rfl rfl rfl (by decide +kernel) ⟨Nat.le_of_ble_eq_true rfl, Nat.le_of_ble_eq_true rfl⟩) rfl hl.1 rfl (Nat.le_of_ble_eq_true rfl) dX8_slantFor_16 ⟨Nat.le_of_ble_eq_true rfl, Nat.le_of_ble_eq_true rfl⟩ (fun _ => Nat.le_of_ble_eq_true rfl) (fun _ => rfl) (fun v u H locs hp hG => ?_)
  obtain ⟨uf2_16, ut2_16, ue2_16, ug2_16, ub2_16, uw2_16, rv2_16, X2_16⟩ := u
  obtain ⟨rfl, hE2_16, hB_16, hvw_16⟩ := hp
  have hE2_16 : EntOk N X2_16 := hE2_16
  have hB_16 : BestI N y x 0 (nsG N y x z) True (nX N y) ub2_16 uw2_16 := hB_16
  have hvw_16 : -3000000000 ≤ uw2_16 ∧ uw2_16 ≤ 3000000000 := hvw_16
  have hG : gW K A s.heap [gRLC K ad, gSvyC K (ad 10) (ad 3) (ad 53) y x (nX N y) uf2_16 ut2_16 ue2_16 ug2_16 ub2_16 uw2_16, gRayU K (ad 53) (ad 54) (ad 55) (ad 56) (ad 57) (ad 3) rv2_16 X2_16, gScn K (ad 3) (ad 14) (ad 15) (ad 16) (ad 17) ou mi bo ln LF sn SF] _ _ := hG
  have hG : gW K A s.heap [gRLC K ad, gSvyC K (ad 10) (ad 3) (ad 53) y x (nX N y) uf2_16 ut2_16 ue2_16 ug2_16 ub2_16 uw2_16, gRayU K (ad 53) (ad 54) (ad 55) (ad 56) (ad 57) (ad 3) rv2_16 X2_16, gScn K (ad 3) (ad 14) (ad 15) (ad 16) (ad 17) ou mi bo ln LF sn SF] _ _ := hG
  exact g_iret S hr hlk hQ dX8_slantFor_19 (Nat.le_of_ble_eq_true rfl) (Nat.le_of_ble_eq_true rfl) ((y, x, nX N y, uf2_16, ut2_16, ue2_16, ug2_16, ub2_16, uw2_16, rv2_16, X2_16) : Int × Int × Int × Int × Int × Int × Int × Int × Int × RU × (Int → Int)) ⟨rfl, hB_16, hvw_16⟩ hG

set_option maxHeartbeats 1000000 in
set_option maxRecDepth 100000 in
theorem x1_slantFor (l : Launch) (K : KC) (ad : Nat → Nat) (ou : Int) (mi : Int) (bo : Int) (ln : Int) (LF : Int → Int) (sn : Int) (SF : Int → Int) (N : Int → Int) (vl : Int) (vd : Int) (vn : Int) (vf : Int) (vt : Int) (ve : Int) (vg : Int) (vb : Int) (vw : Int) (rz : RU) (zX : Int → Int) (y : Int) (x : Int) (z : Int) (hS : ScOk N ou mi bo ln LF sn SF) (hN : NOk0 N) (hv : -2147483648 ≤ y ∧ y < 2147483648) (hx : x = 0 ∨ x = 1) (hz : -2147483648 ≤ z ∧ z < 2147483648) (hvw : -3000000000 ≤ vw ∧ vw ≤ 3000000000) (h0 : ¬ (0 ≤ y ∧ y < N 0)) (hst : l.stackTraces = false) : mX l yX8_slantFor wsX8_slantFor 7 103 K [.ref (ad 0), .int (iI y), .int (iI x), .int (iI z)] [gRLC K ad, gSvyC K (ad 10) (ad 3) (ad 53) vl vd vn vf vt ve vg vb vw, gRayU K (ad 53) (ad 54) (ad 55) (ad 56) (ad 57) (ad 3) rz zX, gScn K (ad 3) (ad 14) (ad 15) (ad 16) (ad 17) ou mi bo ln LF sn SF] "java/lang/IndexOutOfBoundsException" (fun (u : Unit) => True) (fun (u : Unit) => [gRLC K ad, gSvyC K (ad 10) (ad 3) (ad 53) vl vd vn vf vt ve vg vb vw, gRayU K (ad 53) (ad 54) (ad 55) (ad 56) (ad 57) (ad 3) rz zX, gScn K (ad 3) (ad 14) (ad 15) (ad 16) (ad 17) ou mi bo ln LF sn SF]) 1 6 := by
  refine mX_of cX8_slantFor 4 (by decide) rfl (Nat.le_of_ble_eq_true rfl) ?_
  intro p e s m below meth c A ls Q S C hG hl hex hlk hin hQ
  have S : CallFix p m c cX8_slantFor 4 s ([.ref (ad 0), .int (iI y), .int (iI x), .int (iI z)] : List Value).toArray wsX8_slantFor RX8 := S
  have iX80 : ∀ w ∈ wsX80, w ∈ wsX8_slantFor := fun _ h => List.mem_cons_of_mem _ (List.mem_append_left _ (List.mem_append_left _ (List.mem_append_left _ (List.mem_append_left _ (List.mem_append_left _ (List.mem_append_left _ (List.mem_append_right _ (h))))))))
  have iX50 : ∀ w ∈ wsX50, w ∈ wsX8_slantFor := fun _ h => List.mem_cons_of_mem _ (List.mem_append_left _ (List.mem_append_left _ (List.mem_append_left _ (List.mem_append_left _ (List.mem_append_left _ (List.mem_append_right _ (h)))))))
  have iX70 : ∀ w ∈ wsX70, w ∈ wsX8_slantFor := fun _ h => List.mem_cons_of_mem _ (List.mem_append_left _ (List.mem_append_left _ (List.mem_append_left _ (List.mem_append_left _ (List.mem_append_right _ (h))))))
  have iX60 : ∀ w ∈ wsX60, w ∈ wsX8_slantFor := fun _ h => List.mem_cons_of_mem _ (List.mem_append_left _ (List.mem_append_left _ (List.mem_append_left _ (List.mem_append_right _ (h)))))
  have iX40 : ∀ w ∈ wsX40, w ∈ wsX8_slantFor := fun _ h => List.mem_cons_of_mem _ (List.mem_append_left _ (List.mem_append_left _ (List.mem_append_right _ (h))))
  have hl : lv_has ls 4 [(0, .ref (ad 0)), (1, .int (iI y)), (2, .int (iI x)), (3, .int (iI z))] := hl
  have hG : gW K A s.heap [gRLC K ad, gSvyC K (ad 10) (ad 3) (ad 53) vl vd vn vf vt ve vg vb vw, gRayU K (ad 53) (ad 54) (ad 55) (ad 56) (ad 57) (ad 3) rz zX, gScn K (ad 3) (ad 14) (ad 15) (ad 16) (ad 17) ou mi bo ln LF sn SF] s.heap [] := hG
  obtain ⟨e0, e1, e2, e3, e4, e5, e6⟩ := id hS
  have n0 := hN.1
  have n3 := hN.2.2.2.1
  refine lv_aload_n S.1 S.2.1 dX8_slantFor_0 rfl (lv_at hl 0 rfl) ?_
  refine lv_iload_n S.1 S.2.1 dX8_slantFor_1 rfl (lv_at hl 1 rfl) ?_
  refine g_xV (E := "java/lang/IndexOutOfBoundsException") (As := [.int (iI y)]) (rest := []) (gs' := (fun u : Unit => [gRLC K ad, gSvyC K (ad 10) (ad 3) (ad 53) vl vd vn vf vt ve vg vb vw, gRayU K (ad 53) (ad 54) (ad 55) (ad 56) (ad 57) (ad 3) rz zX, gScn K (ad 3) (ad 14) (ad 15) (ad 16) (ad 17) ou mi bo ln LF sn SF])) S C hG [0, 3] (x_checkLayer l K ad ou mi bo ln LF sn SF N y hS hN hv h0 hst) rfl rfl 0 rfl rfl (cwV 1 S.2.2.2.2 gX8_slantFor_X8_checkLayer rfl rfl rfl (by decide +kernel) ⟨Nat.le_of_ble_eq_true rfl, Nat.le_of_ble_eq_true rfl⟩) rfl hl.1 rfl (Nat.le_of_ble_eq_true rfl) dX8_slantFor_2 ⟨Nat.le_of_ble_eq_true rfl, Nat.le_of_ble_eq_true rfl⟩ (fun _ => Nat.le_of_ble_eq_true rfl) (fun _ => rfl) (fun u q9 ce9 H locs hp hG hq9 hv9 hcl9 => ?_)
  have hG : gW K A s.heap [gRLC K ad, gSvyC K (ad 10) (ad 3) (ad 53) vl vd vn vf vt ve vg vb vw, gRayU K (ad 53) (ad 54) (ad 55) (ad 56) (ad 57) (ad 3) rz zX, gScn K (ad 3) (ad 14) (ad 15) (ad 16) (ad 17) ou mi bo ln LF sn SF] _ _ := hG
  exact g_xout hQ hex hlk hq9 hv9 hcl9 (Nat.le_of_ble_eq_true rfl) (Nat.le_of_ble_eq_true rfl) (() : Unit) trivial hG

set_option maxHeartbeats 1000000 in
set_option maxRecDepth 100000 in
theorem x2_slantFor (l : Launch) (K : KC) (ad : Nat → Nat) (ou : Int) (mi : Int) (bo : Int) (ln : Int) (LF : Int → Int) (sn : Int) (SF : Int → Int) (N : Int → Int) (vl : Int) (vd : Int) (vn : Int) (vf : Int) (vt : Int) (ve : Int) (vg : Int) (vb : Int) (vw : Int) (rz : RU) (zX : Int → Int) (y : Int) (x : Int) (z : Int) (hS : ScOk N ou mi bo ln LF sn SF) (hN : NOk0 N) (hv : -2147483648 ≤ y ∧ y < 2147483648) (hx : x = 0 ∨ x = 1) (hz : -2147483648 ≤ z ∧ z < 2147483648) (hvw : -3000000000 ≤ vw ∧ vw ≤ 3000000000) (hy : 0 ≤ y ∧ y < N 0) (h1 : ¬ (0 ≤ z)) (hst : l.stackTraces = false) : mX l yX8_slantFor wsX8_slantFor 7 102 K [.ref (ad 0), .int (iI y), .int (iI x), .int (iI z)] [gRLC K ad, gSvyC K (ad 10) (ad 3) (ad 53) vl vd vn vf vt ve vg vb vw, gRayU K (ad 53) (ad 54) (ad 55) (ad 56) (ad 57) (ad 3) rz zX, gScn K (ad 3) (ad 14) (ad 15) (ad 16) (ad 17) ou mi bo ln LF sn SF] "java/lang/IllegalArgumentException" (fun (u : Unit) => True) (fun (u : Unit) => [gRLC K ad, gSvyC K (ad 10) (ad 3) (ad 53) vl vd vn vf vt ve vg vb vw, gRayU K (ad 53) (ad 54) (ad 55) (ad 56) (ad 57) (ad 3) rz zX, gScn K (ad 3) (ad 14) (ad 15) (ad 16) (ad 17) ou mi bo ln LF sn SF]) 1 6 := by
  refine mX_of cX8_slantFor 4 (by decide) rfl (Nat.le_of_ble_eq_true rfl) ?_
  intro p e s m below meth c A ls Q S C hG hl hex hlk hin hQ
  have S : CallFix p m c cX8_slantFor 4 s ([.ref (ad 0), .int (iI y), .int (iI x), .int (iI z)] : List Value).toArray wsX8_slantFor RX8 := S
  have iX80 : ∀ w ∈ wsX80, w ∈ wsX8_slantFor := fun _ h => List.mem_cons_of_mem _ (List.mem_append_left _ (List.mem_append_left _ (List.mem_append_left _ (List.mem_append_left _ (List.mem_append_left _ (List.mem_append_left _ (List.mem_append_right _ (h))))))))
  have iX50 : ∀ w ∈ wsX50, w ∈ wsX8_slantFor := fun _ h => List.mem_cons_of_mem _ (List.mem_append_left _ (List.mem_append_left _ (List.mem_append_left _ (List.mem_append_left _ (List.mem_append_left _ (List.mem_append_right _ (h)))))))
  have iX70 : ∀ w ∈ wsX70, w ∈ wsX8_slantFor := fun _ h => List.mem_cons_of_mem _ (List.mem_append_left _ (List.mem_append_left _ (List.mem_append_left _ (List.mem_append_left _ (List.mem_append_right _ (h))))))
  have iX60 : ∀ w ∈ wsX60, w ∈ wsX8_slantFor := fun _ h => List.mem_cons_of_mem _ (List.mem_append_left _ (List.mem_append_left _ (List.mem_append_left _ (List.mem_append_right _ (h)))))
  have iX40 : ∀ w ∈ wsX40, w ∈ wsX8_slantFor := fun _ h => List.mem_cons_of_mem _ (List.mem_append_left _ (List.mem_append_left _ (List.mem_append_right _ (h))))
  have hl : lv_has ls 4 [(0, .ref (ad 0)), (1, .int (iI y)), (2, .int (iI x)), (3, .int (iI z))] := hl
  have hG : gW K A s.heap [gRLC K ad, gSvyC K (ad 10) (ad 3) (ad 53) vl vd vn vf vt ve vg vb vw, gRayU K (ad 53) (ad 54) (ad 55) (ad 56) (ad 57) (ad 3) rz zX, gScn K (ad 3) (ad 14) (ad 15) (ad 16) (ad 17) ou mi bo ln LF sn SF] s.heap [] := hG
  obtain ⟨e0, e1, e2, e3, e4, e5, e6⟩ := id hS
  have n0 := hN.1
  have n3 := hN.2.2.2.1
  refine lv_aload_n S.1 S.2.1 dX8_slantFor_0 rfl (lv_at hl 0 rfl) ?_
  refine lv_iload_n S.1 S.2.1 dX8_slantFor_1 rfl (lv_at hl 1 rfl) ?_
  refine g_invVv (As := [.int (iI y)]) (rest := []) (gs' := (fun u : Unit => [gRLC K ad, gSvyC K (ad 10) (ad 3) (ad 53) vl vd vn vf vt ve vg vb vw, gRayU K (ad 53) (ad 54) (ad 55) (ad 56) (ad 57) (ad 3) rz zX, gScn K (ad 3) (ad 14) (ad 15) (ad 16) (ad 17) ou mi bo ln LF sn SF])) S C hG [0, 3] (c_X8_checkLayer l K ad ou mi bo ln LF sn SF N y hS hN hv hy) rfl rfl 0 rfl rfl (cwV 1 S.2.2.2.2 gX8_slantFor_X8_checkLayer rfl rfl rfl (by decide +kernel) ⟨Nat.le_of_ble_eq_true rfl, Nat.le_of_ble_eq_true rfl⟩) rfl hl.1 rfl (Nat.le_of_ble_eq_true rfl) dX8_slantFor_2 ⟨Nat.le_of_ble_eq_true rfl, Nat.le_of_ble_eq_true rfl⟩ (fun _ => Nat.le_of_ble_eq_true rfl) (fun _ => rfl) (fun u H locs hp hG => ?_)
  refine lv_iload_n S.1 S.2.1 dX8_slantFor_5 rfl (lv_at hl 3 rfl) ?_
  refine g_xS (E := "java/lang/IllegalArgumentException") (As := [.int (iI z)]) (rest := []) (gs' := (fun u : Unit => [gRLC K ad, gSvyC K (ad 10) (ad 3) (ad 53) vl vd vn vf vt ve vg vb vw, gRayU K (ad 53) (ad 54) (ad 55) (ad 56) (ad 57) (ad 3) rz zX, gScn K (ad 3) (ad 14) (ad 15) (ad 16) (ad 17) ou mi bo ln LF sn SF])) S C hG [] (x_checkNotNegative l K z hz (by omega) hst) rfl rfl (va_cwS 1 S.2.2.2.2 gX8_slantFor_X8_checkNotNegative rfl rfl rfl (by decide +kernel) ⟨Nat.le_of_ble_eq_true rfl, Nat.le_of_ble_eq_true rfl⟩) rfl hl.1 rfl (Nat.le_of_ble_eq_true rfl) dX8_slantFor_6 ⟨Nat.le_of_ble_eq_true rfl, Nat.le_of_ble_eq_true rfl⟩ (fun _ => Nat.le_of_ble_eq_true rfl) (fun _ => rfl) (fun u q9 ce9 H locs hp hG hq9 hv9 hcl9 => ?_)
  have hG : gW K A s.heap [gRLC K ad, gSvyC K (ad 10) (ad 3) (ad 53) vl vd vn vf vt ve vg vb vw, gRayU K (ad 53) (ad 54) (ad 55) (ad 56) (ad 57) (ad 3) rz zX, gScn K (ad 3) (ad 14) (ad 15) (ad 16) (ad 17) ou mi bo ln LF sn SF] _ _ := hG
  exact g_xout hQ hex hlk hq9 hv9 hcl9 (Nat.le_of_ble_eq_true rfl) (Nat.le_of_ble_eq_true rfl) (() : Unit) trivial hG

set_option maxHeartbeats 1000000 in
set_option maxRecDepth 100000 in
theorem c_X8_fastest (l : Launch) (K : KC) (ad : Nat → Nat) (ou : Int) (mi : Int) (bo : Int) (ln : Int) (LF : Int → Int) (sn : Int) (SF : Int → Int) (N : Int → Int) (vl : Int) (vd : Int) (vn : Int) (vf : Int) (vt : Int) (ve : Int) (vg : Int) (vb : Int) (vw : Int) (rz : RU) (zX : Int → Int) (y : Int) (x : Int) (z : Int) (hS : ScOk N ou mi bo ln LF sn SF) (hN : NOk0 N) (hv : -2147483648 ≤ y ∧ y < 2147483648) (hx : x = 0 ∨ x = 1) (hz : -2147483648 ≤ z ∧ z < 2147483648) (hvw : -3000000000 ≤ vw ∧ vw ≤ 3000000000) (hy : 0 ≤ y ∧ y < N 0) (h1 : 0 ≤ z ∧ z ≤ 3) : mG l yX8_fastest wsX8_fastest 6 143 K [.ref (ad 0), .int (iI y), .int (iI x), .int (iI z)] [gRLC K ad, gSvyC K (ad 10) (ad 3) (ad 53) vl vd vn vf vt ve vg vb vw, gRayU K (ad 53) (ad 54) (ad 55) (ad 56) (ad 57) (ad 3) rz zX, gScn K (ad 3) (ad 14) (ad 15) (ad 16) (ad 17) ou mi bo ln LF sn SF] (fun (v : Value) (u : Int × Int × Int × Int × Int × Int × Int × Int × Int × RU × (Int → Int)) => (v = .int (iI u.2.2.2.2.2.2.2.1)) ∧ (BestI N y x z (scG N y x 0) ((0 : Int) ≠ 2) (nX N y) u.2.2.2.2.2.2.2.1 u.2.2.2.2.2.2.2.2.1) ∧ (-3000000000 ≤ u.2.2.2.2.2.2.2.2.1 ∧ u.2.2.2.2.2.2.2.2.1 ≤ 3000000000)) (fun (u : Int × Int × Int × Int × Int × Int × Int × Int × Int × RU × (Int → Int)) => [gRLC K ad, gSvyC K (ad 10) (ad 3) (ad 53) u.1 u.2.1 u.2.2.1 u.2.2.2.1 u.2.2.2.2.1 u.2.2.2.2.2.1 u.2.2.2.2.2.2.1 u.2.2.2.2.2.2.2.1 u.2.2.2.2.2.2.2.2.1, gRayU K (ad 53) (ad 54) (ad 55) (ad 56) (ad 57) (ad 3) u.2.2.2.2.2.2.2.2.2.1 u.2.2.2.2.2.2.2.2.2.2, gScn K (ad 3) (ad 14) (ad 15) (ad 16) (ad 17) ou mi bo ln LF sn SF]) 0 0 := by
  refine mG_of cX8_fastest 4 (by decide) rfl (Nat.le_of_ble_eq_true rfl) ?_
  intro p e s m below meth c A ls Q S C hG hl hr hlk hin hQ
  have S : CallFix p m c cX8_fastest 4 s ([.ref (ad 0), .int (iI y), .int (iI x), .int (iI z)] : List Value).toArray wsX8_fastest RX8 := S
  have iX80 : ∀ w ∈ wsX80, w ∈ wsX8_fastest := fun _ h => List.mem_cons_of_mem _ (List.mem_append_left _ (List.mem_append_left _ (List.mem_append_left _ (List.mem_append_left _ (List.mem_append_left _ (List.mem_append_left _ (List.mem_append_right _ (h))))))))
  have iX60 : ∀ w ∈ wsX60, w ∈ wsX8_fastest := fun _ h => List.mem_cons_of_mem _ (List.mem_append_left _ (List.mem_append_left _ (List.mem_append_left _ (List.mem_append_left _ (List.mem_append_left _ (List.mem_append_right _ (h)))))))
  have iX50 : ∀ w ∈ wsX50, w ∈ wsX8_fastest := fun _ h => List.mem_cons_of_mem _ (List.mem_append_left _ (List.mem_append_left _ (List.mem_append_left _ (List.mem_append_left _ (List.mem_append_right _ (h))))))
  have iX70 : ∀ w ∈ wsX70, w ∈ wsX8_fastest := fun _ h => List.mem_cons_of_mem _ (List.mem_append_left _ (List.mem_append_left _ (List.mem_append_left _ (List.mem_append_right _ (h)))))
  have iX40 : ∀ w ∈ wsX40, w ∈ wsX8_fastest := fun _ h => List.mem_cons_of_mem _ (List.mem_append_left _ (List.mem_append_left _ (List.mem_append_right _ (h))))
  have hl : lv_has ls 4 [(0, .ref (ad 0)), (1, .int (iI y)), (2, .int (iI x)), (3, .int (iI z))] := hl
  have hG : gW K A s.heap [gRLC K ad, gSvyC K (ad 10) (ad 3) (ad 53) vl vd vn vf vt ve vg vb vw, gRayU K (ad 53) (ad 54) (ad 55) (ad 56) (ad 57) (ad 3) rz zX, gScn K (ad 3) (ad 14) (ad 15) (ad 16) (ad 17) ou mi bo ln LF sn SF] s.heap [] := hG
  obtain ⟨e0, e1, e2, e3, e4, e5, e6⟩ := id hS
  have n0 := hN.1
  have n3 := hN.2.2.2.1
  refine lv_aload_n S.1 S.2.1 dX8_fastest_0 rfl (lv_at hl 0 rfl) ?_
  refine lv_iload_n S.1 S.2.1 dX8_fastest_1 rfl (lv_at hl 1 rfl) ?_
  refine lv_iload_n S.1 S.2.1 dX8_fastest_2 rfl (lv_at hl 3 rfl) ?_
  refine g_invVv (As := [.int (iI y), .int (iI z)]) (rest := []) (gs' := (fun u : Unit => [gRLC K ad, gSvyC K (ad 10) (ad 3) (ad 53) vl vd vn vf vt ve vg vb vw, gRayU K (ad 53) (ad 54) (ad 55) (ad 56) (ad 57) (ad 3) rz zX, gScn K (ad 3) (ad 14) (ad 15) (ad 16) (ad 17) ou mi bo ln LF sn SF])) S C hG [0, 3] (c_X8_checkLayerAndEnd l K ad ou mi bo ln LF sn SF N y z hS hN hv hz hy h1) rfl rfl 0 rfl rfl (cwV 2 S.2.2.2.2 gX8_fastest_X8_checkLayerAndEnd rfl rfl rfl (by decide +kernel) ⟨Nat.le_of_ble_eq_true rfl, Nat.le_of_ble_eq_true rfl⟩) rfl hl.1 rfl (Nat.le_of_ble_eq_true rfl) dX8_fastest_3 ⟨Nat.le_of_ble_eq_true rfl, Nat.le_of_ble_eq_true rfl⟩ (fun _ => Nat.le_of_ble_eq_true rfl) (fun _ => rfl) (fun u H locs hp hG => ?_)
  refine lv_aload_n S.1 S.2.1 dX8_fastest_6 rfl (lv_at hl 0 rfl) ?_
  refine g_get S C hG iX80 0 rfl rfl 9 (by decide) (List.mem_of_getElem? (i := 1) rfl) rfl dX8_fastest_7 ?_
  refine lv_iload_n S.1 S.2.1 dX8_fastest_10 rfl (lv_at hl 1 rfl) ?_
  refine lv_iload_n S.1 S.2.1 dX8_fastest_11 rfl (lv_at hl 2 rfl) ?_
  refine lv_iload_n S.1 S.2.1 dX8_fastest_12 rfl (lv_at hl 3 rfl) ?_
  refine g_iconst S dX8_fastest_13 ?_
  refine g_invVv (As := [.int (iI y), .int (iI x), .int (iI z), .int (iI 0)]) (rest := []) (gs' := (fun u : Int × Int × Int × Int × Int × Int × RU × (Int → Int) => [gRLC K ad, gSvyC K (ad 10) (ad 3) (ad 53) y x (nX N y) u.1 u.2.1 u.2.2.1 u.2.2.2.1 u.2.2.2.2.1 u.2.2.2.2.2.1, gRayU K (ad 53) (ad 54) (ad 55) (ad 56) (ad 57) (ad 3) u.2.2.2.2.2.2.1 u.2.2.2.2.2.2.2, gScn K (ad 3) (ad 14) (ad 15) (ad 16) (ad 17) ou mi bo ln LF sn SF])) S C hG [1, 2, 3] (c_X6_findBest_0 l K (ad 10) vl vd vn vf vt ve vg vb vw (ad 53) (ad 54) (ad 55) (ad 56) (ad 57) (ad 3) rz zX (ad 14) (ad 15) (ad 16) (ad 17) ou mi bo ln LF sn SF N y x z hS hN hy hx (by omega) hvw) rfl rfl 0 rfl rfl (cwV 4 S.2.2.2.2 gX8_fastest_X6_findBest rfl rfl rfl (by decide +kernel) ⟨Nat.le_of_ble_eq_true rfl, Nat.le_of_ble_eq_true rfl⟩) rfl hl.1 rfl (Nat.le_of_ble_eq_true rfl) dX8_fastest_14 ⟨Nat.le_of_ble_eq_true rfl, Nat.le_of_ble_eq_true rfl⟩ (fun _ => Nat.le_of_ble_eq_true rfl) (fun _ => rfl) (fun u H locs hp hG => ?_)
  obtain ⟨uf2_14, ut2_14, ue2_14, ug2_14, ub2_14, uw2_14, rv2_14, X2_14⟩ := u
  obtain ⟨hE2_14, hB_14, hvw_14⟩ := hp
  have hE2_14 : EntOk N X2_14 := hE2_14
  have hB_14 : BestI N y x z (scG N y x 0) ((0 : Int) ≠ 2) (nX N y) ub2_14 uw2_14 := hB_14
  have hvw_14 : -3000000000 ≤ uw2_14 ∧ uw2_14 ≤ 3000000000 := hvw_14
  have hG : gW K A s.heap [gRLC K ad, gSvyC K (ad 10) (ad 3) (ad 53) y x (nX N y) uf2_14 ut2_14 ue2_14 ug2_14 ub2_14 uw2_14, gRayU K (ad 53) (ad 54) (ad 55) (ad 56) (ad 57) (ad 3) rv2_14 X2_14, gScn K (ad 3) (ad 14) (ad 15) (ad 16) (ad 17) ou mi bo ln LF sn SF] _ _ := hG
  refine lv_aload_n S.1 S.2.1 dX8_fastest_17 rfl (lv_at hl 0 rfl) ?_
  refine g_get S C hG iX80 0 rfl rfl 9 (by decide) (List.mem_of_getElem? (i := 1) rfl) rfl dX8_fastest_18 ?_
  refine g_get S C hG iX60 1 rfl rfl 9 (by decide) (List.mem_of_getElem? (i := 2) rfl) rfl dX8_fastest_21 ?_
  have hG : gW K A s.heap [gRLC K ad, gSvyC K (ad 10) (ad 3) (ad 53) y x (nX N y) uf2_14 ut2_14 ue2_14 ug2_14 ub2_14 uw2_14, gRayU K (ad 53) (ad 54) (ad 55) (ad 56) (ad 57) (ad 3) rv2_14 X2_14, gScn K (ad 3) (ad 14) (ad 15) (ad 16) (ad 17) ou mi bo ln LF sn SF] _ _ := hG
  exact g_iret S hr hlk hQ dX8_fastest_24 (Nat.le_of_ble_eq_true rfl) (Nat.le_of_ble_eq_true rfl) ((y, x, nX N y, uf2_14, ut2_14, ue2_14, ug2_14, ub2_14, uw2_14, rv2_14, X2_14) : Int × Int × Int × Int × Int × Int × Int × Int × Int × RU × (Int → Int)) ⟨rfl, hB_14, hvw_14⟩ hG

set_option maxHeartbeats 1000000 in
set_option maxRecDepth 100000 in
theorem x1_fastest (l : Launch) (K : KC) (ad : Nat → Nat) (ou : Int) (mi : Int) (bo : Int) (ln : Int) (LF : Int → Int) (sn : Int) (SF : Int → Int) (N : Int → Int) (vl : Int) (vd : Int) (vn : Int) (vf : Int) (vt : Int) (ve : Int) (vg : Int) (vb : Int) (vw : Int) (rz : RU) (zX : Int → Int) (y : Int) (x : Int) (z : Int) (hS : ScOk N ou mi bo ln LF sn SF) (hN : NOk0 N) (hv : -2147483648 ≤ y ∧ y < 2147483648) (hx : x = 0 ∨ x = 1) (hz : -2147483648 ≤ z ∧ z < 2147483648) (hvw : -3000000000 ≤ vw ∧ vw ≤ 3000000000) (h0 : ¬ (0 ≤ y ∧ y < N 0)) (hst : l.stackTraces = false) : mX l yX8_fastest wsX8_fastest 8 125 K [.ref (ad 0), .int (iI y), .int (iI x), .int (iI z)] [gRLC K ad, gSvyC K (ad 10) (ad 3) (ad 53) vl vd vn vf vt ve vg vb vw, gRayU K (ad 53) (ad 54) (ad 55) (ad 56) (ad 57) (ad 3) rz zX, gScn K (ad 3) (ad 14) (ad 15) (ad 16) (ad 17) ou mi bo ln LF sn SF] "java/lang/IndexOutOfBoundsException" (fun (u : Unit) => True) (fun (u : Unit) => [gRLC K ad, gSvyC K (ad 10) (ad 3) (ad 53) vl vd vn vf vt ve vg vb vw, gRayU K (ad 53) (ad 54) (ad 55) (ad 56) (ad 57) (ad 3) rz zX, gScn K (ad 3) (ad 14) (ad 15) (ad 16) (ad 17) ou mi bo ln LF sn SF]) 1 6 := by
  refine mX_of cX8_fastest 4 (by decide) rfl (Nat.le_of_ble_eq_true rfl) ?_
  intro p e s m below meth c A ls Q S C hG hl hex hlk hin hQ
  have S : CallFix p m c cX8_fastest 4 s ([.ref (ad 0), .int (iI y), .int (iI x), .int (iI z)] : List Value).toArray wsX8_fastest RX8 := S
  have iX80 : ∀ w ∈ wsX80, w ∈ wsX8_fastest := fun _ h => List.mem_cons_of_mem _ (List.mem_append_left _ (List.mem_append_left _ (List.mem_append_left _ (List.mem_append_left _ (List.mem_append_left _ (List.mem_append_left _ (List.mem_append_right _ (h))))))))
  have iX60 : ∀ w ∈ wsX60, w ∈ wsX8_fastest := fun _ h => List.mem_cons_of_mem _ (List.mem_append_left _ (List.mem_append_left _ (List.mem_append_left _ (List.mem_append_left _ (List.mem_append_left _ (List.mem_append_right _ (h)))))))
  have iX50 : ∀ w ∈ wsX50, w ∈ wsX8_fastest := fun _ h => List.mem_cons_of_mem _ (List.mem_append_left _ (List.mem_append_left _ (List.mem_append_left _ (List.mem_append_left _ (List.mem_append_right _ (h))))))
  have iX70 : ∀ w ∈ wsX70, w ∈ wsX8_fastest := fun _ h => List.mem_cons_of_mem _ (List.mem_append_left _ (List.mem_append_left _ (List.mem_append_left _ (List.mem_append_right _ (h)))))
  have iX40 : ∀ w ∈ wsX40, w ∈ wsX8_fastest := fun _ h => List.mem_cons_of_mem _ (List.mem_append_left _ (List.mem_append_left _ (List.mem_append_right _ (h))))
  have hl : lv_has ls 4 [(0, .ref (ad 0)), (1, .int (iI y)), (2, .int (iI x)), (3, .int (iI z))] := hl
  have hG : gW K A s.heap [gRLC K ad, gSvyC K (ad 10) (ad 3) (ad 53) vl vd vn vf vt ve vg vb vw, gRayU K (ad 53) (ad 54) (ad 55) (ad 56) (ad 57) (ad 3) rz zX, gScn K (ad 3) (ad 14) (ad 15) (ad 16) (ad 17) ou mi bo ln LF sn SF] s.heap [] := hG
  obtain ⟨e0, e1, e2, e3, e4, e5, e6⟩ := id hS
  have n0 := hN.1
  have n3 := hN.2.2.2.1
  refine lv_aload_n S.1 S.2.1 dX8_fastest_0 rfl (lv_at hl 0 rfl) ?_
  refine lv_iload_n S.1 S.2.1 dX8_fastest_1 rfl (lv_at hl 1 rfl) ?_
  refine lv_iload_n S.1 S.2.1 dX8_fastest_2 rfl (lv_at hl 3 rfl) ?_
  refine g_xV (E := "java/lang/IndexOutOfBoundsException") (As := [.int (iI y), .int (iI z)]) (rest := []) (gs' := (fun u : Unit => [gRLC K ad, gSvyC K (ad 10) (ad 3) (ad 53) vl vd vn vf vt ve vg vb vw, gRayU K (ad 53) (ad 54) (ad 55) (ad 56) (ad 57) (ad 3) rz zX, gScn K (ad 3) (ad 14) (ad 15) (ad 16) (ad 17) ou mi bo ln LF sn SF])) S C hG [0, 3] (x1_checkLayerAndEnd l K ad ou mi bo ln LF sn SF N y z hS hN hv hz h0 hst) rfl rfl 0 rfl rfl (cwV 2 S.2.2.2.2 gX8_fastest_X8_checkLayerAndEnd rfl rfl rfl (by decide +kernel) ⟨Nat.le_of_ble_eq_true rfl, Nat.le_of_ble_eq_true rfl⟩) rfl hl.1 rfl (Nat.le_of_ble_eq_true rfl) dX8_fastest_3 ⟨Nat.le_of_ble_eq_true rfl, Nat.le_of_ble_eq_true rfl⟩ (fun _ => Nat.le_of_ble_eq_true rfl) (fun _ => rfl) (fun u q9 ce9 H locs hp hG hq9 hv9 hcl9 => ?_)
  have hG : gW K A s.heap [gRLC K ad, gSvyC K (ad 10) (ad 3) (ad 53) vl vd vn vf vt ve vg vb vw, gRayU K (ad 53) (ad 54) (ad 55) (ad 56) (ad 57) (ad 3) rz zX, gScn K (ad 3) (ad 14) (ad 15) (ad 16) (ad 17) ou mi bo ln LF sn SF] _ _ := hG
  exact g_xout hQ hex hlk hq9 hv9 hcl9 (Nat.le_of_ble_eq_true rfl) (Nat.le_of_ble_eq_true rfl) (() : Unit) trivial hG

set_option maxHeartbeats 1000000 in
set_option maxRecDepth 100000 in
theorem x2_fastest (l : Launch) (K : KC) (ad : Nat → Nat) (ou : Int) (mi : Int) (bo : Int) (ln : Int) (LF : Int → Int) (sn : Int) (SF : Int → Int) (N : Int → Int) (vl : Int) (vd : Int) (vn : Int) (vf : Int) (vt : Int) (ve : Int) (vg : Int) (vb : Int) (vw : Int) (rz : RU) (zX : Int → Int) (y : Int) (x : Int) (z : Int) (hS : ScOk N ou mi bo ln LF sn SF) (hN : NOk0 N) (hv : -2147483648 ≤ y ∧ y < 2147483648) (hx : x = 0 ∨ x = 1) (hz : -2147483648 ≤ z ∧ z < 2147483648) (hvw : -3000000000 ≤ vw ∧ vw ≤ 3000000000) (hy : 0 ≤ y ∧ y < N 0) (h1 : ¬ (0 ≤ z ∧ z ≤ 3)) (hst : l.stackTraces = false) : mX l yX8_fastest wsX8_fastest 8 126 K [.ref (ad 0), .int (iI y), .int (iI x), .int (iI z)] [gRLC K ad, gSvyC K (ad 10) (ad 3) (ad 53) vl vd vn vf vt ve vg vb vw, gRayU K (ad 53) (ad 54) (ad 55) (ad 56) (ad 57) (ad 3) rz zX, gScn K (ad 3) (ad 14) (ad 15) (ad 16) (ad 17) ou mi bo ln LF sn SF] "java/lang/IllegalArgumentException" (fun (u : Unit) => True) (fun (u : Unit) => [gRLC K ad, gSvyC K (ad 10) (ad 3) (ad 53) vl vd vn vf vt ve vg vb vw, gRayU K (ad 53) (ad 54) (ad 55) (ad 56) (ad 57) (ad 3) rz zX, gScn K (ad 3) (ad 14) (ad 15) (ad 16) (ad 17) ou mi bo ln LF sn SF]) 1 6 := by
  refine mX_of cX8_fastest 4 (by decide) rfl (Nat.le_of_ble_eq_true rfl) ?_
  intro p e s m below meth c A ls Q S C hG hl hex hlk hin hQ
  have S : CallFix p m c cX8_fastest 4 s ([.ref (ad 0), .int (iI y), .int (iI x), .int (iI z)] : List Value).toArray wsX8_fastest RX8 := S
  have iX80 : ∀ w ∈ wsX80, w ∈ wsX8_fastest := fun _ h => List.mem_cons_of_mem _ (List.mem_append_left _ (List.mem_append_left _ (List.mem_append_left _ (List.mem_append_left _ (List.mem_append_left _ (List.mem_append_left _ (List.mem_append_right _ (h))))))))
  have iX60 : ∀ w ∈ wsX60, w ∈ wsX8_fastest := fun _ h => List.mem_cons_of_mem _ (List.mem_append_left _ (List.mem_append_left _ (List.mem_append_left _ (List.mem_append_left _ (List.mem_append_left _ (List.mem_append_right _ (h)))))))
  have iX50 : ∀ w ∈ wsX50, w ∈ wsX8_fastest := fun _ h => List.mem_cons_of_mem _ (List.mem_append_left _ (List.mem_append_left _ (List.mem_append_left _ (List.mem_append_left _ (List.mem_append_right _ (h))))))
  have iX70 : ∀ w ∈ wsX70, w ∈ wsX8_fastest := fun _ h => List.mem_cons_of_mem _ (List.mem_append_left _ (List.mem_append_left _ (List.mem_append_left _ (List.mem_append_right _ (h)))))
  have iX40 : ∀ w ∈ wsX40, w ∈ wsX8_fastest := fun _ h => List.mem_cons_of_mem _ (List.mem_append_left _ (List.mem_append_left _ (List.mem_append_right _ (h))))
  have hl : lv_has ls 4 [(0, .ref (ad 0)), (1, .int (iI y)), (2, .int (iI x)), (3, .int (iI z))] := hl
  have hG : gW K A s.heap [gRLC K ad, gSvyC K (ad 10) (ad 3) (ad 53) vl vd vn vf vt ve vg vb vw, gRayU K (ad 53) (ad 54) (ad 55) (ad 56) (ad 57) (ad 3) rz zX, gScn K (ad 3) (ad 14) (ad 15) (ad 16) (ad 17) ou mi bo ln LF sn SF] s.heap [] := hG
  obtain ⟨e0, e1, e2, e3, e4, e5, e6⟩ := id hS
  have n0 := hN.1
  have n3 := hN.2.2.2.1
  refine lv_aload_n S.1 S.2.1 dX8_fastest_0 rfl (lv_at hl 0 rfl) ?_
  refine lv_iload_n S.1 S.2.1 dX8_fastest_1 rfl (lv_at hl 1 rfl) ?_
  refine lv_iload_n S.1 S.2.1 dX8_fastest_2 rfl (lv_at hl 3 rfl) ?_
  refine g_xV (E := "java/lang/IllegalArgumentException") (As := [.int (iI y), .int (iI z)]) (rest := []) (gs' := (fun u : Unit => [gRLC K ad, gSvyC K (ad 10) (ad 3) (ad 53) vl vd vn vf vt ve vg vb vw, gRayU K (ad 53) (ad 54) (ad 55) (ad 56) (ad 57) (ad 3) rz zX, gScn K (ad 3) (ad 14) (ad 15) (ad 16) (ad 17) ou mi bo ln LF sn SF])) S C hG [0, 3] (x2_checkLayerAndEnd l K ad ou mi bo ln LF sn SF N y z hS hN hv hz hy h1 hst) rfl rfl 0 rfl rfl (cwV 2 S.2.2.2.2 gX8_fastest_X8_checkLayerAndEnd rfl rfl rfl (by decide +kernel) ⟨Nat.le_of_ble_eq_true rfl, Nat.le_of_ble_eq_true rfl⟩) rfl hl.1 rfl (Nat.le_of_ble_eq_true rfl) dX8_fastest_3 ⟨Nat.le_of_ble_eq_true rfl, Nat.le_of_ble_eq_true rfl⟩ (fun _ => Nat.le_of_ble_eq_true rfl) (fun _ => rfl) (fun u q9 ce9 H locs hp hG hq9 hv9 hcl9 => ?_)
  have hG : gW K A s.heap [gRLC K ad, gSvyC K (ad 10) (ad 3) (ad 53) vl vd vn vf vt ve vg vb vw, gRayU K (ad 53) (ad 54) (ad 55) (ad 56) (ad 57) (ad 3) rz zX, gScn K (ad 3) (ad 14) (ad 15) (ad 16) (ad 17) ou mi bo ln LF sn SF] _ _ := hG
  exact g_xout hQ hex hlk hq9 hv9 hcl9 (Nat.le_of_ble_eq_true rfl) (Nat.le_of_ble_eq_true rfl) (() : Unit) trivial hG

set_option maxHeartbeats 1000000 in
set_option maxRecDepth 100000 in
theorem c_X8_brightest (l : Launch) (K : KC) (ad : Nat → Nat) (ou : Int) (mi : Int) (bo : Int) (ln : Int) (LF : Int → Int) (sn : Int) (SF : Int → Int) (N : Int → Int) (vl : Int) (vd : Int) (vn : Int) (vf : Int) (vt : Int) (ve : Int) (vg : Int) (vb : Int) (vw : Int) (rz : RU) (zX : Int → Int) (y : Int) (x : Int) (z : Int) (hS : ScOk N ou mi bo ln LF sn SF) (hN : NOk0 N) (hv : -2147483648 ≤ y ∧ y < 2147483648) (hx : x = 0 ∨ x = 1) (hz : -2147483648 ≤ z ∧ z < 2147483648) (hvw : -3000000000 ≤ vw ∧ vw ≤ 3000000000) (hy : 0 ≤ y ∧ y < N 0) (h1 : 0 ≤ z ∧ z ≤ 3) : mG l yX8_brightest wsX8_brightest 6 143 K [.ref (ad 0), .int (iI y), .int (iI x), .int (iI z)] [gRLC K ad, gSvyC K (ad 10) (ad 3) (ad 53) vl vd vn vf vt ve vg vb vw, gRayU K (ad 53) (ad 54) (ad 55) (ad 56) (ad 57) (ad 3) rz zX, gScn K (ad 3) (ad 14) (ad 15) (ad 16) (ad 17) ou mi bo ln LF sn SF] (fun (v : Value) (u : Int × Int × Int × Int × Int × Int × Int × Int × Int × RU × (Int → Int)) => (v = .int (iI u.2.2.2.2.2.2.2.1)) ∧ (BestI N y x z (scG N y x 1) ((1 : Int) ≠ 2) (nX N y) u.2.2.2.2.2.2.2.1 u.2.2.2.2.2.2.2.2.1) ∧ (-3000000000 ≤ u.2.2.2.2.2.2.2.2.1 ∧ u.2.2.2.2.2.2.2.2.1 ≤ 3000000000)) (fun (u : Int × Int × Int × Int × Int × Int × Int × Int × Int × RU × (Int → Int)) => [gRLC K ad, gSvyC K (ad 10) (ad 3) (ad 53) u.1 u.2.1 u.2.2.1 u.2.2.2.1 u.2.2.2.2.1 u.2.2.2.2.2.1 u.2.2.2.2.2.2.1 u.2.2.2.2.2.2.2.1 u.2.2.2.2.2.2.2.2.1, gRayU K (ad 53) (ad 54) (ad 55) (ad 56) (ad 57) (ad 3) u.2.2.2.2.2.2.2.2.2.1 u.2.2.2.2.2.2.2.2.2.2, gScn K (ad 3) (ad 14) (ad 15) (ad 16) (ad 17) ou mi bo ln LF sn SF]) 0 0 := by
  refine mG_of cX8_brightest 4 (by decide) rfl (Nat.le_of_ble_eq_true rfl) ?_
  intro p e s m below meth c A ls Q S C hG hl hr hlk hin hQ
  have S : CallFix p m c cX8_brightest 4 s ([.ref (ad 0), .int (iI y), .int (iI x), .int (iI z)] : List Value).toArray wsX8_brightest RX8 := S
  have iX80 : ∀ w ∈ wsX80, w ∈ wsX8_brightest := fun _ h => List.mem_cons_of_mem _ (List.mem_append_left _ (List.mem_append_left _ (List.mem_append_left _ (List.mem_append_left _ (List.mem_append_left _ (List.mem_append_left _ (List.mem_append_right _ (h))))))))
  have iX60 : ∀ w ∈ wsX60, w ∈ wsX8_brightest := fun _ h => List.mem_cons_of_mem _ (List.mem_append_left _ (List.mem_append_left _ (List.mem_append_left _ (List.mem_append_left _ (List.mem_append_left _ (List.mem_append_right _ (h)))))))
  have iX50 : ∀ w ∈ wsX50, w ∈ wsX8_brightest := fun _ h => List.mem_cons_of_mem _ (List.mem_append_left _ (List.mem_append_left _ (List.mem_append_left _ (List.mem_append_left _ (List.mem_append_right _ (h))))))
  have iX70 : ∀ w ∈ wsX70, w ∈ wsX8_brightest := fun _ h => List.mem_cons_of_mem _ (List.mem_append_left _ (List.mem_append_left _ (List.mem_append_left _ (List.mem_append_right _ (h)))))
  have iX40 : ∀ w ∈ wsX40, w ∈ wsX8_brightest := fun _ h => List.mem_cons_of_mem _ (List.mem_append_left _ (List.mem_append_left _ (List.mem_append_right _ (h))))
  have hl : lv_has ls 4 [(0, .ref (ad 0)), (1, .int (iI y)), (2, .int (iI x)), (3, .int (iI z))] := hl
  have hG : gW K A s.heap [gRLC K ad, gSvyC K (ad 10) (ad 3) (ad 53) vl vd vn vf vt ve vg vb vw, gRayU K (ad 53) (ad 54) (ad 55) (ad 56) (ad 57) (ad 3) rz zX, gScn K (ad 3) (ad 14) (ad 15) (ad 16) (ad 17) ou mi bo ln LF sn SF] s.heap [] := hG
  obtain ⟨e0, e1, e2, e3, e4, e5, e6⟩ := id hS
  have n0 := hN.1
  have n3 := hN.2.2.2.1
  refine lv_aload_n S.1 S.2.1 dX8_brightest_0 rfl (lv_at hl 0 rfl) ?_
  refine lv_iload_n S.1 S.2.1 dX8_brightest_1 rfl (lv_at hl 1 rfl) ?_
  refine lv_iload_n S.1 S.2.1 dX8_brightest_2 rfl (lv_at hl 3 rfl) ?_
  refine g_invVv (As := [.int (iI y), .int (iI z)]) (rest := []) (gs' := (fun u : Unit => [gRLC K ad, gSvyC K (ad 10) (ad 3) (ad 53) vl vd vn vf vt ve vg vb vw, gRayU K (ad 53) (ad 54) (ad 55) (ad 56) (ad 57) (ad 3) rz zX, gScn K (ad 3) (ad 14) (ad 15) (ad 16) (ad 17) ou mi bo ln LF sn SF])) S C hG [0, 3] (c_X8_checkLayerAndEnd l K ad ou mi bo ln LF sn SF N y z hS hN hv hz hy h1) rfl rfl 0 rfl rfl (cwV 2 S.2.2.2.2 gX8_brightest_X8_checkLayerAndEnd rfl rfl rfl (by decide +kernel) ⟨Nat.le_of_ble_eq_true rfl, Nat.le_of_ble_eq_true rfl⟩) rfl hl.1 rfl (Nat.le_of_ble_eq_true rfl) dX8_brightest_3 ⟨Nat.le_of_ble_eq_true rfl, Nat.le_of_ble_eq_true rfl⟩ (fun _ => Nat.le_of_ble_eq_true rfl) (fun _ => rfl) (fun u H locs hp hG => ?_)
  refine lv_aload_n S.1 S.2.1 dX8_brightest_6 rfl (lv_at hl 0 rfl) ?_
  refine g_get S C hG iX80 0 rfl rfl 9 (by decide) (List.mem_of_getElem? (i := 1) rfl) rfl dX8_brightest_7 ?_
  refine lv_iload_n S.1 S.2.1 dX8_brightest_10 rfl (lv_at hl 1 rfl) ?_
  refine lv_iload_n S.1 S.2.1 dX8_brightest_11 rfl (lv_at hl 2 rfl) ?_
  refine lv_iload_n S.1 S.2.1 dX8_brightest_12 rfl (lv_at hl 3 rfl) ?_
  refine g_iconst S dX8_brightest_13 ?_
  refine g_invVv (As := [.int (iI y), .int (iI x), .int (iI z), .int (iI 1)]) (rest := []) (gs' := (fun u : Int × Int × Int × Int × Int × Int × RU × (Int → Int) => [gRLC K ad, gSvyC K (ad 10) (ad 3) (ad 53) y x (nX N y) u.1 u.2.1 u.2.2.1 u.2.2.2.1 u.2.2.2.2.1 u.2.2.2.2.2.1, gRayU K (ad 53) (ad 54) (ad 55) (ad 56) (ad 57) (ad 3) u.2.2.2.2.2.2.1 u.2.2.2.2.2.2.2, gScn K (ad 3) (ad 14) (ad 15) (ad 16) (ad 17) ou mi bo ln LF sn SF])) S C hG [1, 2, 3] (c_X6_findBest_1 l K (ad 10) vl vd vn vf vt ve vg vb vw (ad 53) (ad 54) (ad 55) (ad 56) (ad 57) (ad 3) rz zX (ad 14) (ad 15) (ad 16) (ad 17) ou mi bo ln LF sn SF N y x z hS hN hy hx (by omega) hvw) rfl rfl 0 rfl rfl (cwV 4 S.2.2.2.2 gX8_brightest_X6_findBest rfl rfl rfl (by decide +kernel) ⟨Nat.le_of_ble_eq_true rfl, Nat.le_of_ble_eq_true rfl⟩) rfl hl.1 rfl (Nat.le_of_ble_eq_true rfl) dX8_brightest_14 ⟨Nat.le_of_ble_eq_true rfl, Nat.le_of_ble_eq_true rfl⟩ (fun _ => Nat.le_of_ble_eq_true rfl) (fun _ => rfl) (fun u H locs hp hG => ?_)
  obtain ⟨uf2_14, ut2_14, ue2_14, ug2_14, ub2_14, uw2_14, rv2_14, X2_14⟩ := u
  obtain ⟨hE2_14, hB_14, hvw_14⟩ := hp
  have hE2_14 : EntOk N X2_14 := hE2_14
  have hB_14 : BestI N y x z (scG N y x 1) ((1 : Int) ≠ 2) (nX N y) ub2_14 uw2_14 := hB_14
  have hvw_14 : -3000000000 ≤ uw2_14 ∧ uw2_14 ≤ 3000000000 := hvw_14
  have hG : gW K A s.heap [gRLC K ad, gSvyC K (ad 10) (ad 3) (ad 53) y x (nX N y) uf2_14 ut2_14 ue2_14 ug2_14 ub2_14 uw2_14, gRayU K (ad 53) (ad 54) (ad 55) (ad 56) (ad 57) (ad 3) rv2_14 X2_14, gScn K (ad 3) (ad 14) (ad 15) (ad 16) (ad 17) ou mi bo ln LF sn SF] _ _ := hG
  refine lv_aload_n S.1 S.2.1 dX8_brightest_17 rfl (lv_at hl 0 rfl) ?_
  refine g_get S C hG iX80 0 rfl rfl 9 (by decide) (List.mem_of_getElem? (i := 1) rfl) rfl dX8_brightest_18 ?_
  refine g_get S C hG iX60 1 rfl rfl 9 (by decide) (List.mem_of_getElem? (i := 2) rfl) rfl dX8_brightest_21 ?_
  have hG : gW K A s.heap [gRLC K ad, gSvyC K (ad 10) (ad 3) (ad 53) y x (nX N y) uf2_14 ut2_14 ue2_14 ug2_14 ub2_14 uw2_14, gRayU K (ad 53) (ad 54) (ad 55) (ad 56) (ad 57) (ad 3) rv2_14 X2_14, gScn K (ad 3) (ad 14) (ad 15) (ad 16) (ad 17) ou mi bo ln LF sn SF] _ _ := hG
  exact g_iret S hr hlk hQ dX8_brightest_24 (Nat.le_of_ble_eq_true rfl) (Nat.le_of_ble_eq_true rfl) ((y, x, nX N y, uf2_14, ut2_14, ue2_14, ug2_14, ub2_14, uw2_14, rv2_14, X2_14) : Int × Int × Int × Int × Int × Int × Int × Int × Int × RU × (Int → Int)) ⟨rfl, hB_14, hvw_14⟩ hG

set_option maxHeartbeats 1000000 in
set_option maxRecDepth 100000 in
theorem x1_brightest (l : Launch) (K : KC) (ad : Nat → Nat) (ou : Int) (mi : Int) (bo : Int) (ln : Int) (LF : Int → Int) (sn : Int) (SF : Int → Int) (N : Int → Int) (vl : Int) (vd : Int) (vn : Int) (vf : Int) (vt : Int) (ve : Int) (vg : Int) (vb : Int) (vw : Int) (rz : RU) (zX : Int → Int) (y : Int) (x : Int) (z : Int) (hS : ScOk N ou mi bo ln LF sn SF) (hN : NOk0 N) (hv : -2147483648 ≤ y ∧ y < 2147483648) (hx : x = 0 ∨ x = 1) (hz : -2147483648 ≤ z ∧ z < 2147483648) (hvw : -3000000000 ≤ vw ∧ vw ≤ 3000000000) (h0 : ¬ (0 ≤ y ∧ y < N 0)) (hst : l.stackTraces = false) : mX l yX8_brightest wsX8_brightest 8 125 K [.ref (ad 0), .int (iI y), .int (iI x), .int (iI z)] [gRLC K ad, gSvyC K (ad 10) (ad 3) (ad 53) vl vd vn vf vt ve vg vb vw, gRayU K (ad 53) (ad 54) (ad 55) (ad 56) (ad 57) (ad 3) rz zX, gScn K (ad 3) (ad 14) (ad 15) (ad 16) (ad 17) ou mi bo ln LF sn SF] "java/lang/IndexOutOfBoundsException" (fun (u : Unit) => True) (fun (u : Unit) => [gRLC K ad, gSvyC K (ad 10) (ad 3) (ad 53) vl vd vn vf vt ve vg vb vw, gRayU K (ad 53) (ad 54) (ad 55) (ad 56) (ad 57) (ad 3) rz zX, gScn K (ad 3) (ad 14) (ad 15) (ad 16) (ad 17) ou mi bo ln LF sn SF]) 1 6 := by
  refine mX_of cX8_brightest 4 (by decide) rfl (Nat.le_of_ble_eq_true rfl) ?_
  intro p e s m below meth c A ls Q S C hG hl hex hlk hin hQ
  have S : CallFix p m c cX8_brightest 4 s ([.ref (ad 0), .int (iI y), .int (iI x), .int (iI z)] : List Value).toArray wsX8_brightest RX8 := S
  have iX80 : ∀ w ∈ wsX80, w ∈ wsX8_brightest := fun _ h => List.mem_cons_of_mem _ (List.mem_append_left _ (List.mem_append_left _ (List.mem_append_left _ (List.mem_append_left _ (List.mem_append_left _ (List.mem_append_left _ (List.mem_append_right _ (h))))))))
  have iX60 : ∀ w ∈ wsX60, w ∈ wsX8_brightest := fun _ h => List.mem_cons_of_mem _ (List.mem_append_left _ (List.mem_append_left _ (List.mem_append_left _ (List.mem_append_left _ (List.mem_append_left _ (List.mem_append_right _ (h)))))))
  have iX50 : ∀ w ∈ wsX50, w ∈ wsX8_brightest := fun _ h => List.mem_cons_of_mem _ (List.mem_append_left _ (List.mem_append_left _ (List.mem_append_left _ (List.mem_append_left _ (List.mem_append_right _ (h))))))
  have iX70 : ∀ w ∈ wsX70, w ∈ wsX8_brightest := fun _ h => List.mem_cons_of_mem _ (List.mem_append_left _ (List.mem_append_left _ (List.mem_append_left _ (List.mem_append_right _ (h)))))
  have iX40 : ∀ w ∈ wsX40, w ∈ wsX8_brightest := fun _ h => List.mem_cons_of_mem _ (List.mem_append_left _ (List.mem_append_left _ (List.mem_append_right _ (h))))
  have hl : lv_has ls 4 [(0, .ref (ad 0)), (1, .int (iI y)), (2, .int (iI x)), (3, .int (iI z))] := hl
  have hG : gW K A s.heap [gRLC K ad, gSvyC K (ad 10) (ad 3) (ad 53) vl vd vn vf vt ve vg vb vw, gRayU K (ad 53) (ad 54) (ad 55) (ad 56) (ad 57) (ad 3) rz zX, gScn K (ad 3) (ad 14) (ad 15) (ad 16) (ad 17) ou mi bo ln LF sn SF] s.heap [] := hG
  obtain ⟨e0, e1, e2, e3, e4, e5, e6⟩ := id hS
  have n0 := hN.1
  have n3 := hN.2.2.2.1
  refine lv_aload_n S.1 S.2.1 dX8_brightest_0 rfl (lv_at hl 0 rfl) ?_
  refine lv_iload_n S.1 S.2.1 dX8_brightest_1 rfl (lv_at hl 1 rfl) ?_
  refine lv_iload_n S.1 S.2.1 dX8_brightest_2 rfl (lv_at hl 3 rfl) ?_
  refine g_xV (E := "java/lang/IndexOutOfBoundsException") (As := [.int (iI y), .int (iI z)]) (rest := []) (gs' := (fun u : Unit => [gRLC K ad, gSvyC K (ad 10) (ad 3) (ad 53) vl vd vn vf vt ve vg vb vw, gRayU K (ad 53) (ad 54) (ad 55) (ad 56) (ad 57) (ad 3) rz zX, gScn K (ad 3) (ad 14) (ad 15) (ad 16) (ad 17) ou mi bo ln LF sn SF])) S C hG [0, 3] (x1_checkLayerAndEnd l K ad ou mi bo ln LF sn SF N y z hS hN hv hz h0 hst) rfl rfl 0 rfl rfl (cwV 2 S.2.2.2.2 gX8_brightest_X8_checkLayerAndEnd rfl rfl rfl (by decide +kernel) ⟨Nat.le_of_ble_eq_true rfl, Nat.le_of_ble_eq_true rfl⟩) rfl hl.1 rfl (Nat.le_of_ble_eq_true rfl) dX8_brightest_3 ⟨Nat.le_of_ble_eq_true rfl, Nat.le_of_ble_eq_true rfl⟩ (fun _ => Nat.le_of_ble_eq_true rfl) (fun _ => rfl) (fun u q9 ce9 H locs hp hG hq9 hv9 hcl9 => ?_)
  have hG : gW K A s.heap [gRLC K ad, gSvyC K (ad 10) (ad 3) (ad 53) vl vd vn vf vt ve vg vb vw, gRayU K (ad 53) (ad 54) (ad 55) (ad 56) (ad 57) (ad 3) rz zX, gScn K (ad 3) (ad 14) (ad 15) (ad 16) (ad 17) ou mi bo ln LF sn SF] _ _ := hG
  exact g_xout hQ hex hlk hq9 hv9 hcl9 (Nat.le_of_ble_eq_true rfl) (Nat.le_of_ble_eq_true rfl) (() : Unit) trivial hG

set_option maxHeartbeats 1000000 in
set_option maxRecDepth 100000 in
theorem x2_brightest (l : Launch) (K : KC) (ad : Nat → Nat) (ou : Int) (mi : Int) (bo : Int) (ln : Int) (LF : Int → Int) (sn : Int) (SF : Int → Int) (N : Int → Int) (vl : Int) (vd : Int) (vn : Int) (vf : Int) (vt : Int) (ve : Int) (vg : Int) (vb : Int) (vw : Int) (rz : RU) (zX : Int → Int) (y : Int) (x : Int) (z : Int) (hS : ScOk N ou mi bo ln LF sn SF) (hN : NOk0 N) (hv : -2147483648 ≤ y ∧ y < 2147483648) (hx : x = 0 ∨ x = 1) (hz : -2147483648 ≤ z ∧ z < 2147483648) (hvw : -3000000000 ≤ vw ∧ vw ≤ 3000000000) (hy : 0 ≤ y ∧ y < N 0) (h1 : ¬ (0 ≤ z ∧ z ≤ 3)) (hst : l.stackTraces = false) : mX l yX8_brightest wsX8_brightest 8 126 K [.ref (ad 0), .int (iI y), .int (iI x), .int (iI z)] [gRLC K ad, gSvyC K (ad 10) (ad 3) (ad 53) vl vd vn vf vt ve vg vb vw, gRayU K (ad 53) (ad 54) (ad 55) (ad 56) (ad 57) (ad 3) rz zX, gScn K (ad 3) (ad 14) (ad 15) (ad 16) (ad 17) ou mi bo ln LF sn SF] "java/lang/IllegalArgumentException" (fun (u : Unit) => True) (fun (u : Unit) => [gRLC K ad, gSvyC K (ad 10) (ad 3) (ad 53) vl vd vn vf vt ve vg vb vw, gRayU K (ad 53) (ad 54) (ad 55) (ad 56) (ad 57) (ad 3) rz zX, gScn K (ad 3) (ad 14) (ad 15) (ad 16) (ad 17) ou mi bo ln LF sn SF]) 1 6 := by
  refine mX_of cX8_brightest 4 (by decide) rfl (Nat.le_of_ble_eq_true rfl) ?_
  intro p e s m below meth c A ls Q S C hG hl hex hlk hin hQ
  have S : CallFix p m c cX8_brightest 4 s ([.ref (ad 0), .int (iI y), .int (iI x), .int (iI z)] : List Value).toArray wsX8_brightest RX8 := S
  have iX80 : ∀ w ∈ wsX80, w ∈ wsX8_brightest := fun _ h => List.mem_cons_of_mem _ (List.mem_append_left _ (List.mem_append_left _ (List.mem_append_left _ (List.mem_append_left _ (List.mem_append_left _ (List.mem_append_left _ (List.mem_append_right _ (h))))))))
  have iX60 : ∀ w ∈ wsX60, w ∈ wsX8_brightest := fun _ h => List.mem_cons_of_mem _ (List.mem_append_left _ (List.mem_append_left _ (List.mem_append_left _ (List.mem_append_left _ (List.mem_append_left _ (List.mem_append_right _ (h)))))))
  have iX50 : ∀ w ∈ wsX50, w ∈ wsX8_brightest := fun _ h => List.mem_cons_of_mem _ (List.mem_append_left _ (List.mem_append_left _ (List.mem_append_left _ (List.mem_append_left _ (List.mem_append_right _ (h))))))
  have iX70 : ∀ w ∈ wsX70, w ∈ wsX8_brightest := fun _ h => List.mem_cons_of_mem _ (List.mem_append_left _ (List.mem_append_left _ (List.mem_append_left _ (List.mem_append_right _ (h)))))
  have iX40 : ∀ w ∈ wsX40, w ∈ wsX8_brightest := fun _ h => List.mem_cons_of_mem _ (List.mem_append_left _ (List.mem_append_left _ (List.mem_append_right _ (h))))
  have hl : lv_has ls 4 [(0, .ref (ad 0)), (1, .int (iI y)), (2, .int (iI x)), (3, .int (iI z))] := hl
  have hG : gW K A s.heap [gRLC K ad, gSvyC K (ad 10) (ad 3) (ad 53) vl vd vn vf vt ve vg vb vw, gRayU K (ad 53) (ad 54) (ad 55) (ad 56) (ad 57) (ad 3) rz zX, gScn K (ad 3) (ad 14) (ad 15) (ad 16) (ad 17) ou mi bo ln LF sn SF] s.heap [] := hG
  obtain ⟨e0, e1, e2, e3, e4, e5, e6⟩ := id hS
  have n0 := hN.1
  have n3 := hN.2.2.2.1
  refine lv_aload_n S.1 S.2.1 dX8_brightest_0 rfl (lv_at hl 0 rfl) ?_
  refine lv_iload_n S.1 S.2.1 dX8_brightest_1 rfl (lv_at hl 1 rfl) ?_
  refine lv_iload_n S.1 S.2.1 dX8_brightest_2 rfl (lv_at hl 3 rfl) ?_
  refine g_xV (E := "java/lang/IllegalArgumentException") (As := [.int (iI y), .int (iI z)]) (rest := []) (gs' := (fun u : Unit => [gRLC K ad, gSvyC K (ad 10) (ad 3) (ad 53) vl vd vn vf vt ve vg vb vw, gRayU K (ad 53) (ad 54) (ad 55) (ad 56) (ad 57) (ad 3) rz zX, gScn K (ad 3) (ad 14) (ad 15) (ad 16) (ad 17) ou mi bo ln LF sn SF])) S C hG [0, 3] (x2_checkLayerAndEnd l K ad ou mi bo ln LF sn SF N y z hS hN hv hz hy h1 hst) rfl rfl 0 rfl rfl (cwV 2 S.2.2.2.2 gX8_brightest_X8_checkLayerAndEnd rfl rfl rfl (by decide +kernel) ⟨Nat.le_of_ble_eq_true rfl, Nat.le_of_ble_eq_true rfl⟩) rfl hl.1 rfl (Nat.le_of_ble_eq_true rfl) dX8_brightest_3 ⟨Nat.le_of_ble_eq_true rfl, Nat.le_of_ble_eq_true rfl⟩ (fun _ => Nat.le_of_ble_eq_true rfl) (fun _ => rfl) (fun u q9 ce9 H locs hp hG hq9 hv9 hcl9 => ?_)
  have hG : gW K A s.heap [gRLC K ad, gSvyC K (ad 10) (ad 3) (ad 53) vl vd vn vf vt ve vg vb vw, gRayU K (ad 53) (ad 54) (ad 55) (ad 56) (ad 57) (ad 3) rz zX, gScn K (ad 3) (ad 14) (ad 15) (ad 16) (ad 17) ou mi bo ln LF sn SF] _ _ := hG
  exact g_xout hQ hex hlk hq9 hv9 hcl9 (Nat.le_of_ble_eq_true rfl) (Nat.le_of_ble_eq_true rfl) (() : Unit) trivial hG

set_option maxHeartbeats 1000000 in
set_option maxRecDepth 100000 in
theorem c_X8_farthest (l : Launch) (K : KC) (ad : Nat → Nat) (ou : Int) (mi : Int) (bo : Int) (ln : Int) (LF : Int → Int) (sn : Int) (SF : Int → Int) (N : Int → Int) (vl : Int) (vd : Int) (vn : Int) (vf : Int) (vt : Int) (ve : Int) (vg : Int) (vb : Int) (vw : Int) (rz : RU) (zX : Int → Int) (y : Int) (x : Int) (z : Int) (hS : ScOk N ou mi bo ln LF sn SF) (hN : NOk0 N) (hv : -2147483648 ≤ y ∧ y < 2147483648) (hx : x = 0 ∨ x = 1) (hz : -2147483648 ≤ z ∧ z < 2147483648) (hvw : -3000000000 ≤ vw ∧ vw ≤ 3000000000) (hy : 0 ≤ y ∧ y < N 0) (h1 : 0 ≤ z ∧ z ≤ 3) : mG l yX8_farthest wsX8_farthest 6 143 K [.ref (ad 0), .int (iI y), .int (iI x), .int (iI z)] [gRLC K ad, gSvyC K (ad 10) (ad 3) (ad 53) vl vd vn vf vt ve vg vb vw, gRayU K (ad 53) (ad 54) (ad 55) (ad 56) (ad 57) (ad 3) rz zX, gScn K (ad 3) (ad 14) (ad 15) (ad 16) (ad 17) ou mi bo ln LF sn SF] (fun (v : Value) (u : Int × Int × Int × Int × Int × Int × Int × Int × Int × RU × (Int → Int)) => (v = .int (iI (if u.2.2.2.2.2.2.2.1 = -1 then -1 else u.2.2.2.2.2.2.2.2.1))) ∧ (BestI N y x z (scG N y x 2) ((2 : Int) ≠ 2) (nX N y) u.2.2.2.2.2.2.2.1 u.2.2.2.2.2.2.2.2.1) ∧ (-3000000000 ≤ u.2.2.2.2.2.2.2.2.1 ∧ u.2.2.2.2.2.2.2.2.1 ≤ 3000000000)) (fun (u : Int × Int × Int × Int × Int × Int × Int × Int × Int × RU × (Int → Int)) => [gRLC K ad, gSvyC K (ad 10) (ad 3) (ad 53) u.1 u.2.1 u.2.2.1 u.2.2.2.1 u.2.2.2.2.1 u.2.2.2.2.2.1 u.2.2.2.2.2.2.1 u.2.2.2.2.2.2.2.1 u.2.2.2.2.2.2.2.2.1, gRayU K (ad 53) (ad 54) (ad 55) (ad 56) (ad 57) (ad 3) u.2.2.2.2.2.2.2.2.2.1 u.2.2.2.2.2.2.2.2.2.2, gScn K (ad 3) (ad 14) (ad 15) (ad 16) (ad 17) ou mi bo ln LF sn SF]) 0 0 := by
  refine mG_of cX8_farthest 4 (by decide) rfl (Nat.le_of_ble_eq_true rfl) ?_
  intro p e s m below meth c A ls Q S C hG hl hr hlk hin hQ
  have S : CallFix p m c cX8_farthest 4 s ([.ref (ad 0), .int (iI y), .int (iI x), .int (iI z)] : List Value).toArray wsX8_farthest RX8 := S
  have iX80 : ∀ w ∈ wsX80, w ∈ wsX8_farthest := fun _ h => List.mem_cons_of_mem _ (List.mem_append_left _ (List.mem_append_left _ (List.mem_append_left _ (List.mem_append_left _ (List.mem_append_left _ (List.mem_append_left _ (List.mem_append_right _ (h))))))))
  have iX60 : ∀ w ∈ wsX60, w ∈ wsX8_farthest := fun _ h => List.mem_cons_of_mem _ (List.mem_append_left _ (List.mem_append_left _ (List.mem_append_left _ (List.mem_append_left _ (List.mem_append_left _ (List.mem_append_right _ (h)))))))
  have iX50 : ∀ w ∈ wsX50, w ∈ wsX8_farthest := fun _ h => List.mem_cons_of_mem _ (List.mem_append_left _ (List.mem_append_left _ (List.mem_append_left _ (List.mem_append_left _ (List.mem_append_right _ (h))))))
  have iX70 : ∀ w ∈ wsX70, w ∈ wsX8_farthest := fun _ h => List.mem_cons_of_mem _ (List.mem_append_left _ (List.mem_append_left _ (List.mem_append_left _ (List.mem_append_right _ (h)))))
  have iX40 : ∀ w ∈ wsX40, w ∈ wsX8_farthest := fun _ h => List.mem_cons_of_mem _ (List.mem_append_left _ (List.mem_append_left _ (List.mem_append_right _ (h))))
  have hl : lv_has ls 4 [(0, .ref (ad 0)), (1, .int (iI y)), (2, .int (iI x)), (3, .int (iI z))] := hl
  have hG : gW K A s.heap [gRLC K ad, gSvyC K (ad 10) (ad 3) (ad 53) vl vd vn vf vt ve vg vb vw, gRayU K (ad 53) (ad 54) (ad 55) (ad 56) (ad 57) (ad 3) rz zX, gScn K (ad 3) (ad 14) (ad 15) (ad 16) (ad 17) ou mi bo ln LF sn SF] s.heap [] := hG
  obtain ⟨e0, e1, e2, e3, e4, e5, e6⟩ := id hS
  have n0 := hN.1
  have n3 := hN.2.2.2.1
  have nx := (lay_bd hN hy.1 hy.2).1
  refine lv_aload_n S.1 S.2.1 dX8_farthest_0 rfl (lv_at hl 0 rfl) ?_
  refine lv_iload_n S.1 S.2.1 dX8_farthest_1 rfl (lv_at hl 1 rfl) ?_
  refine lv_iload_n S.1 S.2.1 dX8_farthest_2 rfl (lv_at hl 3 rfl) ?_
  refine g_invVv (As := [.int (iI y), .int (iI z)]) (rest := []) (gs' := (fun u : Unit => [gRLC K ad, gSvyC K (ad 10) (ad 3) (ad 53) vl vd vn vf vt ve vg vb vw, gRayU K (ad 53) (ad 54) (ad 55) (ad 56) (ad 57) (ad 3) rz zX, gScn K (ad 3) (ad 14) (ad 15) (ad 16) (ad 17) ou mi bo ln LF sn SF])) S C hG [0, 3] (c_X8_checkLayerAndEnd l K ad ou mi bo ln LF sn SF N y z hS hN hv hz hy h1) rfl rfl 0 rfl rfl (cwV 2 S.2.2.2.2 gX8_farthest_X8_checkLayerAndEnd rfl rfl rfl (by decide +kernel) ⟨Nat.le_of_ble_eq_true rfl, Nat.le_of_ble_eq_true rfl⟩) rfl hl.1 rfl (Nat.le_of_ble_eq_true rfl) dX8_farthest_3 ⟨Nat.le_of_ble_eq_true rfl, Nat.le_of_ble_eq_true rfl⟩ (fun _ => Nat.le_of_ble_eq_true rfl) (fun _ => rfl) (fun u H locs hp hG => ?_)
  refine lv_aload_n S.1 S.2.1 dX8_farthest_6 rfl (lv_at hl 0 rfl) ?_
  refine g_get S C hG iX80 0 rfl rfl 9 (by decide) (List.mem_of_getElem? (i := 1) rfl) rfl dX8_farthest_7 ?_
  refine lv_iload_n S.1 S.2.1 dX8_farthest_10 rfl (lv_at hl 1 rfl) ?_
  refine lv_iload_n S.1 S.2.1 dX8_farthest_11 rfl (lv_at hl 2 rfl) ?_
  refine lv_iload_n S.1 S.2.1 dX8_farthest_12 rfl (lv_at hl 3 rfl) ?_
  refine g_iconst S dX8_farthest_13 ?_
  refine g_invVv (As := [.int (iI y), .int (iI x), .int (iI z), .int (iI 2)]) (rest := []) (gs' := (fun u : Int × Int × Int × Int × Int × Int × RU × (Int → Int) => [gRLC K ad, gSvyC K (ad 10) (ad 3) (ad 53) y x (nX N y) u.1 u.2.1 u.2.2.1 u.2.2.2.1 u.2.2.2.2.1 u.2.2.2.2.2.1, gRayU K (ad 53) (ad 54) (ad 55) (ad 56) (ad 57) (ad 3) u.2.2.2.2.2.2.1 u.2.2.2.2.2.2.2, gScn K (ad 3) (ad 14) (ad 15) (ad 16) (ad 17) ou mi bo ln LF sn SF])) S C hG [1, 2, 3] (c_X6_findBest_2 l K (ad 10) vl vd vn vf vt ve vg vb vw (ad 53) (ad 54) (ad 55) (ad 56) (ad 57) (ad 3) rz zX (ad 14) (ad 15) (ad 16) (ad 17) ou mi bo ln LF sn SF N y x z hS hN hy hx (by omega) hvw) rfl rfl 0 rfl rfl (cwV 4 S.2.2.2.2 gX8_farthest_X6_findBest rfl rfl rfl (by decide +kernel) ⟨Nat.le_of_ble_eq_true rfl, Nat.le_of_ble_eq_true rfl⟩) rfl hl.1 rfl (Nat.le_of_ble_eq_true rfl) dX8_farthest_14 ⟨Nat.le_of_ble_eq_true rfl, Nat.le_of_ble_eq_true rfl⟩ (fun _ => Nat.le_of_ble_eq_true rfl) (fun _ => rfl) (fun u H locs hp hG => ?_)
  obtain ⟨uf2_14, ut2_14, ue2_14, ug2_14, ub2_14, uw2_14, rv2_14, X2_14⟩ := u
  obtain ⟨hE2_14, hB_14, hvw_14⟩ := hp
  have hE2_14 : EntOk N X2_14 := hE2_14
  have hB_14 : BestI N y x z (scG N y x 2) ((2 : Int) ≠ 2) (nX N y) ub2_14 uw2_14 := hB_14
  have hvw_14 : -3000000000 ≤ uw2_14 ∧ uw2_14 ≤ 3000000000 := hvw_14
  have hG : gW K A s.heap [gRLC K ad, gSvyC K (ad 10) (ad 3) (ad 53) y x (nX N y) uf2_14 ut2_14 ue2_14 ug2_14 ub2_14 uw2_14, gRayU K (ad 53) (ad 54) (ad 55) (ad 56) (ad 57) (ad 3) rv2_14 X2_14, gScn K (ad 3) (ad 14) (ad 15) (ad 16) (ad 17) ou mi bo ln LF sn SF] _ _ := hG
  refine lv_aload_n S.1 S.2.1 dX8_farthest_17 rfl (lv_at hl 0 rfl) ?_
  refine g_get S C hG iX80 0 rfl rfl 9 (by decide) (List.mem_of_getElem? (i := 1) rfl) rfl dX8_farthest_18 ?_
  refine g_get S C hG iX60 1 rfl rfl 9 (by decide) (List.mem_of_getElem? (i := 2) rfl) rfl dX8_farthest_21 ?_
  have bd9 := hB_14.bd (by omega)
  refine g_iconst S dX8_farthest_24 ?_
  refine g_icmp_ne (tgt := 32) S dX8_farthest_25 (by decide) (by omega) (by omega) (fun q25 => ?_) (fun q25 => ?_)
  · skip
    refine lv_aload_n S.1 S.2.1 dX8_farthest_32 rfl (lv_at hl 0 rfl) ?_
    refine g_get S C hG iX80 0 rfl rfl 9 (by decide) (List.mem_of_getElem? (i := 1) rfl) rfl dX8_farthest_33 ?_
    refine g_get S C hG iX60 1 rfl rfl 10 (by decide) (List.mem_of_getElem? (i := 3) rfl) rfl dX8_farthest_36 ?_
    refine g_l2i S dX8_farthest_39 ?_
    have hG : gW K A s.heap [gRLC K ad, gSvyC K (ad 10) (ad 3) (ad 53) y x (nX N y) uf2_14 ut2_14 ue2_14 ug2_14 ub2_14 uw2_14, gRayU K (ad 53) (ad 54) (ad 55) (ad 56) (ad 57) (ad 3) rv2_14 X2_14, gScn K (ad 3) (ad 14) (ad 15) (ad 16) (ad 17) ou mi bo ln LF sn SF] _ _ := hG
    exact g_iret S hr hlk hQ dX8_farthest_40 (Nat.le_of_ble_eq_true rfl) (Nat.le_of_ble_eq_true rfl) ((y, x, nX N y, uf2_14, ut2_14, ue2_14, ug2_14, ub2_14, uw2_14, rv2_14, X2_14) : Int × Int × Int × Int × Int × Int × Int × Int × Int × RU × (Int → Int)) ⟨(congrArg (fun z : Int => Value.int (iI z)) (by show uw2_14 = (if ub2_14 = -1 then -1 else uw2_14) <;> rw [if_neg q25])), hB_14, hvw_14⟩ hG
  · skip
    refine g_iconst S dX8_farthest_28 ?_
    refine lv_goto (tgt := 40) S.1 S.2.1 dX8_farthest_29 (by decide) ?_
    have hG : gW K A s.heap [gRLC K ad, gSvyC K (ad 10) (ad 3) (ad 53) y x (nX N y) uf2_14 ut2_14 ue2_14 ug2_14 ub2_14 uw2_14, gRayU K (ad 53) (ad 54) (ad 55) (ad 56) (ad 57) (ad 3) rv2_14 X2_14, gScn K (ad 3) (ad 14) (ad 15) (ad 16) (ad 17) ou mi bo ln LF sn SF] _ _ := hG
    exact g_iret S hr hlk hQ dX8_farthest_40 (Nat.le_of_ble_eq_true rfl) (Nat.le_of_ble_eq_true rfl) ((y, x, nX N y, uf2_14, ut2_14, ue2_14, ug2_14, ub2_14, uw2_14, rv2_14, X2_14) : Int × Int × Int × Int × Int × Int × Int × Int × Int × RU × (Int → Int)) ⟨(congrArg (fun z : Int => Value.int (iI z)) (by show (-1 : Int) = (if ub2_14 = -1 then -1 else uw2_14) <;> rw [if_pos (by omega)])), hB_14, hvw_14⟩ hG

set_option maxHeartbeats 1000000 in
set_option maxRecDepth 100000 in
theorem x1_farthest (l : Launch) (K : KC) (ad : Nat → Nat) (ou : Int) (mi : Int) (bo : Int) (ln : Int) (LF : Int → Int) (sn : Int) (SF : Int → Int) (N : Int → Int) (vl : Int) (vd : Int) (vn : Int) (vf : Int) (vt : Int) (ve : Int) (vg : Int) (vb : Int) (vw : Int) (rz : RU) (zX : Int → Int) (y : Int) (x : Int) (z : Int) (hS : ScOk N ou mi bo ln LF sn SF) (hN : NOk0 N) (hv : -2147483648 ≤ y ∧ y < 2147483648) (hx : x = 0 ∨ x = 1) (hz : -2147483648 ≤ z ∧ z < 2147483648) (hvw : -3000000000 ≤ vw ∧ vw ≤ 3000000000) (h0 : ¬ (0 ≤ y ∧ y < N 0)) (hst : l.stackTraces = false) : mX l yX8_farthest wsX8_farthest 8 125 K [.ref (ad 0), .int (iI y), .int (iI x), .int (iI z)] [gRLC K ad, gSvyC K (ad 10) (ad 3) (ad 53) vl vd vn vf vt ve vg vb vw, gRayU K (ad 53) (ad 54) (ad 55) (ad 56) (ad 57) (ad 3) rz zX, gScn K (ad 3) (ad 14) (ad 15) (ad 16) (ad 17) ou mi bo ln LF sn SF] "java/lang/IndexOutOfBoundsException" (fun (u : Unit) => True) (fun (u : Unit) => [gRLC K ad, gSvyC K (ad 10) (ad 3) (ad 53) vl vd vn vf vt ve vg vb vw, gRayU K (ad 53) (ad 54) (ad 55) (ad 56) (ad 57) (ad 3) rz zX, gScn K (ad 3) (ad 14) (ad 15) (ad 16) (ad 17) ou mi bo ln LF sn SF]) 1 6 := by
  refine mX_of cX8_farthest 4 (by decide) rfl (Nat.le_of_ble_eq_true rfl) ?_
  intro p e s m below meth c A ls Q S C hG hl hex hlk hin hQ
  have S : CallFix p m c cX8_farthest 4 s ([.ref (ad 0), .int (iI y), .int (iI x), .int (iI z)] : List Value).toArray wsX8_farthest RX8 := S
  have iX80 : ∀ w ∈ wsX80, w ∈ wsX8_farthest := fun _ h => List.mem_cons_of_mem _ (List.mem_append_left _ (List.mem_append_left _ (List.mem_append_left _ (List.mem_append_left _ (List.mem_append_left _ (List.mem_append_left _ (List.mem_append_right _ (h))))))))
  have iX60 : ∀ w ∈ wsX60, w ∈ wsX8_farthest := fun _ h => List.mem_cons_of_mem _ (List.mem_append_left _ (List.mem_append_left _ (List.mem_append_left _ (List.mem_append_left _ (List.mem_append_left _ (List.mem_append_right _ (h)))))))
  have iX50 : ∀ w ∈ wsX50, w ∈ wsX8_farthest := fun _ h => List.mem_cons_of_mem _ (List.mem_append_left _ (List.mem_append_left _ (List.mem_append_left _ (List.mem_append_left _ (List.mem_append_right _ (h))))))
  have iX70 : ∀ w ∈ wsX70, w ∈ wsX8_farthest := fun _ h => List.mem_cons_of_mem _ (List.mem_append_left _ (List.mem_append_left _ (List.mem_append_left _ (List.mem_append_right _ (h)))))
  have iX40 : ∀ w ∈ wsX40, w ∈ wsX8_farthest := fun _ h => List.mem_cons_of_mem _ (List.mem_append_left _ (List.mem_append_left _ (List.mem_append_right _ (h))))
  have hl : lv_has ls 4 [(0, .ref (ad 0)), (1, .int (iI y)), (2, .int (iI x)), (3, .int (iI z))] := hl
  have hG : gW K A s.heap [gRLC K ad, gSvyC K (ad 10) (ad 3) (ad 53) vl vd vn vf vt ve vg vb vw, gRayU K (ad 53) (ad 54) (ad 55) (ad 56) (ad 57) (ad 3) rz zX, gScn K (ad 3) (ad 14) (ad 15) (ad 16) (ad 17) ou mi bo ln LF sn SF] s.heap [] := hG
  obtain ⟨e0, e1, e2, e3, e4, e5, e6⟩ := id hS
  have n0 := hN.1
  have n3 := hN.2.2.2.1
  refine lv_aload_n S.1 S.2.1 dX8_farthest_0 rfl (lv_at hl 0 rfl) ?_
  refine lv_iload_n S.1 S.2.1 dX8_farthest_1 rfl (lv_at hl 1 rfl) ?_
  refine lv_iload_n S.1 S.2.1 dX8_farthest_2 rfl (lv_at hl 3 rfl) ?_
  refine g_xV (E := "java/lang/IndexOutOfBoundsException") (As := [.int (iI y), .int (iI z)]) (rest := []) (gs' := (fun u : Unit => [gRLC K ad, gSvyC K (ad 10) (ad 3) (ad 53) vl vd vn vf vt ve vg vb vw, gRayU K (ad 53) (ad 54) (ad 55) (ad 56) (ad 57) (ad 3) rz zX, gScn K (ad 3) (ad 14) (ad 15) (ad 16) (ad 17) ou mi bo ln LF sn SF])) S C hG [0, 3] (x1_checkLayerAndEnd l K ad ou mi bo ln LF sn SF N y z hS hN hv hz h0 hst) rfl rfl 0 rfl rfl (cwV 2 S.2.2.2.2 gX8_farthest_X8_checkLayerAndEnd rfl rfl rfl (by decide +kernel) ⟨Nat.le_of_ble_eq_true rfl, Nat.le_of_ble_eq_true rfl⟩) rfl hl.1 rfl (Nat.le_of_ble_eq_true rfl) dX8_farthest_3 ⟨Nat.le_of_ble_eq_true rfl, Nat.le_of_ble_eq_true rfl⟩ (fun _ => Nat.le_of_ble_eq_true rfl) (fun _ => rfl) (fun u q9 ce9 H locs hp hG hq9 hv9 hcl9 => ?_)
  have hG : gW K A s.heap [gRLC K ad, gSvyC K (ad 10) (ad 3) (ad 53) vl vd vn vf vt ve vg vb vw, gRayU K (ad 53) (ad 54) (ad 55) (ad 56) (ad 57) (ad 3) rz zX, gScn K (ad 3) (ad 14) (ad 15) (ad 16) (ad 17) ou mi bo ln LF sn SF] _ _ := hG
  exact g_xout hQ hex hlk hq9 hv9 hcl9 (Nat.le_of_ble_eq_true rfl) (Nat.le_of_ble_eq_true rfl) (() : Unit) trivial hG

set_option maxHeartbeats 1000000 in
set_option maxRecDepth 100000 in
theorem x2_farthest (l : Launch) (K : KC) (ad : Nat → Nat) (ou : Int) (mi : Int) (bo : Int) (ln : Int) (LF : Int → Int) (sn : Int) (SF : Int → Int) (N : Int → Int) (vl : Int) (vd : Int) (vn : Int) (vf : Int) (vt : Int) (ve : Int) (vg : Int) (vb : Int) (vw : Int) (rz : RU) (zX : Int → Int) (y : Int) (x : Int) (z : Int) (hS : ScOk N ou mi bo ln LF sn SF) (hN : NOk0 N) (hv : -2147483648 ≤ y ∧ y < 2147483648) (hx : x = 0 ∨ x = 1) (hz : -2147483648 ≤ z ∧ z < 2147483648) (hvw : -3000000000 ≤ vw ∧ vw ≤ 3000000000) (hy : 0 ≤ y ∧ y < N 0) (h1 : ¬ (0 ≤ z ∧ z ≤ 3)) (hst : l.stackTraces = false) : mX l yX8_farthest wsX8_farthest 8 126 K [.ref (ad 0), .int (iI y), .int (iI x), .int (iI z)] [gRLC K ad, gSvyC K (ad 10) (ad 3) (ad 53) vl vd vn vf vt ve vg vb vw, gRayU K (ad 53) (ad 54) (ad 55) (ad 56) (ad 57) (ad 3) rz zX, gScn K (ad 3) (ad 14) (ad 15) (ad 16) (ad 17) ou mi bo ln LF sn SF] "java/lang/IllegalArgumentException" (fun (u : Unit) => True) (fun (u : Unit) => [gRLC K ad, gSvyC K (ad 10) (ad 3) (ad 53) vl vd vn vf vt ve vg vb vw, gRayU K (ad 53) (ad 54) (ad 55) (ad 56) (ad 57) (ad 3) rz zX, gScn K (ad 3) (ad 14) (ad 15) (ad 16) (ad 17) ou mi bo ln LF sn SF]) 1 6 := by
  refine mX_of cX8_farthest 4 (by decide) rfl (Nat.le_of_ble_eq_true rfl) ?_
  intro p e s m below meth c A ls Q S C hG hl hex hlk hin hQ
  have S : CallFix p m c cX8_farthest 4 s ([.ref (ad 0), .int (iI y), .int (iI x), .int (iI z)] : List Value).toArray wsX8_farthest RX8 := S
  have iX80 : ∀ w ∈ wsX80, w ∈ wsX8_farthest := fun _ h => List.mem_cons_of_mem _ (List.mem_append_left _ (List.mem_append_left _ (List.mem_append_left _ (List.mem_append_left _ (List.mem_append_left _ (List.mem_append_left _ (List.mem_append_right _ (h))))))))
  have iX60 : ∀ w ∈ wsX60, w ∈ wsX8_farthest := fun _ h => List.mem_cons_of_mem _ (List.mem_append_left _ (List.mem_append_left _ (List.mem_append_left _ (List.mem_append_left _ (List.mem_append_left _ (List.mem_append_right _ (h)))))))
  have iX50 : ∀ w ∈ wsX50, w ∈ wsX8_farthest := fun _ h => List.mem_cons_of_mem _ (List.mem_append_left _ (List.mem_append_left _ (List.mem_append_left _ (List.mem_append_left _ (List.mem_append_right _ (h))))))
  have iX70 : ∀ w ∈ wsX70, w ∈ wsX8_farthest := fun _ h => List.mem_cons_of_mem _ (List.mem_append_left _ (List.mem_append_left _ (List.mem_append_left _ (List.mem_append_right _ (h)))))
  have iX40 : ∀ w ∈ wsX40, w ∈ wsX8_farthest := fun _ h => List.mem_cons_of_mem _ (List.mem_append_left _ (List.mem_append_left _ (List.mem_append_right _ (h))))
  have hl : lv_has ls 4 [(0, .ref (ad 0)), (1, .int (iI y)), (2, .int (iI x)), (3, .int (iI z))] := hl
  have hG : gW K A s.heap [gRLC K ad, gSvyC K (ad 10) (ad 3) (ad 53) vl vd vn vf vt ve vg vb vw, gRayU K (ad 53) (ad 54) (ad 55) (ad 56) (ad 57) (ad 3) rz zX, gScn K (ad 3) (ad 14) (ad 15) (ad 16) (ad 17) ou mi bo ln LF sn SF] s.heap [] := hG
  obtain ⟨e0, e1, e2, e3, e4, e5, e6⟩ := id hS
  have n0 := hN.1
  have n3 := hN.2.2.2.1
  refine lv_aload_n S.1 S.2.1 dX8_farthest_0 rfl (lv_at hl 0 rfl) ?_
  refine lv_iload_n S.1 S.2.1 dX8_farthest_1 rfl (lv_at hl 1 rfl) ?_
  refine lv_iload_n S.1 S.2.1 dX8_farthest_2 rfl (lv_at hl 3 rfl) ?_
  refine g_xV (E := "java/lang/IllegalArgumentException") (As := [.int (iI y), .int (iI z)]) (rest := []) (gs' := (fun u : Unit => [gRLC K ad, gSvyC K (ad 10) (ad 3) (ad 53) vl vd vn vf vt ve vg vb vw, gRayU K (ad 53) (ad 54) (ad 55) (ad 56) (ad 57) (ad 3) rz zX, gScn K (ad 3) (ad 14) (ad 15) (ad 16) (ad 17) ou mi bo ln LF sn SF])) S C hG [0, 3] (x2_checkLayerAndEnd l K ad ou mi bo ln LF sn SF N y z hS hN hv hz hy h1 hst) rfl rfl 0 rfl rfl (cwV 2 S.2.2.2.2 gX8_farthest_X8_checkLayerAndEnd rfl rfl rfl (by decide +kernel) ⟨Nat.le_of_ble_eq_true rfl, Nat.le_of_ble_eq_true rfl⟩) rfl hl.1 rfl (Nat.le_of_ble_eq_true rfl) dX8_farthest_3 ⟨Nat.le_of_ble_eq_true rfl, Nat.le_of_ble_eq_true rfl⟩ (fun _ => Nat.le_of_ble_eq_true rfl) (fun _ => rfl) (fun u q9 ce9 H locs hp hG hq9 hv9 hcl9 => ?_)
  have hG : gW K A s.heap [gRLC K ad, gSvyC K (ad 10) (ad 3) (ad 53) vl vd vn vf vt ve vg vb vw, gRayU K (ad 53) (ad 54) (ad 55) (ad 56) (ad 57) (ad 3) rz zX, gScn K (ad 3) (ad 14) (ad 15) (ad 16) (ad 17) ou mi bo ln LF sn SF] _ _ := hG
  exact g_xout hQ hex hlk hq9 hv9 hcl9 (Nat.le_of_ble_eq_true rfl) (Nat.le_of_ble_eq_true rfl) (() : Unit) trivial hG

set_option maxHeartbeats 1000000 in
set_option maxRecDepth 100000 in
theorem c_X8_guide (l : Launch) (K : KC) (ad : Nat → Nat) (ou : Int) (mi : Int) (bo : Int) (ln : Int) (LF : Int → Int) (sn : Int) (SF : Int → Int) (N : Int → Int) (vl : Int) (vd : Int) (vn : Int) (vf : Int) (vt : Int) (ve : Int) (vg : Int) (vb : Int) (vw : Int) (rz : RU) (zX : Int → Int) (hS : ScOk N ou mi bo ln LF sn SF) (hN : NOk0 N) (hvw : -3000000000 ≤ vw ∧ vw ≤ 3000000000) : mG l yX8_guide wsX8_guide 6 142 K [.ref (ad 0)] [gRLC K ad, gSvyC K (ad 10) (ad 3) (ad 53) vl vd vn vf vt ve vg vb vw, gRayU K (ad 53) (ad 54) (ad 55) (ad 56) (ad 57) (ad 3) rz zX, gScn K (ad 3) (ad 14) (ad 15) (ad 16) (ad 17) ou mi bo ln LF sn SF] (fun (v : Value) (u : Int × Int × Int × Int × Int × Int × Int × Int × Int × RU × (Int → Int)) => (v = .int (iI ((busN (fun i : Nat => cntS N (i : Int) 1 3 (nX N (i : Int)).toNat) (N 0).toNat).1))) ∧ (-3000000000 ≤ u.2.2.2.2.2.2.2.2.1 ∧ u.2.2.2.2.2.2.2.2.1 ≤ 3000000000)) (fun (u : Int × Int × Int × Int × Int × Int × Int × Int × Int × RU × (Int → Int)) => [gRLC K ad, gSvyC K (ad 10) (ad 3) (ad 53) u.1 u.2.1 u.2.2.1 u.2.2.2.1 u.2.2.2.2.1 u.2.2.2.2.2.1 u.2.2.2.2.2.2.1 u.2.2.2.2.2.2.2.1 u.2.2.2.2.2.2.2.2.1, gRayU K (ad 53) (ad 54) (ad 55) (ad 56) (ad 57) (ad 3) u.2.2.2.2.2.2.2.2.2.1 u.2.2.2.2.2.2.2.2.2.2, gScn K (ad 3) (ad 14) (ad 15) (ad 16) (ad 17) ou mi bo ln LF sn SF]) 0 0 := by
  refine mG_of cX8_guide 5 (by decide) rfl (Nat.le_of_ble_eq_true rfl) ?_
  intro p e s m below meth c A ls Q S C hG hl hr hlk hin hQ
  have S : CallFix p m c cX8_guide 5 s ([.ref (ad 0)] : List Value).toArray wsX8_guide RX8 := S
  have iX80 : ∀ w ∈ wsX80, w ∈ wsX8_guide := fun _ h => List.mem_cons_of_mem _ (List.mem_append_left _ (List.mem_append_left _ (List.mem_append_left _ (List.mem_append_left _ (List.mem_append_right _ (h))))))
  have iX50 : ∀ w ∈ wsX50, w ∈ wsX8_guide := fun _ h => List.mem_cons_of_mem _ (List.mem_append_left _ (List.mem_append_left _ (List.mem_append_left _ (List.mem_append_right _ (h)))))
  have iX70 : ∀ w ∈ wsX70, w ∈ wsX8_guide := fun _ h => List.mem_cons_of_mem _ (List.mem_append_left _ (List.mem_append_left _ (List.mem_append_right _ (h))))
  have iX60 : ∀ w ∈ wsX60, w ∈ wsX8_guide := fun _ h => List.mem_cons_of_mem _ (List.mem_append_left _ (List.mem_append_right _ (h)))
  have iX40 : ∀ w ∈ wsX40, w ∈ wsX8_guide := fun _ h => List.mem_cons_of_mem _ (List.mem_append_right _ (h))
  have hl : lv_has ls 5 [(0, .ref (ad 0))] := hl
  have hG : gW K A s.heap [gRLC K ad, gSvyC K (ad 10) (ad 3) (ad 53) vl vd vn vf vt ve vg vb vw, gRayU K (ad 53) (ad 54) (ad 55) (ad 56) (ad 57) (ad 3) rz zX, gScn K (ad 3) (ad 14) (ad 15) (ad 16) (ad 17) ou mi bo ln LF sn SF] s.heap [] := hG
  obtain ⟨e0, e1, e2, e3, e4, e5, e6⟩ := id hS
  have n0 := hN.1
  have n3 := hN.2.2.2.1
  refine g_iconst S dX8_guide_0 ?_
  refine lv_istore_n (lv' := [(1, .int (iI (-1))), (0, .ref (ad 0))]) S.1 S.2.1 dX8_guide_1 rfl hl (by decide) rfl (fun ls hl => ?_)
  refine g_iconst S dX8_guide_2 ?_
  refine lv_istore_n (lv' := [(2, .int (iI 0)), (1, .int (iI (-1))), (0, .ref (ad 0))]) S.1 S.2.1 dX8_guide_3 rfl hl (by decide) rfl (fun ls hl => ?_)
  refine g_iconst S dX8_guide_4 ?_
  refine lv_istore_n (lv' := [(3, .int (iI 0)), (2, .int (iI 0)), (1, .int (iI (-1))), (0, .ref (ad 0))]) S.1 S.2.1 dX8_guide_5 rfl hl (by decide) rfl (fun ls hl => ?_)
  have L6 : ∀ (fu : Nat) (k : Nat) (w : Int) (bb : Int) (mm : Int) (vl1 : Int) (vd1 : Int) (vn1 : Int) (vf1 : Int) (vt1 : Int) (ve1 : Int) (vg1 : Int) (vb1 : Int) (vw1 : Int) (rz1 : RU) (zX1 : Int → Int) (H : Heap) (locs : List Loc) (ls : Array Slot), ((N 0 - w).toNat) < fu → (w = (k : Int) ∧ w ≤ N 0) → (bb = (busN (fun i : Nat => cntS N (i : Int) 1 3 (nX N (i : Int)).toNat) k).1 ∧ mm = (busN (fun i : Nat => cntS N (i : Int) 1 3 (nX N (i : Int)).toNat) k).2) → (0 ≤ mm ∧ mm ≤ 4000 ∧ -1 ≤ bb ∧ bb ≤ 10) → (-3000000000 ≤ vw1 ∧ vw1 ≤ 3000000000) → lv_has ls 5 [(0, .ref (ad 0)), (1, .int (iI bb)), (2, .int (iI mm)), (3, .int (iI w))] → gW K A s.heap [gRLC K ad, gSvyC K (ad 10) (ad 3) (ad 53) vl1 vd1 vn1 vf1 vt1 ve1 vg1 vb1 vw1, gRayU K (ad 53) (ad 54) (ad 55) (ad 56) (ad 57) (ad 3) rz1 zX1, gScn K (ad 3) (ad 14) (ad 15) (ad 16) (ad 17) ou mi bo ln LF sn SF] H locs → W p l e { frames := 6, cells := 0, slots := 0, locals := 142 } s m ([.ref (ad 0)] : List Value).toArray below meth c H locs 0 0 Q (F0 m 6 ls []) := by
    intro fu
    induction fu with
    | zero => intro k w bb mm vl1 vd1 vn1 vf1 vt1 ve1 vg1 vb1 vw1 rz1 zX1 H locs ls hfu; exact absurd hfu (Nat.not_lt_zero _)
    | succ fu ih =>
      intro k w bb mm vl1 vd1 vn1 vf1 vt1 ve1 vg1 vb1 vw1 rz1 zX1 H locs ls hfu hw hb hm hvw1 hl hG
      refine lv_iload_n S.1 S.2.1 dX8_guide_6 rfl (lv_at hl 3 rfl) ?_
      refine lv_aload_n S.1 S.2.1 dX8_guide_7 rfl (lv_at hl 0 rfl) ?_
      refine g_get S C hG iX80 0 rfl rfl 2 (by decide) (List.mem_of_getElem? (i := 1) rfl) rfl dX8_guide_8 ?_
      refine g_get S C hG iX50 7 rfl rfl 0 (by decide) (List.mem_of_getElem? (i := 2) rfl) rfl dX8_guide_11 ?_
      refine g_get S C hG iX70 8 rfl rfl 1 (by decide) (List.mem_of_getElem? (i := 3) rfl) rfl dX8_guide_14 ?_
      refine g_icmp_ge (tgt := 49) S dX8_guide_17 (by decide) (by omega) (by omega) (fun q17 => ?_) (fun q17 => ?_)
      · skip
        refine lv_iload_n S.1 S.2.1 dX8_guide_49 rfl (lv_at hl 1 rfl) ?_
        have hG : gW K A s.heap [gRLC K ad, gSvyC K (ad 10) (ad 3) (ad 53) vl1 vd1 vn1 vf1 vt1 ve1 vg1 vb1 vw1, gRayU K (ad 53) (ad 54) (ad 55) (ad 56) (ad 57) (ad 3) rz1 zX1, gScn K (ad 3) (ad 14) (ad 15) (ad 16) (ad 17) ou mi bo ln LF sn SF] _ _ := hG
        exact g_iret S hr hlk hQ dX8_guide_50 (Nat.le_of_ble_eq_true rfl) (Nat.le_of_ble_eq_true rfl) ((vl1, vd1, vn1, vf1, vt1, ve1, vg1, vb1, vw1, rz1, zX1) : Int × Int × Int × Int × Int × Int × Int × Int × Int × RU × (Int → Int)) ⟨(congrArg (fun z : Int => Value.int (iI z)) (by rw [hb.1, show (N 0).toNat = k by omega])), hvw1⟩ hG
      · skip
        refine lv_aload_n S.1 S.2.1 dX8_guide_20 rfl (lv_at hl 0 rfl) ?_
        refine g_get S C hG iX80 0 rfl rfl 9 (by decide) (List.mem_of_getElem? (i := 4) rfl) rfl dX8_guide_21 ?_
        refine lv_iload_n S.1 S.2.1 dX8_guide_24 rfl (lv_at hl 3 rfl) ?_
        refine g_iconst S dX8_guide_25 ?_
        refine g_iconst S dX8_guide_26 ?_
        refine g_invV (As := [.int (iI w), .int (iI 1), .int (iI 3)]) (rest := []) (gs' := (fun u : Int × Int × Int × Int × Int × RU × (Int → Int) => [gRLC K ad, gSvyC K (ad 10) (ad 3) (ad 53) w 1 (nX N w) u.1 u.2.1 u.2.2.1 u.2.2.2.1 u.2.2.2.2.1 vw1, gRayU K (ad 53) (ad 54) (ad 55) (ad 56) (ad 57) (ad 3) u.2.2.2.2.2.1 u.2.2.2.2.2.2, gScn K (ad 3) (ad 14) (ad 15) (ad 16) (ad 17) ou mi bo ln LF sn SF])) S C hG [1, 2, 3] (c_X6_countSlants l K (ad 10) vl1 vd1 vn1 vf1 vt1 ve1 vg1 vb1 vw1 (ad 53) (ad 54) (ad 55) (ad 56) (ad 57) (ad 3) rz1 zX1 (ad 14) (ad 15) (ad 16) (ad 17) ou mi bo ln LF sn SF N w 1 3 hS hN ⟨by omega, by omega⟩ (Or.inr rfl) (by decide)) rfl rfl 0 rfl rfl (cwV 3 S.2.2.2.2 gX8_guide_X6_countSlants rfl rfl rfl (by decide +kernel) ⟨Nat.le_of_ble_eq_true rfl, Nat.le_of_ble_eq_true rfl⟩) rfl hl.1 rfl (Nat.le_of_ble_eq_true rfl) dX8_guide_27 ⟨Nat.le_of_ble_eq_true rfl, Nat.le_of_ble_eq_true rfl⟩ (fun _ => Nat.le_of_ble_eq_true rfl) (fun _ => rfl) (fun v u H locs hp hG => ?_)
        obtain ⟨uf2_27, ut2_27, ue2_27, ug2_27, ub2_27, rv2_27, X2_27⟩ := u
        obtain ⟨rfl, hE2_27⟩ := hp
        have hE2_27 : EntOk N X2_27 := hE2_27
        have hG : gW K A s.heap [gRLC K ad, gSvyC K (ad 10) (ad 3) (ad 53) w 1 (nX N w) uf2_27 ut2_27 ue2_27 ug2_27 ub2_27 vw1, gRayU K (ad 53) (ad 54) (ad 55) (ad 56) (ad 57) (ad 3) rv2_27 X2_27, gScn K (ad 3) (ad 14) (ad 15) (ad 16) (ad 17) ou mi bo ln LF sn SF] _ _ := hG
        have c9 := cntS_bd N (k : Int) 1 3 (nX N (k : Int)).toNat
        have nx := (lay_bd hN (y := (k : Int)) (by omega) (by omega)).1
        refine g_top (w := .int (iI (cntS N (k : Int) 1 3 (nX N (k : Int)).toNat))) (congrArg (fun z : Int => Value.int (iI z)) ((by rw [hw.1]))) ?_
        refine lv_istore (lv' := [(4, .int (iI (cntS N (k : Int) 1 3 (nX N (k : Int)).toNat))), (0, .ref (ad 0)), (1, .int (iI bb)), (2, .int (iI mm)), (3, .int (iI w))]) S.1 S.2.1 dX8_guide_30 hl (by decide) rfl (fun ls hl => ?_)
        refine lv_iload S.1 S.2.1 dX8_guide_32 (lv_at hl 0 rfl) ?_
        refine lv_iload_n S.1 S.2.1 dX8_guide_34 rfl (lv_at hl 3 rfl) ?_
        refine g_icmp_le (tgt := 43) S dX8_guide_35 (by decide) (by omega) (by omega) (fun q35 => ?_) (fun q35 => ?_)
        · skip
          refine lv_iinc (v := iI (w + 1)) (lv' := [(3, .int (iI (w + 1))), (4, .int (iI (cntS N (k : Int) 1 3 (nX N (k : Int)).toNat))), (0, .ref (ad 0)), (1, .int (iI bb)), (2, .int (iI mm))]) S.1 S.2.1 dX8_guide_43 hl (k := 4) rfl (g_iinc rfl) (by decide) rfl (fun ls hl => ?_)
          refine lv_goto (tgt := 6) S.1 S.2.1 dX8_guide_46 (by decide) ?_
          exact ih (k + 1) (w + 1) bb mm w 1 (nX N w) uf2_27 ut2_27 ue2_27 ug2_27 ub2_27 vw1 rv2_27 X2_27 _ _ _ (by omega) ⟨by omega, by omega⟩ (by have u8 := busN_f (fun i : Nat => cntS N (i : Int) 1 3 (nX N (i : Int)).toNat) k (by omega) <;> rw [u8] <;> exact hb) (by omega) hvw1 (lv_sub hl [2, 3, 4, 0] rfl) hG
        · skip
          refine lv_iload_n S.1 S.2.1 dX8_guide_38 rfl (lv_at hl 4 rfl) ?_
          refine lv_istore_n (lv' := [(1, .int (iI w)), (4, .int (iI (cntS N (k : Int) 1 3 (nX N (k : Int)).toNat))), (0, .ref (ad 0)), (2, .int (iI mm)), (3, .int (iI w))]) S.1 S.2.1 dX8_guide_39 rfl hl (by decide) rfl (fun ls hl => ?_)
          refine lv_iload S.1 S.2.1 dX8_guide_40 (lv_at hl 1 rfl) ?_
          refine lv_istore_n (lv' := [(2, .int (iI (cntS N (k : Int) 1 3 (nX N (k : Int)).toNat))), (1, .int (iI w)), (4, .int (iI (cntS N (k : Int) 1 3 (nX N (k : Int)).toNat))), (0, .ref (ad 0)), (3, .int (iI w))]) S.1 S.2.1 dX8_guide_42 rfl hl (by decide) rfl (fun ls hl => ?_)
          refine lv_iinc (v := iI (w + 1)) (lv' := [(3, .int (iI (w + 1))), (2, .int (iI (cntS N (k : Int) 1 3 (nX N (k : Int)).toNat))), (1, .int (iI w)), (4, .int (iI (cntS N (k : Int) 1 3 (nX N (k : Int)).toNat))), (0, .ref (ad 0))]) S.1 S.2.1 dX8_guide_43 hl (k := 4) rfl (g_iinc rfl) (by decide) rfl (fun ls hl => ?_)
          refine lv_goto (tgt := 6) S.1 S.2.1 dX8_guide_46 (by decide) ?_
          exact ih (k + 1) (w + 1) w (cntS N (k : Int) 1 3 (nX N (k : Int)).toNat) w 1 (nX N w) uf2_27 ut2_27 ue2_27 ug2_27 ub2_27 vw1 rv2_27 X2_27 _ _ _ (by omega) ⟨by omega, by omega⟩ (by have u8 := busN_t (fun i : Nat => cntS N (i : Int) 1 3 (nX N (i : Int)).toNat) k (by omega) <;> rw [u8] <;> exact ⟨hw.1, rfl⟩) (by omega) hvw1 (lv_sub hl [4, 2, 1, 0] rfl) hG
  exact L6 (Nat.succ ((N 0 - 0).toNat)) 0 0 (-1) 0 vl vd vn vf vt ve vg vb vw rz zX _ _ _ (Nat.lt_succ_self _) ⟨rfl, by omega⟩ ⟨rfl, rfl⟩ (by omega) hvw (lv_sub hl [3, 2, 1, 0] rfl) hG

set_option maxHeartbeats 1000000 in
set_option maxRecDepth 100000 in
theorem c_X4_isOutU (l : Launch) (K : KC) (ra : Nat) (xa : Nat) (sha : Nat) (lea : Nat) (tma : Nat) (sc : Nat) (rv : RU) (XF : Int → Int) (h0 : -1 ≤ rv.2.2.2.2.1 ∧ rv.2.2.2.2.1 ≤ 4) : mG l yX4_isOut wsX4_isOut 0 0 K [.ref ra] [gRayU K ra xa sha lea tma sc rv XF] (fun (v : Value) (u : Unit) => (v = .int (iI (bI (rv.2.2.2.2.1 = 0 ∨ rv.2.2.2.2.1 = 1))))) (fun (u : Unit) => [gRayU K ra xa sha lea tma sc rv XF]) 0 0 := by
  refine mG_of cX4_isOut 1 (by decide) rfl (Nat.le_of_ble_eq_true rfl) ?_
  intro p e s m below meth c A ls Q S C hG hl hr hlk hin hQ
  have S : CallFix p m c cX4_isOut 1 s ([.ref ra] : List Value).toArray wsX4_isOut RX4 := S
  have iX40 : ∀ w ∈ wsX40, w ∈ wsX4_isOut := fun _ h => List.mem_cons_of_mem _ (List.mem_append_right _ (h))
  have hl : lv_has ls 1 [(0, .ref ra)] := hl
  have hG : gW K A s.heap [gRayU K ra xa sha lea tma sc rv XF] s.heap [] := hG
  refine lv_aload_n S.1 S.2.1 dX4_isOut_0 rfl (lv_at hl 0 rfl) ?_
  refine g_get S C hG iX40 0 rfl rfl 9 (by decide) (List.mem_of_getElem? (i := 1) rfl) rfl dX4_isOut_1 ?_
  refine g_if_eq (tgt := 15) S dX4_isOut_4 (by decide) (by omega) (fun q4 => ?_) (fun q4 => ?_)
  · skip
    refine g_iconst S dX4_isOut_15 ?_
    refine lv_goto (tgt := 20) S.1 S.2.1 dX4_isOut_16 (by decide) ?_
    have hG : gW K A s.heap [gRayU K ra xa sha lea tma sc rv XF] _ _ := hG
    exact g_zret S hr hlk hQ (Or.inr rfl) dX4_isOut_20 (Nat.le_of_ble_eq_true rfl) (Nat.le_of_ble_eq_true rfl) (() : Unit) (congrArg (fun z : Int => Value.int (iI z)) (bI_t (by omega)).symm) hG
  · skip
    refine lv_aload_n S.1 S.2.1 dX4_isOut_7 rfl (lv_at hl 0 rfl) ?_
    refine g_get S C hG iX40 0 rfl rfl 9 (by decide) (List.mem_of_getElem? (i := 1) rfl) rfl dX4_isOut_8 ?_
    refine g_iconst S dX4_isOut_11 ?_
    refine g_icmp_ne (tgt := 19) S dX4_isOut_12 (by decide) (by omega) (by omega) (fun q12 => ?_) (fun q12 => ?_)
    · skip
      refine g_iconst S dX4_isOut_19 ?_
      have hG : gW K A s.heap [gRayU K ra xa sha lea tma sc rv XF] _ _ := hG
      exact g_zret S hr hlk hQ (Or.inl rfl) dX4_isOut_20 (Nat.le_of_ble_eq_true rfl) (Nat.le_of_ble_eq_true rfl) (() : Unit) (congrArg (fun z : Int => Value.int (iI z)) (bI_f (by omega)).symm) hG
    · skip
      refine g_iconst S dX4_isOut_15 ?_
      refine lv_goto (tgt := 20) S.1 S.2.1 dX4_isOut_16 (by decide) ?_
      have hG : gW K A s.heap [gRayU K ra xa sha lea tma sc rv XF] _ _ := hG
      exact g_zret S hr hlk hQ (Or.inr rfl) dX4_isOut_20 (Nat.le_of_ble_eq_true rfl) (Nat.le_of_ble_eq_true rfl) (() : Unit) (congrArg (fun z : Int => Value.int (iI z)) (bI_t (by omega)).symm) hG

set_option maxHeartbeats 1000000 in
set_option maxRecDepth 100000 in
theorem c_X8_count (l : Launch) (K : KC) (ad : Nat → Nat) (ou : Int) (mi : Int) (bo : Int) (ln : Int) (LF : Int → Int) (sn : Int) (SF : Int → Int) (N : Int → Int) (rs : Nat) (rv : RU) (XF : Int → Int) (x : Int) (hS : ScOk N ou mi bo ln LF sn SF) (hN : NOk0 N) (hx : -2147483648 ≤ x ∧ x < 2147483648) (h1 : 0 ≤ x ∧ x ≤ 4) : mG l yX8_count wsX8_count 5 117 K [.ref (ad 0), .int (iI x)] [gRLC K ad, gScn K (ad 3) (ad 14) (ad 15) (ad 16) (ad 17) ou mi bo ln LF sn SF, gRayU K (ad 7) (ad 23) (ad 24) (ad 25) (ad 26) rs rv XF] (fun (v : Value) (u : Nat × RU × (Int → Int)) => (v = .int (iI (cntB (fun i : Nat => decide (eS N (i : Int) = x)) (N 4).toNat)))) (fun (u : Nat × RU × (Int → Int)) => [gRLC K ad, gScn K (ad 3) (ad 14) (ad 15) (ad 16) (ad 17) ou mi bo ln LF sn SF, gRayU K (ad 7) (ad 23) (ad 24) (ad 25) (ad 26) u.1 u.2.1 u.2.2]) 0 0 := by
  refine mG_of cX8_count 4 (by decide) rfl (Nat.le_of_ble_eq_true rfl) ?_
  intro p e s m below meth c A ls Q S C hG hl hr hlk hin hQ
  have S : CallFix p m c cX8_count 4 s ([.ref (ad 0), .int (iI x)] : List Value).toArray wsX8_count RX8 := S
  have iX80 : ∀ w ∈ wsX80, w ∈ wsX8_count := fun _ h => List.mem_cons_of_mem _ (List.mem_append_left _ (List.mem_append_left _ (List.mem_append_left _ (List.mem_append_left _ (List.mem_append_right _ (h))))))
  have iX50 : ∀ w ∈ wsX50, w ∈ wsX8_count := fun _ h => List.mem_cons_of_mem _ (List.mem_append_left _ (List.mem_append_left _ (List.mem_append_left _ (List.mem_append_right _ (h)))))
  have iX70 : ∀ w ∈ wsX70, w ∈ wsX8_count := fun _ h => List.mem_cons_of_mem _ (List.mem_append_left _ (List.mem_append_left _ (List.mem_append_right _ (h))))
  have iX40 : ∀ w ∈ wsX40, w ∈ wsX8_count := fun _ h => List.mem_cons_of_mem _ (List.mem_append_left _ (List.mem_append_right _ (h)))
  have hl : lv_has ls 4 [(0, .ref (ad 0)), (1, .int (iI x))] := hl
  have hG : gW K A s.heap [gRLC K ad, gScn K (ad 3) (ad 14) (ad 15) (ad 16) (ad 17) ou mi bo ln LF sn SF, gRayU K (ad 7) (ad 23) (ad 24) (ad 25) (ad 26) rs rv XF] s.heap [] := hG
  obtain ⟨e0, e1, e2, e3, e4, e5, e6⟩ := id hS
  have n0 := hN.1
  have n3 := hN.2.2.2.1
  refine lv_iload_n S.1 S.2.1 dX8_count_0 rfl (lv_at hl 1 rfl) ?_
  refine g_iconst S dX8_count_1 ?_
  refine g_iconst S dX8_count_2 ?_
  refine g_invSv (As := [.int (iI x), .int (iI 0), .int (iI 4)]) (rest := []) (gs' := (fun u : Unit => [gRLC K ad, gScn K (ad 3) (ad 14) (ad 15) (ad 16) (ad 17) ou mi bo ln LF sn SF, gRayU K (ad 7) (ad 23) (ad 24) (ad 25) (ad 26) rs rv XF])) S C hG [] (c_X8_checkRange l K x 0 4 hx (by omega) (by omega) h1) rfl rfl (va_cwS 3 S.2.2.2.2 gX8_count_X8_checkRange rfl rfl rfl (by decide +kernel) ⟨Nat.le_of_ble_eq_true rfl, Nat.le_of_ble_eq_true rfl⟩) rfl hl.1 rfl (Nat.le_of_ble_eq_true rfl) dX8_count_3 ⟨Nat.le_of_ble_eq_true rfl, Nat.le_of_ble_eq_true rfl⟩ (fun _ => Nat.le_of_ble_eq_true rfl) (fun _ => rfl) (fun u H locs hp hG => ?_)
  refine g_iconst S dX8_count_6 ?_
  refine lv_istore_n (lv' := [(2, .int (iI 0)), (0, .ref (ad 0)), (1, .int (iI x))]) S.1 S.2.1 dX8_count_7 rfl hl (by decide) rfl (fun ls hl => ?_)
  refine g_iconst S dX8_count_8 ?_
  refine lv_istore_n (lv' := [(3, .int (iI 0)), (2, .int (iI 0)), (0, .ref (ad 0)), (1, .int (iI x))]) S.1 S.2.1 dX8_count_9 rfl hl (by decide) rfl (fun ls hl => ?_)
  have L10 : ∀ (fu : Nat) (k : Nat) (w : Int) (f : Int) (rs1 : Nat) (rv1 : RU) (X1 : Int → Int) (H : Heap) (locs : List Loc) (ls : Array Slot), ((N 4 - w).toNat) < fu → (w = (k : Int) ∧ w ≤ N 4) → (f = cntB (fun i : Nat => decide (eS N (i : Int) = x)) k) → (0 ≤ f ∧ f ≤ w) → lv_has ls 4 [(0, .ref (ad 0)), (1, .int (iI x)), (2, .int (iI f)), (3, .int (iI w))] → gW K A s.heap [gRLC K ad, gScn K (ad 3) (ad 14) (ad 15) (ad 16) (ad 17) ou mi bo ln LF sn SF, gRayU K (ad 7) (ad 23) (ad 24) (ad 25) (ad 26) rs1 rv1 X1] H locs → W p l e { frames := 5, cells := 0, slots := 0, locals := 117 } s m ([.ref (ad 0), .int (iI x)] : List Value).toArray below meth c H locs 0 0 Q (F0 m 10 ls []) := by
    intro fu
    induction fu with
    | zero => intro k w f rs1 rv1 X1 H locs ls hfu; exact absurd hfu (Nat.not_lt_zero _)
    | succ fu ih =>
      intro k w f rs1 rv1 X1 H locs ls hfu hw hb hf hl hG
      refine lv_iload_n S.1 S.2.1 dX8_count_10 rfl (lv_at hl 3 rfl) ?_
      refine lv_aload_n S.1 S.2.1 dX8_count_11 rfl (lv_at hl 0 rfl) ?_
      refine g_get S C hG iX80 0 rfl rfl 2 (by decide) (List.mem_of_getElem? (i := 1) rfl) rfl dX8_count_12 ?_
      refine g_get S C hG iX50 1 rfl rfl 1 (by decide) (List.mem_of_getElem? (i := 2) rfl) rfl dX8_count_15 ?_
      refine g_get S C hG iX70 4 rfl rfl 1 (by decide) (List.mem_of_getElem? (i := 3) rfl) rfl dX8_count_18 ?_
      refine g_icmp_ge (tgt := 49) S dX8_count_21 (by decide) (by omega) (by omega) (fun q21 => ?_) (fun q21 => ?_)
      · skip
        refine lv_iload_n S.1 S.2.1 dX8_count_49 rfl (lv_at hl 2 rfl) ?_
        have hG : gW K A s.heap [gRLC K ad, gScn K (ad 3) (ad 14) (ad 15) (ad 16) (ad 17) ou mi bo ln LF sn SF, gRayU K (ad 7) (ad 23) (ad 24) (ad 25) (ad 26) rs1 rv1 X1] _ _ := hG
        exact g_iret S hr hlk hQ dX8_count_50 (Nat.le_of_ble_eq_true rfl) (Nat.le_of_ble_eq_true rfl) ((rs1, rv1, X1) : Nat × RU × (Int → Int)) (congrArg (fun z : Int => Value.int (iI z)) (by rw [hb, show (N 4).toNat = k by omega])) hG
      · skip
        refine lv_aload_n S.1 S.2.1 dX8_count_24 rfl (lv_at hl 0 rfl) ?_
        refine lv_aload_n S.1 S.2.1 dX8_count_25 rfl (lv_at hl 0 rfl) ?_
        refine g_get S C hG iX80 0 rfl rfl 2 (by decide) (List.mem_of_getElem? (i := 1) rfl) rfl dX8_count_26 ?_
        refine lv_iload_n S.1 S.2.1 dX8_count_29 rfl (lv_at hl 3 rfl) ?_
        refine g_invV (As := [.ref (ad 3), .int (iI w)]) (rest := []) (gs' := (fun u : RU × (Int → Int) => [gRLC K ad, gScn K (ad 3) (ad 14) (ad 15) (ad 16) (ad 17) ou mi bo ln LF sn SF, gRayU K (ad 7) (ad 23) (ad 24) (ad 25) (ad 26) (ad 3) u.1 u.2])) S C hG [0, 1, 2] (c_X8_runOf l K ad (ad 3) (ad 14) (ad 15) (ad 16) (ad 17) ou mi bo ln LF sn SF N rs1 rv1 X1 w hS hN ⟨by omega, by omega⟩) rfl rfl 0 rfl rfl (cwV 2 S.2.2.2.2 gX8_count_X8_runOf rfl rfl rfl (by decide +kernel) ⟨Nat.le_of_ble_eq_true rfl, Nat.le_of_ble_eq_true rfl⟩) rfl hl.1 rfl (Nat.le_of_ble_eq_true rfl) dX8_count_30 ⟨Nat.le_of_ble_eq_true rfl, Nat.le_of_ble_eq_true rfl⟩ (fun _ => Nat.le_of_ble_eq_true rfl) (fun _ => rfl) (fun v u H locs hp hG => ?_)
        obtain ⟨rv2_30, X2_30⟩ := u
        obtain ⟨rfl, hr_30⟩ := hp
        have hr_30 : ResU N (sP N w) (sY N w) (sD N w) rv2_30 := hr_30
        have hG : gW K A s.heap [gRLC K ad, gScn K (ad 3) (ad 14) (ad 15) (ad 16) (ad 17) ou mi bo ln LF sn SF, gRayU K (ad 7) (ad 23) (ad 24) (ad 25) (ad 26) (ad 3) rv2_30 X2_30] _ _ := hG
        refine g_get S C hG iX40 6 rfl rfl 9 (by decide) (List.mem_of_getElem? (i := 4) rfl) rfl dX8_count_33 ?_
        refine g_top (w := .int (iI (eS N (k : Int)))) (congrArg (fun z : Int => Value.int (iI z)) ((by rw [← hw.1] <;> exact hr_30.f.2.1))) ?_
        refine lv_iload_n S.1 S.2.1 dX8_count_36 rfl (lv_at hl 1 rfl) ?_
        have eb := enF_bd N (sP N (k : Int)) (sY N (k : Int)) (sD N (k : Int))
        have eb2 : 0 ≤ eS N (k : Int) ∧ eS N (k : Int) ≤ 4 := eb
        refine g_icmp_ne (tgt := 43) S dX8_count_37 (by decide) (by omega) (by omega) (fun q37 => ?_) (fun q37 => ?_)
        · skip
          refine lv_iinc (v := iI (w + 1)) (lv' := [(3, .int (iI (w + 1))), (0, .ref (ad 0)), (1, .int (iI x)), (2, .int (iI f))]) S.1 S.2.1 dX8_count_43 hl (k := 3) rfl (g_iinc rfl) (by decide) rfl (fun ls hl => ?_)
          refine lv_goto (tgt := 10) S.1 S.2.1 dX8_count_46 (by decide) ?_
          exact ih (k + 1) (w + 1) f (ad 3) rv2_30 X2_30 _ _ _ (by omega) ⟨by omega, by omega⟩ (by simp only [cntB] <;> rw [← hb, if_neg (by simpa using q37)] <;> omega) (by omega) (lv_sub hl [1, 2, 3, 0] rfl) hG
        · skip
          refine lv_iinc (v := iI (f + 1)) (lv' := [(2, .int (iI (f + 1))), (0, .ref (ad 0)), (1, .int (iI x)), (3, .int (iI w))]) S.1 S.2.1 dX8_count_40 hl (k := 2) rfl (g_iinc rfl) (by decide) rfl (fun ls hl => ?_)
          refine lv_iinc (v := iI (w + 1)) (lv' := [(3, .int (iI (w + 1))), (2, .int (iI (f + 1))), (0, .ref (ad 0)), (1, .int (iI x))]) S.1 S.2.1 dX8_count_43 hl (k := 3) rfl (g_iinc rfl) (by decide) rfl (fun ls hl => ?_)
          refine lv_goto (tgt := 10) S.1 S.2.1 dX8_count_46 (by decide) ?_
          exact ih (k + 1) (w + 1) (f + 1) (ad 3) rv2_30 X2_30 _ _ _ (by omega) ⟨by omega, by omega⟩ (by simp only [cntB] <;> rw [← hb, if_pos (by simpa using q37)]) (by omega) (lv_sub hl [2, 3, 1, 0] rfl) hG
  exact L10 (Nat.succ ((N 4 - 0).toNat)) 0 0 0 rs rv XF _ _ _ (Nat.lt_succ_self _) ⟨rfl, by omega⟩ rfl (by omega) (lv_sub hl [2, 3, 1, 0] rfl) hG

set_option maxHeartbeats 1000000 in
set_option maxRecDepth 100000 in
theorem x1_count (l : Launch) (K : KC) (ad : Nat → Nat) (ou : Int) (mi : Int) (bo : Int) (ln : Int) (LF : Int → Int) (sn : Int) (SF : Int → Int) (N : Int → Int) (rs : Nat) (rv : RU) (XF : Int → Int) (x : Int) (hS : ScOk N ou mi bo ln LF sn SF) (hN : NOk0 N) (hx : -2147483648 ≤ x ∧ x < 2147483648) (h1 : ¬ (0 ≤ x ∧ x ≤ 4)) (hst : l.stackTraces = false) : mX l yX8_count wsX8_count 7 104 K [.ref (ad 0), .int (iI x)] [gRLC K ad, gScn K (ad 3) (ad 14) (ad 15) (ad 16) (ad 17) ou mi bo ln LF sn SF, gRayU K (ad 7) (ad 23) (ad 24) (ad 25) (ad 26) rs rv XF] "java/lang/IllegalArgumentException" (fun (u : Unit) => True) (fun (u : Unit) => [gRLC K ad, gScn K (ad 3) (ad 14) (ad 15) (ad 16) (ad 17) ou mi bo ln LF sn SF, gRayU K (ad 7) (ad 23) (ad 24) (ad 25) (ad 26) rs rv XF]) 1 6 := by
  refine mX_of cX8_count 4 (by decide) rfl (Nat.le_of_ble_eq_true rfl) ?_
  intro p e s m below meth c A ls Q S C hG hl hex hlk hin hQ
  have S : CallFix p m c cX8_count 4 s ([.ref (ad 0), .int (iI x)] : List Value).toArray wsX8_count RX8 := S
  have iX80 : ∀ w ∈ wsX80, w ∈ wsX8_count := fun _ h => List.mem_cons_of_mem _ (List.mem_append_left _ (List.mem_append_left _ (List.mem_append_left _ (List.mem_append_left _ (List.mem_append_right _ (h))))))
  have iX50 : ∀ w ∈ wsX50, w ∈ wsX8_count := fun _ h => List.mem_cons_of_mem _ (List.mem_append_left _ (List.mem_append_left _ (List.mem_append_left _ (List.mem_append_right _ (h)))))
  have iX70 : ∀ w ∈ wsX70, w ∈ wsX8_count := fun _ h => List.mem_cons_of_mem _ (List.mem_append_left _ (List.mem_append_left _ (List.mem_append_right _ (h))))
  have iX40 : ∀ w ∈ wsX40, w ∈ wsX8_count := fun _ h => List.mem_cons_of_mem _ (List.mem_append_left _ (List.mem_append_right _ (h)))
  have hl : lv_has ls 4 [(0, .ref (ad 0)), (1, .int (iI x))] := hl
  have hG : gW K A s.heap [gRLC K ad, gScn K (ad 3) (ad 14) (ad 15) (ad 16) (ad 17) ou mi bo ln LF sn SF, gRayU K (ad 7) (ad 23) (ad 24) (ad 25) (ad 26) rs rv XF] s.heap [] := hG
  obtain ⟨e0, e1, e2, e3, e4, e5, e6⟩ := id hS
  have n0 := hN.1
  have n3 := hN.2.2.2.1
  refine lv_iload_n S.1 S.2.1 dX8_count_0 rfl (lv_at hl 1 rfl) ?_
  refine g_iconst S dX8_count_1 ?_
  refine g_iconst S dX8_count_2 ?_
  refine g_xS (E := "java/lang/IllegalArgumentException") (As := [.int (iI x), .int (iI 0), .int (iI 4)]) (rest := []) (gs' := (fun u : Unit => [gRLC K ad, gScn K (ad 3) (ad 14) (ad 15) (ad 16) (ad 17) ou mi bo ln LF sn SF, gRayU K (ad 7) (ad 23) (ad 24) (ad 25) (ad 26) rs rv XF])) S C hG [] (x_checkRange l K x 0 4 hx (by omega) (by omega) h1 hst) rfl rfl (va_cwS 3 S.2.2.2.2 gX8_count_X8_checkRange rfl rfl rfl (by decide +kernel) ⟨Nat.le_of_ble_eq_true rfl, Nat.le_of_ble_eq_true rfl⟩) rfl hl.1 rfl (Nat.le_of_ble_eq_true rfl) dX8_count_3 ⟨Nat.le_of_ble_eq_true rfl, Nat.le_of_ble_eq_true rfl⟩ (fun _ => Nat.le_of_ble_eq_true rfl) (fun _ => rfl) (fun u q9 ce9 H locs hp hG hq9 hv9 hcl9 => ?_)
  have hG : gW K A s.heap [gRLC K ad, gScn K (ad 3) (ad 14) (ad 15) (ad 16) (ad 17) ou mi bo ln LF sn SF, gRayU K (ad 7) (ad 23) (ad 24) (ad 25) (ad 26) rs rv XF] _ _ := hG
  exact g_xout hQ hex hlk hq9 hv9 hcl9 (Nat.le_of_ble_eq_true rfl) (Nat.le_of_ble_eq_true rfl) (() : Unit) trivial hG

set_option maxHeartbeats 1000000 in
set_option maxRecDepth 100000 in
theorem c_X8_first (l : Launch) (K : KC) (ad : Nat → Nat) (ou : Int) (mi : Int) (bo : Int) (ln : Int) (LF : Int → Int) (sn : Int) (SF : Int → Int) (N : Int → Int) (rs : Nat) (rv : RU) (XF : Int → Int) (hS : ScOk N ou mi bo ln LF sn SF) (hN : NOk0 N) : mG l yX8_first wsX8_first 5 117 K [.ref (ad 0)] [gRLC K ad, gScn K (ad 3) (ad 14) (ad 15) (ad 16) (ad 17) ou mi bo ln LF sn SF, gRayU K (ad 7) (ad 23) (ad 24) (ad 25) (ad 26) rs rv XF] (fun (v : Value) (u : Nat × RU × (Int → Int)) => (v = .int (iI ((bstN (fun i : Nat => decide (eS N (i : Int) = 0 ∨ eS N (i : Int) = 1)) (fun i : Nat => -(tS N (i : Int))) (N 4).toNat).1)))) (fun (u : Nat × RU × (Int → Int)) => [gRLC K ad, gScn K (ad 3) (ad 14) (ad 15) (ad 16) (ad 17) ou mi bo ln LF sn SF, gRayU K (ad 7) (ad 23) (ad 24) (ad 25) (ad 26) u.1 u.2.1 u.2.2]) 0 0 := by
  refine mG_of cX8_first 5 (by decide) rfl (Nat.le_of_ble_eq_true rfl) ?_
  intro p e s m below meth c A ls Q S C hG hl hr hlk hin hQ
  have S : CallFix p m c cX8_first 5 s ([.ref (ad 0)] : List Value).toArray wsX8_first RX8 := S
  have iX80 : ∀ w ∈ wsX80, w ∈ wsX8_first := fun _ h => List.mem_cons_of_mem _ (List.mem_append_left _ (List.mem_append_left _ (List.mem_append_left _ (List.mem_append_right _ (h)))))
  have iX50 : ∀ w ∈ wsX50, w ∈ wsX8_first := fun _ h => List.mem_cons_of_mem _ (List.mem_append_left _ (List.mem_append_left _ (List.mem_append_right _ (h))))
  have iX70 : ∀ w ∈ wsX70, w ∈ wsX8_first := fun _ h => List.mem_cons_of_mem _ (List.mem_append_left _ (List.mem_append_right _ (h)))
  have iX40 : ∀ w ∈ wsX40, w ∈ wsX8_first := fun _ h => List.mem_cons_of_mem _ (List.mem_append_right _ (h))
  have hl : lv_has ls 5 [(0, .ref (ad 0))] := hl
  have hG : gW K A s.heap [gRLC K ad, gScn K (ad 3) (ad 14) (ad 15) (ad 16) (ad 17) ou mi bo ln LF sn SF, gRayU K (ad 7) (ad 23) (ad 24) (ad 25) (ad 26) rs rv XF] s.heap [] := hG
  obtain ⟨e0, e1, e2, e3, e4, e5, e6⟩ := id hS
  have n0 := hN.1
  have n3 := hN.2.2.2.1
  refine g_iconst S dX8_first_0 ?_
  refine lv_istore_n (lv' := [(1, .int (iI (-1))), (0, .ref (ad 0))]) S.1 S.2.1 dX8_first_1 rfl hl (by decide) rfl (fun ls hl => ?_)
  refine g_iconst S dX8_first_2 ?_
  refine lv_istore_n (lv' := [(2, .int (iI 0)), (1, .int (iI (-1))), (0, .ref (ad 0))]) S.1 S.2.1 dX8_first_3 rfl hl (by decide) rfl (fun ls hl => ?_)
  refine g_iconst S dX8_first_4 ?_
  refine lv_istore_n (lv' := [(3, .int (iI 0)), (2, .int (iI 0)), (1, .int (iI (-1))), (0, .ref (ad 0))]) S.1 S.2.1 dX8_first_5 rfl hl (by decide) rfl (fun ls hl => ?_)
  have L6 : ∀ (fu : Nat) (k : Nat) (w : Int) (bb : Int) (mm : Int) (rs1 : Nat) (rv1 : RU) (X1 : Int → Int) (H : Heap) (locs : List Loc) (ls : Array Slot), ((N 4 - w).toNat) < fu → (w = (k : Int) ∧ w ≤ N 4) → (bb = (bstN (fun i : Nat => decide (eS N (i : Int) = 0 ∨ eS N (i : Int) = 1)) (fun i : Nat => -(tS N (i : Int))) k).1 ∧ mm = -(bstN (fun i : Nat => decide (eS N (i : Int) = 0 ∨ eS N (i : Int) = 1)) (fun i : Nat => -(tS N (i : Int))) k).2) → (0 ≤ mm ∧ mm ≤ 200000000 ∧ -1 ≤ bb ∧ bb ≤ 20) → lv_has ls 5 [(0, .ref (ad 0)), (1, .int (iI bb)), (2, .int (iI mm)), (3, .int (iI w))] → gW K A s.heap [gRLC K ad, gScn K (ad 3) (ad 14) (ad 15) (ad 16) (ad 17) ou mi bo ln LF sn SF, gRayU K (ad 7) (ad 23) (ad 24) (ad 25) (ad 26) rs1 rv1 X1] H locs → W p l e { frames := 5, cells := 0, slots := 0, locals := 117 } s m ([.ref (ad 0)] : List Value).toArray below meth c H locs 0 0 Q (F0 m 6 ls []) := by
    intro fu
    induction fu with
    | zero => intro k w bb mm rs1 rv1 X1 H locs ls hfu; exact absurd hfu (Nat.not_lt_zero _)
    | succ fu ih =>
      intro k w bb mm rs1 rv1 X1 H locs ls hfu hw hb hm hl hG
      refine lv_iload_n S.1 S.2.1 dX8_first_6 rfl (lv_at hl 3 rfl) ?_
      refine lv_aload_n S.1 S.2.1 dX8_first_7 rfl (lv_at hl 0 rfl) ?_
      refine g_get S C hG iX80 0 rfl rfl 2 (by decide) (List.mem_of_getElem? (i := 1) rfl) rfl dX8_first_8 ?_
      refine g_get S C hG iX50 1 rfl rfl 1 (by decide) (List.mem_of_getElem? (i := 2) rfl) rfl dX8_first_11 ?_
      refine g_get S C hG iX70 4 rfl rfl 1 (by decide) (List.mem_of_getElem? (i := 3) rfl) rfl dX8_first_14 ?_
      refine g_icmp_ge (tgt := 67) S dX8_first_17 (by decide) (by omega) (by omega) (fun q17 => ?_) (fun q17 => ?_)
      · skip
        refine lv_iload_n S.1 S.2.1 dX8_first_67 rfl (lv_at hl 1 rfl) ?_
        have hG : gW K A s.heap [gRLC K ad, gScn K (ad 3) (ad 14) (ad 15) (ad 16) (ad 17) ou mi bo ln LF sn SF, gRayU K (ad 7) (ad 23) (ad 24) (ad 25) (ad 26) rs1 rv1 X1] _ _ := hG
        exact g_iret S hr hlk hQ dX8_first_68 (Nat.le_of_ble_eq_true rfl) (Nat.le_of_ble_eq_true rfl) ((rs1, rv1, X1) : Nat × RU × (Int → Int)) (congrArg (fun z : Int => Value.int (iI z)) (by rw [hb.1, show (N 4).toNat = k by omega])) hG
      · skip
        refine lv_aload_n S.1 S.2.1 dX8_first_20 rfl (lv_at hl 0 rfl) ?_
        refine lv_aload_n S.1 S.2.1 dX8_first_21 rfl (lv_at hl 0 rfl) ?_
        refine g_get S C hG iX80 0 rfl rfl 2 (by decide) (List.mem_of_getElem? (i := 1) rfl) rfl dX8_first_22 ?_
        refine lv_iload_n S.1 S.2.1 dX8_first_25 rfl (lv_at hl 3 rfl) ?_
        refine g_invV (As := [.ref (ad 3), .int (iI w)]) (rest := []) (gs' := (fun u : RU × (Int → Int) => [gRLC K ad, gScn K (ad 3) (ad 14) (ad 15) (ad 16) (ad 17) ou mi bo ln LF sn SF, gRayU K (ad 7) (ad 23) (ad 24) (ad 25) (ad 26) (ad 3) u.1 u.2])) S C hG [0, 1, 2] (c_X8_runOf l K ad (ad 3) (ad 14) (ad 15) (ad 16) (ad 17) ou mi bo ln LF sn SF N rs1 rv1 X1 w hS hN ⟨by omega, by omega⟩) rfl rfl 0 rfl rfl (cwV 2 S.2.2.2.2 gX8_first_X8_runOf rfl rfl rfl (by decide +kernel) ⟨Nat.le_of_ble_eq_true rfl, Nat.le_of_ble_eq_true rfl⟩) rfl hl.1 rfl (Nat.le_of_ble_eq_true rfl) dX8_first_26 ⟨Nat.le_of_ble_eq_true rfl, Nat.le_of_ble_eq_true rfl⟩ (fun _ => Nat.le_of_ble_eq_true rfl) (fun _ => rfl) (fun v u H locs hp hG => ?_)
        obtain ⟨rv2_26, X2_26⟩ := u
        obtain ⟨rfl, hr_26⟩ := hp
        have hr_26 : ResU N (sP N w) (sY N w) (sD N w) rv2_26 := hr_26
        have hG : gW K A s.heap [gRLC K ad, gScn K (ad 3) (ad 14) (ad 15) (ad 16) (ad 17) ou mi bo ln LF sn SF, gRayU K (ad 7) (ad 23) (ad 24) (ad 25) (ad 26) (ad 3) rv2_26 X2_26] _ _ := hG
        have g2 := hr_26.f.2.1
        have g4 := sho_bd hN (r := w) (by omega) (by omega)
        have g5 := shF_bd hN (p := sP N w) (y := sY N w) (e := sD N w) g4.2.2.1 g4.2.1
        have eb := enF_bd N (sP N w) (sY N w) (sD N w)
        have g6 : 0 ≤ tS N (k : Int) ∧ tS N (k : Int) ≤ 119880000 := by rw [← hw.1] <;> exact g5.2.1
        have g7 : 0 ≤ pS N (k : Int) ∧ pS N (k : Int) ≤ 1000000 := by rw [← hw.1] <;> exact g5.2.2
        refine lv_astore (lv' := [(4, .ref (ad 7)), (0, .ref (ad 0)), (1, .int (iI bb)), (2, .int (iI mm)), (3, .int (iI w))]) S.1 S.2.1 dX8_first_29 hl (by decide) rfl (fun ls hl => ?_)
        refine lv_aload S.1 S.2.1 dX8_first_31 (lv_at hl 0 rfl) ?_
        refine g_invV (As := []) (rest := []) (gs' := (fun u : Unit => [gRLC K ad, gScn K (ad 3) (ad 14) (ad 15) (ad 16) (ad 17) ou mi bo ln LF sn SF, gRayU K (ad 7) (ad 23) (ad 24) (ad 25) (ad 26) (ad 3) rv2_26 X2_26])) S C hG [2] (c_X4_isOutU l K (ad 7) (ad 23) (ad 24) (ad 25) (ad 26) (ad 3) rv2_26 X2_26 (by omega)) rfl rfl 0 rfl rfl (cwV 0 S.2.2.2.2 gX8_first_X4_isOut rfl rfl rfl (by decide +kernel) ⟨Nat.le_of_ble_eq_true rfl, Nat.le_of_ble_eq_true rfl⟩) rfl hl.1 rfl (Nat.le_of_ble_eq_true rfl) dX8_first_33 ⟨Nat.le_of_ble_eq_true rfl, Nat.le_of_ble_eq_true rfl⟩ (fun _ => Nat.le_of_ble_eq_true rfl) (fun _ => rfl) (fun v u H locs hp hG => ?_)
        subst hp
        refine g_top (w := .int (iI (bI (eS N (k : Int) = 0 ∨ eS N (k : Int) = 1)))) (congrArg (fun z : Int => Value.int (iI z)) ((by rw [show eS N (k : Int) = rv2_26.2.2.2.2.1 by rw [← hw.1] <;> exact g2.symm]))) ?_
        refine g_ifeq_b (B := (eS N (k : Int) = 0 ∨ eS N (k : Int) = 1)) (tgt := 61) S dX8_first_36 (by decide) (fun q36 => ?_) (fun q36 => ?_)
        · skip
          refine lv_iinc (v := iI (w + 1)) (lv' := [(3, .int (iI (w + 1))), (4, .ref (ad 7)), (0, .ref (ad 0)), (1, .int (iI bb)), (2, .int (iI mm))]) S.1 S.2.1 dX8_first_61 hl (k := 4) rfl (g_iinc rfl) (by decide) rfl (fun ls hl => ?_)
          refine lv_goto (tgt := 6) S.1 S.2.1 dX8_first_64 (by decide) ?_
          exact ih (k + 1) (w + 1) bb mm (ad 3) rv2_26 X2_26 _ _ _ (by omega) ⟨by omega, by omega⟩ (by rw [bst_no (by simpa using q36)] <;> exact hb) (by omega) (lv_sub hl [2, 3, 4, 0] rfl) hG
        · skip
          refine lv_iload_n S.1 S.2.1 dX8_first_39 rfl (lv_at hl 2 rfl) ?_
          refine g_iconst S dX8_first_40 ?_
          refine g_icmp_eq (tgt := 53) S dX8_first_41 (by decide) (by omega) (by omega) (fun q41 => ?_) (fun q41 => ?_)
          · skip
            refine lv_iload_n S.1 S.2.1 dX8_first_53 rfl (lv_at hl 4 rfl) ?_
            refine lv_istore_n (lv' := [(1, .int (iI w)), (4, .ref (ad 7)), (0, .ref (ad 0)), (2, .int (iI mm)), (3, .int (iI w))]) S.1 S.2.1 dX8_first_54 rfl hl (by decide) rfl (fun ls hl => ?_)
            refine lv_aload S.1 S.2.1 dX8_first_55 (lv_at hl 1 rfl) ?_
            refine g_get S C hG iX40 6 rfl rfl 12 (by decide) (List.mem_of_getElem? (i := 4) rfl) rfl dX8_first_57 ?_
            refine g_top (w := .int (iI (tS N (k : Int)))) (congrArg (fun z : Int => Value.int (iI z)) ((by rw [← hw.1] <;> exact hr_26.f.2.2.2.1))) ?_
            refine lv_istore_n (lv' := [(2, .int (iI (tS N (k : Int)))), (1, .int (iI w)), (4, .ref (ad 7)), (0, .ref (ad 0)), (3, .int (iI w))]) S.1 S.2.1 dX8_first_60 rfl hl (by decide) rfl (fun ls hl => ?_)
            refine lv_iinc (v := iI (w + 1)) (lv' := [(3, .int (iI (w + 1))), (2, .int (iI (tS N (k : Int)))), (1, .int (iI w)), (4, .ref (ad 7)), (0, .ref (ad 0))]) S.1 S.2.1 dX8_first_61 hl (k := 4) rfl (g_iinc rfl) (by decide) rfl (fun ls hl => ?_)
            refine lv_goto (tgt := 6) S.1 S.2.1 dX8_first_64 (by decide) ?_
            exact ih (k + 1) (w + 1) w (tS N (k : Int)) (ad 3) rv2_26 X2_26 _ _ _ (by omega) ⟨by omega, by omega⟩ (by rw [bst_yes (by simpa using q36) (Or.inl (by omega))] <;> exact ⟨hw.1, by first | rfl | exact (Int.neg_neg _).symm⟩) (by omega) (lv_sub hl [4, 2, 1, 0] rfl) hG
          · skip
            refine lv_aload S.1 S.2.1 dX8_first_44 (lv_at hl 0 rfl) ?_
            refine g_get S C hG iX40 6 rfl rfl 12 (by decide) (List.mem_of_getElem? (i := 4) rfl) rfl dX8_first_46 ?_
            refine g_top (w := .int (iI (tS N (k : Int)))) (congrArg (fun z : Int => Value.int (iI z)) ((by rw [← hw.1] <;> exact hr_26.f.2.2.2.1))) ?_
            refine lv_iload_n S.1 S.2.1 dX8_first_49 rfl (lv_at hl 3 rfl) ?_
            refine g_icmp_ge (tgt := 61) S dX8_first_50 (by decide) (by omega) (by omega) (fun q50 => ?_) (fun q50 => ?_)
            · skip
              refine lv_iinc (v := iI (w + 1)) (lv' := [(3, .int (iI (w + 1))), (4, .ref (ad 7)), (0, .ref (ad 0)), (1, .int (iI bb)), (2, .int (iI mm))]) S.1 S.2.1 dX8_first_61 hl (k := 4) rfl (g_iinc rfl) (by decide) rfl (fun ls hl => ?_)
              refine lv_goto (tgt := 6) S.1 S.2.1 dX8_first_64 (by decide) ?_
              exact ih (k + 1) (w + 1) bb mm (ad 3) rv2_26 X2_26 _ _ _ (by omega) ⟨by omega, by omega⟩ (by rw [bst_keep (by omega) (by omega)] <;> exact hb) (by omega) (lv_sub hl [2, 3, 4, 0] rfl) hG
            · skip
              refine lv_iload_n S.1 S.2.1 dX8_first_53 rfl (lv_at hl 4 rfl) ?_
              refine lv_istore_n (lv' := [(1, .int (iI w)), (4, .ref (ad 7)), (0, .ref (ad 0)), (2, .int (iI mm)), (3, .int (iI w))]) S.1 S.2.1 dX8_first_54 rfl hl (by decide) rfl (fun ls hl => ?_)
              refine lv_aload S.1 S.2.1 dX8_first_55 (lv_at hl 1 rfl) ?_
              refine g_get S C hG iX40 6 rfl rfl 12 (by decide) (List.mem_of_getElem? (i := 4) rfl) rfl dX8_first_57 ?_
              refine g_top (w := .int (iI (tS N (k : Int)))) (congrArg (fun z : Int => Value.int (iI z)) ((by rw [← hw.1] <;> exact hr_26.f.2.2.2.1))) ?_
              refine lv_istore_n (lv' := [(2, .int (iI (tS N (k : Int)))), (1, .int (iI w)), (4, .ref (ad 7)), (0, .ref (ad 0)), (3, .int (iI w))]) S.1 S.2.1 dX8_first_60 rfl hl (by decide) rfl (fun ls hl => ?_)
              refine lv_iinc (v := iI (w + 1)) (lv' := [(3, .int (iI (w + 1))), (2, .int (iI (tS N (k : Int)))), (1, .int (iI w)), (4, .ref (ad 7)), (0, .ref (ad 0))]) S.1 S.2.1 dX8_first_61 hl (k := 4) rfl (g_iinc rfl) (by decide) rfl (fun ls hl => ?_)
              refine lv_goto (tgt := 6) S.1 S.2.1 dX8_first_64 (by decide) ?_
              exact ih (k + 1) (w + 1) w (tS N (k : Int)) (ad 3) rv2_26 X2_26 _ _ _ (by omega) ⟨by omega, by omega⟩ (by rw [bst_yes (by simpa using q36) (Or.inr (by omega))] <;> exact ⟨hw.1, by first | rfl | exact (Int.neg_neg _).symm⟩) (by omega) (lv_sub hl [4, 2, 1, 0] rfl) hG
  exact L6 (Nat.succ ((N 4 - 0).toNat)) 0 0 (-1) 0 rs rv XF _ _ _ (Nat.lt_succ_self _) ⟨rfl, by omega⟩ ⟨rfl, rfl⟩ (by omega) (lv_sub hl [3, 2, 1, 0] rfl) hG

set_option maxHeartbeats 1000000 in
set_option maxRecDepth 100000 in
theorem c_X8_strongest (l : Launch) (K : KC) (ad : Nat → Nat) (ou : Int) (mi : Int) (bo : Int) (ln : Int) (LF : Int → Int) (sn : Int) (SF : Int → Int) (N : Int → Int) (rs : Nat) (rv : RU) (XF : Int → Int) (hS : ScOk N ou mi bo ln LF sn SF) (hN : NOk0 N) : mG l yX8_strongest wsX8_strongest 5 117 K [.ref (ad 0)] [gRLC K ad, gScn K (ad 3) (ad 14) (ad 15) (ad 16) (ad 17) ou mi bo ln LF sn SF, gRayU K (ad 7) (ad 23) (ad 24) (ad 25) (ad 26) rs rv XF] (fun (v : Value) (u : Nat × RU × (Int → Int)) => (v = .int (iI ((bstN (fun i : Nat => decide (eS N (i : Int) = 0 ∨ eS N (i : Int) = 1)) (fun i : Nat => pS N (i : Int)) (N 4).toNat).1)))) (fun (u : Nat × RU × (Int → Int)) => [gRLC K ad, gScn K (ad 3) (ad 14) (ad 15) (ad 16) (ad 17) ou mi bo ln LF sn SF, gRayU K (ad 7) (ad 23) (ad 24) (ad 25) (ad 26) u.1 u.2.1 u.2.2]) 0 0 := by
  refine mG_of cX8_strongest 5 (by decide) rfl (Nat.le_of_ble_eq_true rfl) ?_
  intro p e s m below meth c A ls Q S C hG hl hr hlk hin hQ
  have S : CallFix p m c cX8_strongest 5 s ([.ref (ad 0)] : List Value).toArray wsX8_strongest RX8 := S
  have iX80 : ∀ w ∈ wsX80, w ∈ wsX8_strongest := fun _ h => List.mem_cons_of_mem _ (List.mem_append_left _ (List.mem_append_left _ (List.mem_append_left _ (List.mem_append_right _ (h)))))
  have iX50 : ∀ w ∈ wsX50, w ∈ wsX8_strongest := fun _ h => List.mem_cons_of_mem _ (List.mem_append_left _ (List.mem_append_left _ (List.mem_append_right _ (h))))
  have iX70 : ∀ w ∈ wsX70, w ∈ wsX8_strongest := fun _ h => List.mem_cons_of_mem _ (List.mem_append_left _ (List.mem_append_right _ (h)))
  have iX40 : ∀ w ∈ wsX40, w ∈ wsX8_strongest := fun _ h => List.mem_cons_of_mem _ (List.mem_append_right _ (h))
  have hl : lv_has ls 5 [(0, .ref (ad 0))] := hl
  have hG : gW K A s.heap [gRLC K ad, gScn K (ad 3) (ad 14) (ad 15) (ad 16) (ad 17) ou mi bo ln LF sn SF, gRayU K (ad 7) (ad 23) (ad 24) (ad 25) (ad 26) rs rv XF] s.heap [] := hG
  obtain ⟨e0, e1, e2, e3, e4, e5, e6⟩ := id hS
  have n0 := hN.1
  have n3 := hN.2.2.2.1
  refine g_iconst S dX8_strongest_0 ?_
  refine lv_istore_n (lv' := [(1, .int (iI (-1))), (0, .ref (ad 0))]) S.1 S.2.1 dX8_strongest_1 rfl hl (by decide) rfl (fun ls hl => ?_)
  refine g_iconst S dX8_strongest_2 ?_
  refine lv_istore_n (lv' := [(2, .int (iI 0)), (1, .int (iI (-1))), (0, .ref (ad 0))]) S.1 S.2.1 dX8_strongest_3 rfl hl (by decide) rfl (fun ls hl => ?_)
  refine g_iconst S dX8_strongest_4 ?_
  refine lv_istore_n (lv' := [(3, .int (iI 0)), (2, .int (iI 0)), (1, .int (iI (-1))), (0, .ref (ad 0))]) S.1 S.2.1 dX8_strongest_5 rfl hl (by decide) rfl (fun ls hl => ?_)
  have L6 : ∀ (fu : Nat) (k : Nat) (w : Int) (bb : Int) (mm : Int) (rs1 : Nat) (rv1 : RU) (X1 : Int → Int) (H : Heap) (locs : List Loc) (ls : Array Slot), ((N 4 - w).toNat) < fu → (w = (k : Int) ∧ w ≤ N 4) → (bb = (bstN (fun i : Nat => decide (eS N (i : Int) = 0 ∨ eS N (i : Int) = 1)) (fun i : Nat => pS N (i : Int)) k).1 ∧ mm = (bstN (fun i : Nat => decide (eS N (i : Int) = 0 ∨ eS N (i : Int) = 1)) (fun i : Nat => pS N (i : Int)) k).2) → (0 ≤ mm ∧ mm ≤ 200000000 ∧ -1 ≤ bb ∧ bb ≤ 20) → lv_has ls 5 [(0, .ref (ad 0)), (1, .int (iI bb)), (2, .int (iI mm)), (3, .int (iI w))] → gW K A s.heap [gRLC K ad, gScn K (ad 3) (ad 14) (ad 15) (ad 16) (ad 17) ou mi bo ln LF sn SF, gRayU K (ad 7) (ad 23) (ad 24) (ad 25) (ad 26) rs1 rv1 X1] H locs → W p l e { frames := 5, cells := 0, slots := 0, locals := 117 } s m ([.ref (ad 0)] : List Value).toArray below meth c H locs 0 0 Q (F0 m 6 ls []) := by
    intro fu
    induction fu with
    | zero => intro k w bb mm rs1 rv1 X1 H locs ls hfu; exact absurd hfu (Nat.not_lt_zero _)
    | succ fu ih =>
      intro k w bb mm rs1 rv1 X1 H locs ls hfu hw hb hm hl hG
      refine lv_iload_n S.1 S.2.1 dX8_strongest_6 rfl (lv_at hl 3 rfl) ?_
      refine lv_aload_n S.1 S.2.1 dX8_strongest_7 rfl (lv_at hl 0 rfl) ?_
      refine g_get S C hG iX80 0 rfl rfl 2 (by decide) (List.mem_of_getElem? (i := 1) rfl) rfl dX8_strongest_8 ?_
      refine g_get S C hG iX50 1 rfl rfl 1 (by decide) (List.mem_of_getElem? (i := 2) rfl) rfl dX8_strongest_11 ?_
      refine g_get S C hG iX70 4 rfl rfl 1 (by decide) (List.mem_of_getElem? (i := 3) rfl) rfl dX8_strongest_14 ?_
      refine g_icmp_ge (tgt := 67) S dX8_strongest_17 (by decide) (by omega) (by omega) (fun q17 => ?_) (fun q17 => ?_)
      · skip
        refine lv_iload_n S.1 S.2.1 dX8_strongest_67 rfl (lv_at hl 1 rfl) ?_
        have hG : gW K A s.heap [gRLC K ad, gScn K (ad 3) (ad 14) (ad 15) (ad 16) (ad 17) ou mi bo ln LF sn SF, gRayU K (ad 7) (ad 23) (ad 24) (ad 25) (ad 26) rs1 rv1 X1] _ _ := hG
        exact g_iret S hr hlk hQ dX8_strongest_68 (Nat.le_of_ble_eq_true rfl) (Nat.le_of_ble_eq_true rfl) ((rs1, rv1, X1) : Nat × RU × (Int → Int)) (congrArg (fun z : Int => Value.int (iI z)) (by rw [hb.1, show (N 4).toNat = k by omega])) hG
      · skip
        refine lv_aload_n S.1 S.2.1 dX8_strongest_20 rfl (lv_at hl 0 rfl) ?_
        refine lv_aload_n S.1 S.2.1 dX8_strongest_21 rfl (lv_at hl 0 rfl) ?_
        refine g_get S C hG iX80 0 rfl rfl 2 (by decide) (List.mem_of_getElem? (i := 1) rfl) rfl dX8_strongest_22 ?_
        refine lv_iload_n S.1 S.2.1 dX8_strongest_25 rfl (lv_at hl 3 rfl) ?_
        refine g_invV (As := [.ref (ad 3), .int (iI w)]) (rest := []) (gs' := (fun u : RU × (Int → Int) => [gRLC K ad, gScn K (ad 3) (ad 14) (ad 15) (ad 16) (ad 17) ou mi bo ln LF sn SF, gRayU K (ad 7) (ad 23) (ad 24) (ad 25) (ad 26) (ad 3) u.1 u.2])) S C hG [0, 1, 2] (c_X8_runOf l K ad (ad 3) (ad 14) (ad 15) (ad 16) (ad 17) ou mi bo ln LF sn SF N rs1 rv1 X1 w hS hN ⟨by omega, by omega⟩) rfl rfl 0 rfl rfl (cwV 2 S.2.2.2.2 gX8_strongest_X8_runOf rfl rfl rfl (by decide +kernel) ⟨Nat.le_of_ble_eq_true rfl, Nat.le_of_ble_eq_true rfl⟩) rfl hl.1 rfl (Nat.le_of_ble_eq_true rfl) dX8_strongest_26 ⟨Nat.le_of_ble_eq_true rfl, Nat.le_of_ble_eq_true rfl⟩ (fun _ => Nat.le_of_ble_eq_true rfl) (fun _ => rfl) (fun v u H locs hp hG => ?_)
        obtain ⟨rv2_26, X2_26⟩ := u
        obtain ⟨rfl, hr_26⟩ := hp
        have hr_26 : ResU N (sP N w) (sY N w) (sD N w) rv2_26 := hr_26
        have hG : gW K A s.heap [gRLC K ad, gScn K (ad 3) (ad 14) (ad 15) (ad 16) (ad 17) ou mi bo ln LF sn SF, gRayU K (ad 7) (ad 23) (ad 24) (ad 25) (ad 26) (ad 3) rv2_26 X2_26] _ _ := hG
        have g2 := hr_26.f.2.1
        have g4 := sho_bd hN (r := w) (by omega) (by omega)
        have g5 := shF_bd hN (p := sP N w) (y := sY N w) (e := sD N w) g4.2.2.1 g4.2.1
        have eb := enF_bd N (sP N w) (sY N w) (sD N w)
        have g6 : 0 ≤ tS N (k : Int) ∧ tS N (k : Int) ≤ 119880000 := by rw [← hw.1] <;> exact g5.2.1
        have g7 : 0 ≤ pS N (k : Int) ∧ pS N (k : Int) ≤ 1000000 := by rw [← hw.1] <;> exact g5.2.2
        refine lv_astore (lv' := [(4, .ref (ad 7)), (0, .ref (ad 0)), (1, .int (iI bb)), (2, .int (iI mm)), (3, .int (iI w))]) S.1 S.2.1 dX8_strongest_29 hl (by decide) rfl (fun ls hl => ?_)
        refine lv_aload S.1 S.2.1 dX8_strongest_31 (lv_at hl 0 rfl) ?_
        refine g_invV (As := []) (rest := []) (gs' := (fun u : Unit => [gRLC K ad, gScn K (ad 3) (ad 14) (ad 15) (ad 16) (ad 17) ou mi bo ln LF sn SF, gRayU K (ad 7) (ad 23) (ad 24) (ad 25) (ad 26) (ad 3) rv2_26 X2_26])) S C hG [2] (c_X4_isOutU l K (ad 7) (ad 23) (ad 24) (ad 25) (ad 26) (ad 3) rv2_26 X2_26 (by omega)) rfl rfl 0 rfl rfl (cwV 0 S.2.2.2.2 gX8_strongest_X4_isOut rfl rfl rfl (by decide +kernel) ⟨Nat.le_of_ble_eq_true rfl, Nat.le_of_ble_eq_true rfl⟩) rfl hl.1 rfl (Nat.le_of_ble_eq_true rfl) dX8_strongest_33 ⟨Nat.le_of_ble_eq_true rfl, Nat.le_of_ble_eq_true rfl⟩ (fun _ => Nat.le_of_ble_eq_true rfl) (fun _ => rfl) (fun v u H locs hp hG => ?_)
        subst hp
        refine g_top (w := .int (iI (bI (eS N (k : Int) = 0 ∨ eS N (k : Int) = 1)))) (congrArg (fun z : Int => Value.int (iI z)) ((by rw [show eS N (k : Int) = rv2_26.2.2.2.2.1 by rw [← hw.1] <;> exact g2.symm]))) ?_
        refine g_ifeq_b (B := (eS N (k : Int) = 0 ∨ eS N (k : Int) = 1)) (tgt := 61) S dX8_strongest_36 (by decide) (fun q36 => ?_) (fun q36 => ?_)
        · skip
          refine lv_iinc (v := iI (w + 1)) (lv' := [(3, .int (iI (w + 1))), (4, .ref (ad 7)), (0, .ref (ad 0)), (1, .int (iI bb)), (2, .int (iI mm))]) S.1 S.2.1 dX8_strongest_61 hl (k := 4) rfl (g_iinc rfl) (by decide) rfl (fun ls hl => ?_)
          refine lv_goto (tgt := 6) S.1 S.2.1 dX8_strongest_64 (by decide) ?_
          exact ih (k + 1) (w + 1) bb mm (ad 3) rv2_26 X2_26 _ _ _ (by omega) ⟨by omega, by omega⟩ (by rw [bst_no (by simpa using q36)] <;> exact hb) (by omega) (lv_sub hl [2, 3, 4, 0] rfl) hG
        · skip
          refine lv_iload_n S.1 S.2.1 dX8_strongest_39 rfl (lv_at hl 2 rfl) ?_
          refine g_iconst S dX8_strongest_40 ?_
          refine g_icmp_eq (tgt := 53) S dX8_strongest_41 (by decide) (by omega) (by omega) (fun q41 => ?_) (fun q41 => ?_)
          · skip
            refine lv_iload_n S.1 S.2.1 dX8_strongest_53 rfl (lv_at hl 4 rfl) ?_
            refine lv_istore_n (lv' := [(1, .int (iI w)), (4, .ref (ad 7)), (0, .ref (ad 0)), (2, .int (iI mm)), (3, .int (iI w))]) S.1 S.2.1 dX8_strongest_54 rfl hl (by decide) rfl (fun ls hl => ?_)
            refine lv_aload S.1 S.2.1 dX8_strongest_55 (lv_at hl 1 rfl) ?_
            refine g_get S C hG iX40 6 rfl rfl 13 (by decide) (List.mem_of_getElem? (i := 4) rfl) rfl dX8_strongest_57 ?_
            refine g_top (w := .int (iI (pS N (k : Int)))) (congrArg (fun z : Int => Value.int (iI z)) ((by rw [← hw.1] <;> exact hr_26.f.2.2.2.2))) ?_
            refine lv_istore_n (lv' := [(2, .int (iI (pS N (k : Int)))), (1, .int (iI w)), (4, .ref (ad 7)), (0, .ref (ad 0)), (3, .int (iI w))]) S.1 S.2.1 dX8_strongest_60 rfl hl (by decide) rfl (fun ls hl => ?_)
            refine lv_iinc (v := iI (w + 1)) (lv' := [(3, .int (iI (w + 1))), (2, .int (iI (pS N (k : Int)))), (1, .int (iI w)), (4, .ref (ad 7)), (0, .ref (ad 0))]) S.1 S.2.1 dX8_strongest_61 hl (k := 4) rfl (g_iinc rfl) (by decide) rfl (fun ls hl => ?_)
            refine lv_goto (tgt := 6) S.1 S.2.1 dX8_strongest_64 (by decide) ?_
            exact ih (k + 1) (w + 1) w (pS N (k : Int)) (ad 3) rv2_26 X2_26 _ _ _ (by omega) ⟨by omega, by omega⟩ (by rw [bst_yes (by simpa using q36) (Or.inl (by omega))] <;> exact ⟨hw.1, by first | rfl | exact (Int.neg_neg _).symm⟩) (by omega) (lv_sub hl [4, 2, 1, 0] rfl) hG
          · skip
            refine lv_aload S.1 S.2.1 dX8_strongest_44 (lv_at hl 0 rfl) ?_
            refine g_get S C hG iX40 6 rfl rfl 13 (by decide) (List.mem_of_getElem? (i := 4) rfl) rfl dX8_strongest_46 ?_
            refine g_top (w := .int (iI (pS N (k : Int)))) (congrArg (fun z : Int => Value.int (iI z)) ((by rw [← hw.1] <;> exact hr_26.f.2.2.2.2))) ?_
            refine lv_iload_n S.1 S.2.1 dX8_strongest_49 rfl (lv_at hl 3 rfl) ?_
            refine g_icmp_le (tgt := 61) S dX8_strongest_50 (by decide) (by omega) (by omega) (fun q50 => ?_) (fun q50 => ?_)
            · skip
              refine lv_iinc (v := iI (w + 1)) (lv' := [(3, .int (iI (w + 1))), (4, .ref (ad 7)), (0, .ref (ad 0)), (1, .int (iI bb)), (2, .int (iI mm))]) S.1 S.2.1 dX8_strongest_61 hl (k := 4) rfl (g_iinc rfl) (by decide) rfl (fun ls hl => ?_)
              refine lv_goto (tgt := 6) S.1 S.2.1 dX8_strongest_64 (by decide) ?_
              exact ih (k + 1) (w + 1) bb mm (ad 3) rv2_26 X2_26 _ _ _ (by omega) ⟨by omega, by omega⟩ (by rw [bst_keep (by omega) (by omega)] <;> exact hb) (by omega) (lv_sub hl [2, 3, 4, 0] rfl) hG
            · skip
              refine lv_iload_n S.1 S.2.1 dX8_strongest_53 rfl (lv_at hl 4 rfl) ?_
              refine lv_istore_n (lv' := [(1, .int (iI w)), (4, .ref (ad 7)), (0, .ref (ad 0)), (2, .int (iI mm)), (3, .int (iI w))]) S.1 S.2.1 dX8_strongest_54 rfl hl (by decide) rfl (fun ls hl => ?_)
              refine lv_aload S.1 S.2.1 dX8_strongest_55 (lv_at hl 1 rfl) ?_
              refine g_get S C hG iX40 6 rfl rfl 13 (by decide) (List.mem_of_getElem? (i := 4) rfl) rfl dX8_strongest_57 ?_
              refine g_top (w := .int (iI (pS N (k : Int)))) (congrArg (fun z : Int => Value.int (iI z)) ((by rw [← hw.1] <;> exact hr_26.f.2.2.2.2))) ?_
              refine lv_istore_n (lv' := [(2, .int (iI (pS N (k : Int)))), (1, .int (iI w)), (4, .ref (ad 7)), (0, .ref (ad 0)), (3, .int (iI w))]) S.1 S.2.1 dX8_strongest_60 rfl hl (by decide) rfl (fun ls hl => ?_)
              refine lv_iinc (v := iI (w + 1)) (lv' := [(3, .int (iI (w + 1))), (2, .int (iI (pS N (k : Int)))), (1, .int (iI w)), (4, .ref (ad 7)), (0, .ref (ad 0))]) S.1 S.2.1 dX8_strongest_61 hl (k := 4) rfl (g_iinc rfl) (by decide) rfl (fun ls hl => ?_)
              refine lv_goto (tgt := 6) S.1 S.2.1 dX8_strongest_64 (by decide) ?_
              exact ih (k + 1) (w + 1) w (pS N (k : Int)) (ad 3) rv2_26 X2_26 _ _ _ (by omega) ⟨by omega, by omega⟩ (by rw [bst_yes (by simpa using q36) (Or.inr (by omega))] <;> exact ⟨hw.1, by first | rfl | exact (Int.neg_neg _).symm⟩) (by omega) (lv_sub hl [4, 2, 1, 0] rfl) hG
  exact L6 (Nat.succ ((N 4 - 0).toNat)) 0 0 (-1) 0 rs rv XF _ _ _ (Nat.lt_succ_self _) ⟨rfl, by omega⟩ ⟨rfl, rfl⟩ (by omega) (lv_sub hl [3, 2, 1, 0] rfl) hG
