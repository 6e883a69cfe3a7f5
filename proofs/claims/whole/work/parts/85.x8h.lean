set_option maxHeartbeats 1000000 in
set_option maxRecDepth 100000 in
theorem c_X8_keep_n (l : Launch) (K : KC) (ad : Nat → Nat) (ou : Int) (mi : Int) (bo : Int) (ln : Int) (LF : Int → Int) (sn : Int) (SF : Int → Int) (N : Int → Int) (P : Nat → Option Nat) (y : Int) (FR : va_W) (hS : ScOk N ou mi bo ln LF sn SF) (hN : NOk0 N) (hy : 0 ≤ y ∧ y < 2) (hP : P y.toNat = none) : mG l yX8_keep wsX8_keep 3 102 K [.ref (ad 0), .int (iI y)] [gRLC K ad, gScn K (ad 3) (ad 14) (ad 15) (ad 16) (ad 17) ou mi bo ln LF sn SF, gQS K (ad 6) 2 P, gFR K FR] (fun (v : Value) (u : Nat × Nat × Nat × Nat × Nat) => (v = .int (iI (N 4)))) (fun (u : Nat × Nat × Nat × Nat × Nat) => [gRLC K ad, gScn K (ad 3) (ad 14) (ad 15) (ad 16) (ad 17) ou mi bo ln LF sn SF, gQS K (ad 6) 2 (va_up P y.toNat (some u.1)), gScn K u.1 u.2.1 u.2.2.1 u.2.2.2.1 u.2.2.2.2 ou mi bo ln (cpyI LF (fun _ => 0) 60) sn (cpyI SF (fun _ => 0) 60), gFR K FR]) 5 129 := by
  refine mG_of cX8_keep 3 (by decide) rfl (Nat.le_of_ble_eq_true rfl) ?_
  intro p e s m below meth c A ls Q S C hG hl hr hlk hin hQ
  have S : CallFix p m c cX8_keep 3 s ([.ref (ad 0), .int (iI y)] : List Value).toArray wsX8_keep RX8 := S
  have iX80 : ∀ w ∈ wsX80, w ∈ wsX8_keep := fun _ h => List.mem_cons_of_mem _ (List.mem_append_left _ (List.mem_append_left _ (List.mem_append_left _ (List.mem_append_right _ (h)))))
  have iX50 : ∀ w ∈ wsX50, w ∈ wsX8_keep := fun _ h => List.mem_cons_of_mem _ (List.mem_append_left _ (List.mem_append_left _ (List.mem_append_right _ (h))))
  have iX70 : ∀ w ∈ wsX70, w ∈ wsX8_keep := fun _ h => List.mem_cons_of_mem _ (List.mem_append_left _ (List.mem_append_right _ (h)))
  have hl : lv_has ls 3 [(0, .ref (ad 0)), (1, .int (iI y))] := hl
  have hG : gW K A s.heap [gRLC K ad, gScn K (ad 3) (ad 14) (ad 15) (ad 16) (ad 17) ou mi bo ln LF sn SF, gQS K (ad 6) 2 P, gFR K FR] s.heap [] := hG
  obtain ⟨e0, e1, e2, e3, e4, e5, e6⟩ := id hS
  have n0 := hN.1
  have n3 := hN.2.2.2.1
  have n2 := hN.2.2.1
  refine lv_aload_n S.1 S.2.1 dX8_keep_0 rfl (lv_at hl 0 rfl) ?_
  refine lv_iload_n S.1 S.2.1 dX8_keep_1 rfl (lv_at hl 1 rfl) ?_
  refine g_invVv (As := [.int (iI y)]) (rest := []) (gs' := (fun u : Unit => [gRLC K ad, gScn K (ad 3) (ad 14) (ad 15) (ad 16) (ad 17) ou mi bo ln LF sn SF, gQS K (ad 6) 2 P, gFR K FR])) S C hG [0] (c_X8_checkSlot l K ad y (by omega) hy) rfl rfl 0 rfl rfl (cwV 1 S.2.2.2.2 gX8_keep_X8_checkSlot rfl rfl rfl (by decide +kernel) ⟨Nat.le_of_ble_eq_true rfl, Nat.le_of_ble_eq_true rfl⟩) rfl hl.1 rfl (Nat.le_of_ble_eq_true rfl) dX8_keep_2 ⟨Nat.le_of_ble_eq_true rfl, Nat.le_of_ble_eq_true rfl⟩ (fun _ => Nat.le_of_ble_eq_true rfl) (fun _ => rfl) (fun u H locs hp hG => ?_)
  refine lv_aload_n S.1 S.2.1 dX8_keep_5 rfl (lv_at hl 0 rfl) ?_
  refine g_get S C hG iX80 0 rfl rfl 5 (by decide) (List.mem_of_getElem? (i := 1) rfl) rfl dX8_keep_6 ?_
  refine lv_iload_n S.1 S.2.1 dX8_keep_9 rfl (lv_at hl 1 rfl) ?_
  refine g_invS (As := [.ref (ad 6), .int (iI y)]) (rest := []) (gs' := (fun u : Unit => [gRLC K ad, gScn K (ad 3) (ad 14) (ad 15) (ad 16) (ad 17) ou mi bo ln LF sn SF, gQS K (ad 6) 2 P, gFR K FR])) S C hG [2] (c_X8_sceneAt l K (ad 6) 2 P y hy (by omega)) rfl rfl (va_cwS 2 S.2.2.2.2 gX8_keep_X8_sceneAt rfl rfl rfl (by decide +kernel) ⟨Nat.le_of_ble_eq_true rfl, Nat.le_of_ble_eq_true rfl⟩) rfl hl.1 rfl (Nat.le_of_ble_eq_true rfl) dX8_keep_10 ⟨Nat.le_of_ble_eq_true rfl, Nat.le_of_ble_eq_true rfl⟩ (fun _ => Nat.le_of_ble_eq_true rfl) (fun _ => rfl) (fun v u H locs hp hG => ?_)
  subst hp
  refine g_top (w := .null) (by rw [hP]; rfl) ?_
  refine lv_astore_nN (lv' := [(2, .null), (0, .ref (ad 0)), (1, .int (iI y))]) S.1 S.2.1 dX8_keep_13 rfl hl (by decide) rfl (fun ls hl => ?_)
  refine lv_aload_nN S.1 S.2.1 dX8_keep_14 rfl (lv_at hl 0 rfl) ?_
  refine lv_ifnonnullN S.1 S.2.1 dX8_keep_15 ?_
  refine g_new (ci := 5) (fs := [.null, .null, .int (iI 0), .int (iI 0), .int (iI 0)]) (gs' := fun nw18 => [gRLC K ad, gScn K (ad 3) (ad 14) (ad 15) (ad 16) (ad 17) ou mi bo ln LF sn SF, gQS K (ad 6) 2 P, gFR K FR, gNew5 K nw18]) S C hG iX50 tyX5 tyX5_ok (List.mem_of_getElem? (i := 2) rfl) (List.mem_of_getElem? (i := 3) rfl) (List.mem_of_getElem? (i := 4) rfl) rfl dfX5 (Nat.le_of_ble_eq_true rfl) (Nat.le_of_ble_eq_true rfl) (fun nw18 => flat_new [gRLC K ad, gScn K (ad 3) (ad 14) (ad 15) (ad 16) (ad 17) ou mi bo ln LF sn SF, gQS K (ad 6) 2 P, gFR K FR] (gNew5 K nw18)) dX8_keep_18 (fun nw18 H hG => ?_)
  have hG : gW K A s.heap [gRLC K ad, gScn K (ad 3) (ad 14) (ad 15) (ad 16) (ad 17) ou mi bo ln LF sn SF, gQS K (ad 6) 2 P, gNew5 K nw18, gFR K FR] _ _ := gW_tail [gRLC K ad, gScn K (ad 3) (ad 14) (ad 15) (ad 16) (ad 17) ou mi bo ln LF sn SF, gQS K (ad 6) 2 P] (gFR K FR) (gNew5 K nw18) hG
  refine lv_dup S.1 S.2.1 dX8_keep_21 rfl ?_
  refine g_invIN (As := []) (rest := [.ref nw18]) (gs' := (fun u : Nat × Nat × Nat × Nat => [gRLC K ad, gScn K (ad 3) (ad 14) (ad 15) (ad 16) (ad 17) ou mi bo ln LF sn SF, gQS K (ad 6) 2 P, gScn K nw18 u.1 u.2.1 u.2.2.1 u.2.2.2 1000 0 1000 0 (fun _ => 0) 0 (fun _ => 0), gFR K FR])) S C hG [3] (c_X5_init l K nw18) rfl rfl ⟨va_cnB 0 S.2.2.2.2 gX8_keep_X5_init_n21 rfl rfl rfl (C.1.2.1 _ (List.mem_of_getElem? (i := 1) rfl)) (S.2.2.2.2 _ (List.mem_of_getElem? (i := 4) rfl)) (by decide +kernel) ⟨Nat.le_of_ble_eq_true rfl, Nat.le_of_ble_eq_true rfl⟩, rfl, (S.2.2.2.2 _ (List.mem_of_getElem? (i := 18) rfl))⟩ rfl hl.1 rfl (Nat.le_of_ble_eq_true rfl) dX8_keep_22 ⟨Nat.le_of_ble_eq_true rfl, Nat.le_of_ble_eq_true rfl⟩ (fun _ => Nat.le_of_ble_eq_true rfl) (fun _ => rfl) (fun u H locs hp hG => ?_)
  obtain ⟨la_22, lb_22, sa_22, sb_22⟩ := u
  have hG : gW K A s.heap [gRLC K ad, gScn K (ad 3) (ad 14) (ad 15) (ad 16) (ad 17) ou mi bo ln LF sn SF, gQS K (ad 6) 2 P, gScn K nw18 la_22 lb_22 sa_22 sb_22 1000 0 1000 0 (fun _ => 0) 0 (fun _ => 0), gFR K FR] _ _ := hG
  refine lv_astore_n (lv' := [(2, .ref nw18), (0, .ref (ad 0)), (1, .int (iI y))]) S.1 S.2.1 dX8_keep_25 rfl hl (by decide) rfl (fun ls hl => ?_)
  refine lv_aload_n S.1 S.2.1 dX8_keep_26 rfl (lv_at hl 1 rfl) ?_
  refine g_get S C hG iX80 0 rfl rfl 5 (by decide) (List.mem_of_getElem? (i := 1) rfl) rfl dX8_keep_27 ?_
  refine lv_iload_n S.1 S.2.1 dX8_keep_30 rfl (lv_at hl 2 rfl) ?_
  refine lv_aload_n S.1 S.2.1 dX8_keep_31 rfl (lv_at hl 0 rfl) ?_
  refine g_aast5 (gs1 := [gRLC K ad, gScn K (ad 3) (ad 14) (ad 15) (ad 16) (ad 17) ou mi bo ln LF sn SF, gQS K (ad 6) 2 (va_up P y.toNat (some nw18)), gScn K nw18 la_22 lb_22 sa_22 sb_22 1000 0 1000 0 (fun _ => 0) 0 (fun _ => 0), gFR K FR]) S C hG 6 7 rfl rfl (by omega) (by omega) (by omega) rfl dX8_keep_32 (fun H locs hG => ?_)
  refine lv_aload_n S.1 S.2.1 dX8_keep_33 rfl (lv_at hl 0 rfl) ?_
  refine lv_aload_n S.1 S.2.1 dX8_keep_34 rfl (lv_at hl 1 rfl) ?_
  refine g_get S C hG iX80 0 rfl rfl 2 (by decide) (List.mem_of_getElem? (i := 5) rfl) rfl dX8_keep_35 ?_
  refine g_invVv (As := [.ref (ad 3)]) (rest := []) (gs' := (fun u : Unit => [gRLC K ad, gScn K (ad 3) (ad 14) (ad 15) (ad 16) (ad 17) ou mi bo ln LF sn SF, gQS K (ad 6) 2 (va_up P y.toNat (some nw18)), gScn K nw18 la_22 lb_22 sa_22 sb_22 ou mi bo ln (cpyI LF (fun _ => 0) 60) sn (cpyI SF (fun _ => 0) 60), gFR K FR])) S C hG [3, 1] (c_X5_become l K nw18 la_22 lb_22 sa_22 sb_22 1000 0 1000 0 (fun _ => 0) 0 (fun _ => 0) (ad 3) (ad 14) (ad 15) (ad 16) (ad 17) ou mi bo ln LF sn SF (by omega)) rfl rfl 0 rfl rfl (cwV 1 S.2.2.2.2 gX8_keep_X5_become rfl rfl rfl (by decide +kernel) ⟨Nat.le_of_ble_eq_true rfl, Nat.le_of_ble_eq_true rfl⟩) rfl hl.1 rfl (Nat.le_of_ble_eq_true rfl) dX8_keep_38 ⟨Nat.le_of_ble_eq_true rfl, Nat.le_of_ble_eq_true rfl⟩ (fun _ => Nat.le_of_ble_eq_true rfl) (fun _ => rfl) (fun u H locs hp hG => ?_)
  refine lv_aload_n S.1 S.2.1 dX8_keep_41 rfl (lv_at hl 1 rfl) ?_
  refine g_get S C hG iX80 0 rfl rfl 2 (by decide) (List.mem_of_getElem? (i := 5) rfl) rfl dX8_keep_42 ?_
  refine g_get S C hG iX50 1 rfl rfl 1 (by decide) (List.mem_of_getElem? (i := 6) rfl) rfl dX8_keep_45 ?_
  refine g_get S C hG iX70 4 rfl rfl 1 (by decide) (List.mem_of_getElem? (i := 7) rfl) rfl dX8_keep_48 ?_
  have hG : gW K A s.heap [gRLC K ad, gScn K (ad 3) (ad 14) (ad 15) (ad 16) (ad 17) ou mi bo ln LF sn SF, gQS K (ad 6) 2 (va_up P y.toNat (some nw18)), gScn K nw18 la_22 lb_22 sa_22 sb_22 ou mi bo ln (cpyI LF (fun _ => 0) 60) sn (cpyI SF (fun _ => 0) 60), gFR K FR] _ _ := hG
  exact g_iret S hr hlk hQ dX8_keep_51 (Nat.le_of_ble_eq_true rfl) (Nat.le_of_ble_eq_true rfl) ((nw18, la_22, lb_22, sa_22, sb_22) : Nat × Nat × Nat × Nat × Nat) (congrArg (fun z : Int => Value.int (iI z)) (by first | rfl | omega)) hG

set_option maxHeartbeats 1000000 in
set_option maxRecDepth 100000 in
theorem c_X8_keep_s (l : Launch) (K : KC) (ad : Nat → Nat) (ou : Int) (mi : Int) (bo : Int) (ln : Int) (LF : Int → Int) (sn : Int) (SF : Int → Int) (N : Int → Int) (P : Nat → Option Nat) (y : Int) (a3 : Nat) (la3 : Nat) (lb3 : Nat) (sa3 : Nat) (sb3 : Nat) (ou3 : Int) (mi3 : Int) (bo3 : Int) (ln3 : Int) (LF3 : Int → Int) (sn3 : Int) (SF3 : Int → Int) (FR : va_W) (hS : ScOk N ou mi bo ln LF sn SF) (hN : NOk0 N) (hy : 0 ≤ y ∧ y < 2) (hP : P y.toNat = some a3) : mG l yX8_keep wsX8_keep 3 102 K [.ref (ad 0), .int (iI y)] [gRLC K ad, gScn K (ad 3) (ad 14) (ad 15) (ad 16) (ad 17) ou mi bo ln LF sn SF, gQS K (ad 6) 2 P, gScn K a3 la3 lb3 sa3 sb3 ou3 mi3 bo3 ln3 LF3 sn3 SF3, gFR K FR] (fun (v : Value) (u : Unit) => (v = .int (iI (N 4)))) (fun (u : Unit) => [gRLC K ad, gScn K (ad 3) (ad 14) (ad 15) (ad 16) (ad 17) ou mi bo ln LF sn SF, gQS K (ad 6) 2 P, gScn K a3 la3 lb3 sa3 sb3 ou mi bo ln (cpyI LF LF3 60) sn (cpyI SF SF3 60), gFR K FR]) 5 129 := by
  refine mG_of cX8_keep 3 (by decide) rfl (Nat.le_of_ble_eq_true rfl) ?_
  intro p e s m below meth c A ls Q S C hG hl hr hlk hin hQ
  have S : CallFix p m c cX8_keep 3 s ([.ref (ad 0), .int (iI y)] : List Value).toArray wsX8_keep RX8 := S
  have iX80 : ∀ w ∈ wsX80, w ∈ wsX8_keep := fun _ h => List.mem_cons_of_mem _ (List.mem_append_left _ (List.mem_append_left _ (List.mem_append_left _ (List.mem_append_right _ (h)))))
  have iX50 : ∀ w ∈ wsX50, w ∈ wsX8_keep := fun _ h => List.mem_cons_of_mem _ (List.mem_append_left _ (List.mem_append_left _ (List.mem_append_right _ (h))))
  have iX70 : ∀ w ∈ wsX70, w ∈ wsX8_keep := fun _ h => List.mem_cons_of_mem _ (List.mem_append_left _ (List.mem_append_right _ (h)))
  have hl : lv_has ls 3 [(0, .ref (ad 0)), (1, .int (iI y))] := hl
  have hG : gW K A s.heap [gRLC K ad, gScn K (ad 3) (ad 14) (ad 15) (ad 16) (ad 17) ou mi bo ln LF sn SF, gQS K (ad 6) 2 P, gScn K a3 la3 lb3 sa3 sb3 ou3 mi3 bo3 ln3 LF3 sn3 SF3, gFR K FR] s.heap [] := hG
  obtain ⟨e0, e1, e2, e3, e4, e5, e6⟩ := id hS
  have n0 := hN.1
  have n3 := hN.2.2.2.1
  have n2 := hN.2.2.1
  refine lv_aload_n S.1 S.2.1 dX8_keep_0 rfl (lv_at hl 0 rfl) ?_
  refine lv_iload_n S.1 S.2.1 dX8_keep_1 rfl (lv_at hl 1 rfl) ?_
  refine g_invVv (As := [.int (iI y)]) (rest := []) (gs' := (fun u : Unit => [gRLC K ad, gScn K (ad 3) (ad 14) (ad 15) (ad 16) (ad 17) ou mi bo ln LF sn SF, gQS K (ad 6) 2 P, gScn K a3 la3 lb3 sa3 sb3 ou3 mi3 bo3 ln3 LF3 sn3 SF3, gFR K FR])) S C hG [0] (c_X8_checkSlot l K ad y (by omega) hy) rfl rfl 0 rfl rfl (cwV 1 S.2.2.2.2 gX8_keep_X8_checkSlot rfl rfl rfl (by decide +kernel) ⟨Nat.le_of_ble_eq_true rfl, Nat.le_of_ble_eq_true rfl⟩) rfl hl.1 rfl (Nat.le_of_ble_eq_true rfl) dX8_keep_2 ⟨Nat.le_of_ble_eq_true rfl, Nat.le_of_ble_eq_true rfl⟩ (fun _ => Nat.le_of_ble_eq_true rfl) (fun _ => rfl) (fun u H locs hp hG => ?_)
  refine lv_aload_n S.1 S.2.1 dX8_keep_5 rfl (lv_at hl 0 rfl) ?_
  refine g_get S C hG iX80 0 rfl rfl 5 (by decide) (List.mem_of_getElem? (i := 1) rfl) rfl dX8_keep_6 ?_
  refine lv_iload_n S.1 S.2.1 dX8_keep_9 rfl (lv_at hl 1 rfl) ?_
  refine g_invS (As := [.ref (ad 6), .int (iI y)]) (rest := []) (gs' := (fun u : Unit => [gRLC K ad, gScn K (ad 3) (ad 14) (ad 15) (ad 16) (ad 17) ou mi bo ln LF sn SF, gQS K (ad 6) 2 P, gScn K a3 la3 lb3 sa3 sb3 ou3 mi3 bo3 ln3 LF3 sn3 SF3, gFR K FR])) S C hG [2] (c_X8_sceneAt l K (ad 6) 2 P y hy (by omega)) rfl rfl (va_cwS 2 S.2.2.2.2 gX8_keep_X8_sceneAt rfl rfl rfl (by decide +kernel) ⟨Nat.le_of_ble_eq_true rfl, Nat.le_of_ble_eq_true rfl⟩) rfl hl.1 rfl (Nat.le_of_ble_eq_true rfl) dX8_keep_10 ⟨Nat.le_of_ble_eq_true rfl, Nat.le_of_ble_eq_true rfl⟩ (fun _ => Nat.le_of_ble_eq_true rfl) (fun _ => rfl) (fun v u H locs hp hG => ?_)
  subst hp
  refine g_top (w := .ref a3) (by rw [hP]; rfl) ?_
  refine lv_astore_n (lv' := [(2, .ref a3), (0, .ref (ad 0)), (1, .int (iI y))]) S.1 S.2.1 dX8_keep_13 rfl hl (by decide) rfl (fun ls hl => ?_)
  refine lv_aload_n S.1 S.2.1 dX8_keep_14 rfl (lv_at hl 0 rfl) ?_
  refine lv_ifnonnull (tgt := 33) S.1 S.2.1 dX8_keep_15 (by decide) ?_
  refine lv_aload_n S.1 S.2.1 dX8_keep_33 rfl (lv_at hl 0 rfl) ?_
  refine lv_aload_n S.1 S.2.1 dX8_keep_34 rfl (lv_at hl 1 rfl) ?_
  refine g_get S C hG iX80 0 rfl rfl 2 (by decide) (List.mem_of_getElem? (i := 5) rfl) rfl dX8_keep_35 ?_
  refine g_invVv (As := [.ref (ad 3)]) (rest := []) (gs' := (fun u : Unit => [gRLC K ad, gScn K (ad 3) (ad 14) (ad 15) (ad 16) (ad 17) ou mi bo ln LF sn SF, gQS K (ad 6) 2 P, gScn K a3 la3 lb3 sa3 sb3 ou mi bo ln (cpyI LF LF3 60) sn (cpyI SF SF3 60), gFR K FR])) S C hG [3, 1] (c_X5_become l K a3 la3 lb3 sa3 sb3 ou3 mi3 bo3 ln3 LF3 sn3 SF3 (ad 3) (ad 14) (ad 15) (ad 16) (ad 17) ou mi bo ln LF sn SF (by omega)) rfl rfl 0 rfl rfl (cwV 1 S.2.2.2.2 gX8_keep_X5_become rfl rfl rfl (by decide +kernel) ⟨Nat.le_of_ble_eq_true rfl, Nat.le_of_ble_eq_true rfl⟩) rfl hl.1 rfl (Nat.le_of_ble_eq_true rfl) dX8_keep_38 ⟨Nat.le_of_ble_eq_true rfl, Nat.le_of_ble_eq_true rfl⟩ (fun _ => Nat.le_of_ble_eq_true rfl) (fun _ => rfl) (fun u H locs hp hG => ?_)
  refine lv_aload_n S.1 S.2.1 dX8_keep_41 rfl (lv_at hl 1 rfl) ?_
  refine g_get S C hG iX80 0 rfl rfl 2 (by decide) (List.mem_of_getElem? (i := 5) rfl) rfl dX8_keep_42 ?_
  refine g_get S C hG iX50 1 rfl rfl 1 (by decide) (List.mem_of_getElem? (i := 6) rfl) rfl dX8_keep_45 ?_
  refine g_get S C hG iX70 4 rfl rfl 1 (by decide) (List.mem_of_getElem? (i := 7) rfl) rfl dX8_keep_48 ?_
  have hG : gW K A s.heap [gRLC K ad, gScn K (ad 3) (ad 14) (ad 15) (ad 16) (ad 17) ou mi bo ln LF sn SF, gQS K (ad 6) 2 P, gScn K a3 la3 lb3 sa3 sb3 ou mi bo ln (cpyI LF LF3 60) sn (cpyI SF SF3 60), gFR K FR] _ _ := hG
  exact g_iret S hr hlk hQ dX8_keep_51 (Nat.le_of_ble_eq_true rfl) (Nat.le_of_ble_eq_true rfl) (() : Unit) (congrArg (fun z : Int => Value.int (iI z)) (by first | rfl | omega)) hG

set_option maxHeartbeats 1000000 in
set_option maxRecDepth 100000 in
theorem x1_keep (l : Launch) (K : KC) (ad : Nat → Nat) (y : Int) (hv : -2147483648 ≤ y ∧ y < 2147483648) (hy : ¬ (0 ≤ y ∧ y < 2)) (hst : l.stackTraces = false) : mX l yX8_keep wsX8_keep 7 103 K [.ref (ad 0), .int (iI y)] [gRLC K ad] "java/lang/IndexOutOfBoundsException" (fun (u : Unit) => True) (fun (u : Unit) => [gRLC K ad]) 1 6 := by
  refine mX_of cX8_keep 3 (by decide) rfl (Nat.le_of_ble_eq_true rfl) ?_
  intro p e s m below meth c A ls Q S C hG hl hex hlk hin hQ
  have S : CallFix p m c cX8_keep 3 s ([.ref (ad 0), .int (iI y)] : List Value).toArray wsX8_keep RX8 := S
  have iX80 : ∀ w ∈ wsX80, w ∈ wsX8_keep := fun _ h => List.mem_cons_of_mem _ (List.mem_append_left _ (List.mem_append_left _ (List.mem_append_left _ (List.mem_append_right _ (h)))))
  have iX50 : ∀ w ∈ wsX50, w ∈ wsX8_keep := fun _ h => List.mem_cons_of_mem _ (List.mem_append_left _ (List.mem_append_left _ (List.mem_append_right _ (h))))
  have iX70 : ∀ w ∈ wsX70, w ∈ wsX8_keep := fun _ h => List.mem_cons_of_mem _ (List.mem_append_left _ (List.mem_append_right _ (h)))
  have hl : lv_has ls 3 [(0, .ref (ad 0)), (1, .int (iI y))] := hl
  have hG : gW K A s.heap [gRLC K ad] s.heap [] := hG
  refine lv_aload_n S.1 S.2.1 dX8_keep_0 rfl (lv_at hl 0 rfl) ?_
  refine lv_iload_n S.1 S.2.1 dX8_keep_1 rfl (lv_at hl 1 rfl) ?_
  refine g_xV (E := "java/lang/IndexOutOfBoundsException") (As := [.int (iI y)]) (rest := []) (gs' := (fun u : Unit => [gRLC K ad])) S C hG [0] (x_checkSlot l K ad y hv hy hst) rfl rfl 0 rfl rfl (cwV 1 S.2.2.2.2 gX8_keep_X8_checkSlot rfl rfl rfl (by decide +kernel) ⟨Nat.le_of_ble_eq_true rfl, Nat.le_of_ble_eq_true rfl⟩) rfl hl.1 rfl (Nat.le_of_ble_eq_true rfl) dX8_keep_2 ⟨Nat.le_of_ble_eq_true rfl, Nat.le_of_ble_eq_true rfl⟩ (fun _ => Nat.le_of_ble_eq_true rfl) (fun _ => rfl) (fun u q9 ce9 H locs hp hG hq9 hv9 hcl9 => ?_)
  have hG : gW K A s.heap [gRLC K ad] _ _ := hG
  exact g_xout hQ hex hlk hq9 hv9 hcl9 (Nat.le_of_ble_eq_true rfl) (Nat.le_of_ble_eq_true rfl) (() : Unit) trivial hG

set_option maxHeartbeats 1000000 in
set_option maxRecDepth 100000 in
theorem c_X8_restore_s (l : Launch) (K : KC) (ad : Nat → Nat) (ou : Int) (mi : Int) (bo : Int) (ln : Int) (LF : Int → Int) (sn : Int) (SF : Int → Int) (N : Int → Int) (nx : Int) (sz : Int) (o : Nat → Option SR) (P : Nat → Option Nat) (y : Int) (a3 : Nat) (la3 : Nat) (lb3 : Nat) (sa3 : Nat) (sb3 : Nat) (ou3 : Int) (mi3 : Int) (bo3 : Int) (ln3 : Int) (LF3 : Int → Int) (sn3 : Int) (SF3 : Int → Int) (FR : va_W) (hS : ScOk N ou mi bo ln LF sn SF) (hN : NOk0 N) (hnx : 0 ≤ nx ∧ nx < 6) (hsz : 0 ≤ sz ∧ sz ≤ 6) (hy : 0 ≤ y ∧ y < 2) (hm : mi3 = 0 ∨ mi3 = 1) (hP : P y.toNat = some a3) : mG l yX8_restore wsX8_restore 4 124 K [.ref (ad 0), .int (iI y)] [gRLC K ad, gScn K (ad 3) (ad 14) (ad 15) (ad 16) (ad 17) ou mi bo ln LF sn SF, gHisC K (ad 5) (ad 22) nx sz, gQS K (ad 22) 6 (oP o), gQS K (ad 6) 2 P, gScn K a3 la3 lb3 sa3 sb3 ou3 mi3 bo3 ln3 LF3 sn3 SF3, gSOs K o (List.range 6), gFR K FR] (fun (v : Value) (u : SR) => (v = .int (iI sn3)) ∧ (ScR N u)) (fun (u : SR) => [gRLC K ad, gScn K (ad 3) (ad 14) (ad 15) (ad 16) (ad 17) ou3 mi3 bo3 ln3 (cpyI LF3 LF 60) sn3 (cpyI SF3 SF 60), gHisC K (ad 5) (ad 22) ((nx + 1) % 6) (min (sz + 1) 6), gQS K (ad 22) 6 (oP (oup o nx.toNat u)), gQS K (ad 6) 2 P, gScn K a3 la3 lb3 sa3 sb3 ou3 mi3 bo3 ln3 LF3 sn3 SF3, gSOs K (oup o nx.toNat u) (List.range 6), gFR K FR]) 5 129 := by
  refine mG_of cX8_restore 3 (by decide) rfl (Nat.le_of_ble_eq_true rfl) ?_
  intro p e s m below meth c A ls Q S C hG hl hr hlk hin hQ
  have S : CallFix p m c cX8_restore 3 s ([.ref (ad 0), .int (iI y)] : List Value).toArray wsX8_restore RX8 := S
  have iX80 : ∀ w ∈ wsX80, w ∈ wsX8_restore := fun _ h => List.mem_cons_of_mem _ (List.mem_append_left _ (List.mem_append_left _ (List.mem_append_left _ (List.mem_append_left _ (List.mem_append_left _ (List.mem_append_right _ (h)))))))
  have iX50 : ∀ w ∈ wsX50, w ∈ wsX8_restore := fun _ h => List.mem_cons_of_mem _ (List.mem_append_left _ (List.mem_append_left _ (List.mem_append_left _ (List.mem_append_left _ (List.mem_append_right _ (h))))))
  have iX70 : ∀ w ∈ wsX70, w ∈ wsX8_restore := fun _ h => List.mem_cons_of_mem _ (List.mem_append_left _ (List.mem_append_left _ (List.mem_append_left _ (List.mem_append_right _ (h)))))
  have iX10 : ∀ w ∈ wsX10, w ∈ wsX8_restore := fun _ h => List.mem_cons_of_mem _ (List.mem_append_left _ (List.mem_append_left _ (List.mem_append_right _ (h))))
  have hl : lv_has ls 3 [(0, .ref (ad 0)), (1, .int (iI y))] := hl
  have hG : gW K A s.heap [gRLC K ad, gScn K (ad 3) (ad 14) (ad 15) (ad 16) (ad 17) ou mi bo ln LF sn SF, gHisC K (ad 5) (ad 22) nx sz, gQS K (ad 22) 6 (oP o), gQS K (ad 6) 2 P, gScn K a3 la3 lb3 sa3 sb3 ou3 mi3 bo3 ln3 LF3 sn3 SF3, gSOs K o (List.range 6), gFR K FR] s.heap [] := hG
  obtain ⟨e0, e1, e2, e3, e4, e5, e6⟩ := id hS
  have n0 := hN.1
  have n3 := hN.2.2.2.1
  refine lv_aload_n S.1 S.2.1 dX8_restore_0 rfl (lv_at hl 0 rfl) ?_
  refine lv_iload_n S.1 S.2.1 dX8_restore_1 rfl (lv_at hl 1 rfl) ?_
  refine g_invVv (As := [.int (iI y)]) (rest := []) (gs' := (fun u : Unit => [gRLC K ad, gScn K (ad 3) (ad 14) (ad 15) (ad 16) (ad 17) ou mi bo ln LF sn SF, gHisC K (ad 5) (ad 22) nx sz, gQS K (ad 22) 6 (oP o), gQS K (ad 6) 2 P, gScn K a3 la3 lb3 sa3 sb3 ou3 mi3 bo3 ln3 LF3 sn3 SF3, gSOs K o (List.range 6), gFR K FR])) S C hG [0] (c_X8_checkSlot l K ad y (by omega) hy) rfl rfl 0 rfl rfl (cwV 1 S.2.2.2.2 gX8_restore_X8_checkSlot rfl rfl rfl (by decide +kernel) ⟨Nat.le_of_ble_eq_true rfl, Nat.le_of_ble_eq_true rfl⟩) rfl hl.1 rfl (Nat.le_of_ble_eq_true rfl) dX8_restore_2 ⟨Nat.le_of_ble_eq_true rfl, Nat.le_of_ble_eq_true rfl⟩ (fun _ => Nat.le_of_ble_eq_true rfl) (fun _ => rfl) (fun u H locs hp hG => ?_)
  refine lv_aload_n S.1 S.2.1 dX8_restore_5 rfl (lv_at hl 0 rfl) ?_
  refine g_get S C hG iX80 0 rfl rfl 5 (by decide) (List.mem_of_getElem? (i := 3) rfl) rfl dX8_restore_6 ?_
  refine lv_iload_n S.1 S.2.1 dX8_restore_9 rfl (lv_at hl 1 rfl) ?_
  refine g_invS (As := [.ref (ad 6), .int (iI y)]) (rest := []) (gs' := (fun u : Unit => [gRLC K ad, gScn K (ad 3) (ad 14) (ad 15) (ad 16) (ad 17) ou mi bo ln LF sn SF, gHisC K (ad 5) (ad 22) nx sz, gQS K (ad 22) 6 (oP o), gQS K (ad 6) 2 P, gScn K a3 la3 lb3 sa3 sb3 ou3 mi3 bo3 ln3 LF3 sn3 SF3, gSOs K o (List.range 6), gFR K FR])) S C hG [4] (c_X8_sceneAt l K (ad 6) 2 P y hy (by omega)) rfl rfl (va_cwS 2 S.2.2.2.2 gX8_restore_X8_sceneAt rfl rfl rfl (by decide +kernel) ⟨Nat.le_of_ble_eq_true rfl, Nat.le_of_ble_eq_true rfl⟩) rfl hl.1 rfl (Nat.le_of_ble_eq_true rfl) dX8_restore_10 ⟨Nat.le_of_ble_eq_true rfl, Nat.le_of_ble_eq_true rfl⟩ (fun _ => Nat.le_of_ble_eq_true rfl) (fun _ => rfl) (fun v u H locs hp hG => ?_)
  subst hp
  refine g_top (w := .ref a3) (by rw [hP]; rfl) ?_
  refine lv_astore_n (lv' := [(2, .ref a3), (0, .ref (ad 0)), (1, .int (iI y))]) S.1 S.2.1 dX8_restore_13 rfl hl (by decide) rfl (fun ls hl => ?_)
  refine lv_aload_n S.1 S.2.1 dX8_restore_14 rfl (lv_at hl 0 rfl) ?_
  refine lv_ifnonnull (tgt := 29) S.1 S.2.1 dX8_restore_15 (by decide) ?_
  refine lv_aload_n S.1 S.2.1 dX8_restore_29 rfl (lv_at hl 1 rfl) ?_
  refine g_get S C hG iX80 0 rfl rfl 4 (by decide) (List.mem_of_getElem? (i := 4) rfl) rfl dX8_restore_30 ?_
  refine lv_aload_n S.1 S.2.1 dX8_restore_33 rfl (lv_at hl 1 rfl) ?_
  refine g_get S C hG iX80 0 rfl rfl 2 (by decide) (List.mem_of_getElem? (i := 5) rfl) rfl dX8_restore_34 ?_
  refine g_invVv (As := [.ref (ad 3)]) (rest := []) (gs' := (fun u : SR => [gRLC K ad, gScn K (ad 3) (ad 14) (ad 15) (ad 16) (ad 17) ou mi bo ln LF sn SF, gHisC K (ad 5) (ad 22) ((nx + 1) % 6) (min (sz + 1) 6), gQS K (ad 22) 6 (oP (oup o nx.toNat u)), gQS K (ad 6) 2 P, gScn K a3 la3 lb3 sa3 sb3 ou3 mi3 bo3 ln3 LF3 sn3 SF3, gSOs K (oup o nx.toNat u) (List.range 6), gFR K FR])) S C hG [2, 3, 1, 6] (c_X1_remember l K (ad 5) (ad 22) nx sz o (ad 3) (ad 14) (ad 15) (ad 16) (ad 17) ou mi bo ln LF sn SF N hnx hsz hS hN) rfl rfl 0 rfl rfl (cwV 1 S.2.2.2.2 gX8_restore_X1_remember rfl rfl rfl (by decide +kernel) ⟨Nat.le_of_ble_eq_true rfl, Nat.le_of_ble_eq_true rfl⟩) rfl hl.1 rfl (Nat.le_of_ble_eq_true rfl) dX8_restore_37 ⟨Nat.le_of_ble_eq_true rfl, Nat.le_of_ble_eq_true rfl⟩ (fun _ => Nat.le_of_ble_eq_true rfl) (fun _ => rfl) (fun u H locs hp hG => ?_)
  obtain ⟨u9_37, rfl⟩ : ∃ z, z = u := ⟨_, rfl⟩
  have hr_37 := hp
  have hr_37 : ScR N u9_37 := hr_37
  have hG : gW K A s.heap [gRLC K ad, gScn K (ad 3) (ad 14) (ad 15) (ad 16) (ad 17) ou mi bo ln LF sn SF, gHisC K (ad 5) (ad 22) ((nx + 1) % 6) (min (sz + 1) 6), gQS K (ad 22) 6 (oP (oup o nx.toNat u9_37)), gQS K (ad 6) 2 P, gScn K a3 la3 lb3 sa3 sb3 ou3 mi3 bo3 ln3 LF3 sn3 SF3, gSOs K (oup o nx.toNat u9_37) (List.range 6), gFR K FR] _ _ := hG
  refine lv_aload_n S.1 S.2.1 dX8_restore_40 rfl (lv_at hl 1 rfl) ?_
  refine g_get S C hG iX80 0 rfl rfl 2 (by decide) (List.mem_of_getElem? (i := 5) rfl) rfl dX8_restore_41 ?_
  refine lv_aload_n S.1 S.2.1 dX8_restore_44 rfl (lv_at hl 0 rfl) ?_
  refine g_invVv (As := [.ref a3]) (rest := []) (gs' := (fun u : Unit => [gRLC K ad, gScn K (ad 3) (ad 14) (ad 15) (ad 16) (ad 17) ou3 mi3 bo3 ln3 (cpyI LF3 LF 60) sn3 (cpyI SF3 SF 60), gHisC K (ad 5) (ad 22) ((nx + 1) % 6) (min (sz + 1) 6), gQS K (ad 22) 6 (oP (oup o nx.toNat u9_37)), gQS K (ad 6) 2 P, gScn K a3 la3 lb3 sa3 sb3 ou3 mi3 bo3 ln3 LF3 sn3 SF3, gSOs K (oup o nx.toNat u9_37) (List.range 6), gFR K FR])) S C hG [1, 5] (c_X5_become l K (ad 3) (ad 14) (ad 15) (ad 16) (ad 17) ou mi bo ln LF sn SF a3 la3 lb3 sa3 sb3 ou3 mi3 bo3 ln3 LF3 sn3 SF3 hm) rfl rfl 0 rfl rfl (cwV 1 S.2.2.2.2 gX8_restore_X5_become rfl rfl rfl (by decide +kernel) ⟨Nat.le_of_ble_eq_true rfl, Nat.le_of_ble_eq_true rfl⟩) rfl hl.1 rfl (Nat.le_of_ble_eq_true rfl) dX8_restore_45 ⟨Nat.le_of_ble_eq_true rfl, Nat.le_of_ble_eq_true rfl⟩ (fun _ => Nat.le_of_ble_eq_true rfl) (fun _ => rfl) (fun u H locs hp hG => ?_)
  refine lv_aload_n S.1 S.2.1 dX8_restore_48 rfl (lv_at hl 1 rfl) ?_
  refine g_get S C hG iX80 0 rfl rfl 2 (by decide) (List.mem_of_getElem? (i := 5) rfl) rfl dX8_restore_49 ?_
  refine g_get S C hG iX50 1 rfl rfl 1 (by decide) (List.mem_of_getElem? (i := 6) rfl) rfl dX8_restore_52 ?_
  refine g_get S C hG iX70 4 rfl rfl 1 (by decide) (List.mem_of_getElem? (i := 7) rfl) rfl dX8_restore_55 ?_
  have hG : gW K A s.heap [gRLC K ad, gScn K (ad 3) (ad 14) (ad 15) (ad 16) (ad 17) ou3 mi3 bo3 ln3 (cpyI LF3 LF 60) sn3 (cpyI SF3 SF 60), gHisC K (ad 5) (ad 22) ((nx + 1) % 6) (min (sz + 1) 6), gQS K (ad 22) 6 (oP (oup o nx.toNat u9_37)), gQS K (ad 6) 2 P, gScn K a3 la3 lb3 sa3 sb3 ou3 mi3 bo3 ln3 LF3 sn3 SF3, gSOs K (oup o nx.toNat u9_37) (List.range 6), gFR K FR] _ _ := hG
  exact g_iret S hr hlk hQ dX8_restore_58 (Nat.le_of_ble_eq_true rfl) (Nat.le_of_ble_eq_true rfl) ((u9_37) : SR) ⟨rfl, hr_37⟩ hG

set_option maxHeartbeats 1000000 in
set_option maxRecDepth 100000 in
theorem x1_restore (l : Launch) (K : KC) (ad : Nat → Nat) (y : Int) (hv : -2147483648 ≤ y ∧ y < 2147483648) (hy : ¬ (0 ≤ y ∧ y < 2)) (hst : l.stackTraces = false) : mX l yX8_restore wsX8_restore 7 103 K [.ref (ad 0), .int (iI y)] [gRLC K ad] "java/lang/IndexOutOfBoundsException" (fun (u : Unit) => True) (fun (u : Unit) => [gRLC K ad]) 1 6 := by
  refine mX_of cX8_restore 3 (by decide) rfl (Nat.le_of_ble_eq_true rfl) ?_
  intro p e s m below meth c A ls Q S C hG hl hex hlk hin hQ
  have S : CallFix p m c cX8_restore 3 s ([.ref (ad 0), .int (iI y)] : List Value).toArray wsX8_restore RX8 := S
  have iX80 : ∀ w ∈ wsX80, w ∈ wsX8_restore := fun _ h => List.mem_cons_of_mem _ (List.mem_append_left _ (List.mem_append_left _ (List.mem_append_left _ (List.mem_append_left _ (List.mem_append_left _ (List.mem_append_right _ (h)))))))
  have iX50 : ∀ w ∈ wsX50, w ∈ wsX8_restore := fun _ h => List.mem_cons_of_mem _ (List.mem_append_left _ (List.mem_append_left _ (List.mem_append_left _ (List.mem_append_left _ (List.mem_append_right _ (h))))))
  have iX70 : ∀ w ∈ wsX70, w ∈ wsX8_restore := fun _ h => List.mem_cons_of_mem _ (List.mem_append_left _ (List.mem_append_left _ (List.mem_append_left _ (List.mem_append_right _ (h)))))
  have iX10 : ∀ w ∈ wsX10, w ∈ wsX8_restore := fun _ h => List.mem_cons_of_mem _ (List.mem_append_left _ (List.mem_append_left _ (List.mem_append_right _ (h))))
  have hl : lv_has ls 3 [(0, .ref (ad 0)), (1, .int (iI y))] := hl
  have hG : gW K A s.heap [gRLC K ad] s.heap [] := hG
  refine lv_aload_n S.1 S.2.1 dX8_restore_0 rfl (lv_at hl 0 rfl) ?_
  refine lv_iload_n S.1 S.2.1 dX8_restore_1 rfl (lv_at hl 1 rfl) ?_
  refine g_xV (E := "java/lang/IndexOutOfBoundsException") (As := [.int (iI y)]) (rest := []) (gs' := (fun u : Unit => [gRLC K ad])) S C hG [0] (x_checkSlot l K ad y hv hy hst) rfl rfl 0 rfl rfl (cwV 1 S.2.2.2.2 gX8_restore_X8_checkSlot rfl rfl rfl (by decide +kernel) ⟨Nat.le_of_ble_eq_true rfl, Nat.le_of_ble_eq_true rfl⟩) rfl hl.1 rfl (Nat.le_of_ble_eq_true rfl) dX8_restore_2 ⟨Nat.le_of_ble_eq_true rfl, Nat.le_of_ble_eq_true rfl⟩ (fun _ => Nat.le_of_ble_eq_true rfl) (fun _ => rfl) (fun u q9 ce9 H locs hp hG hq9 hv9 hcl9 => ?_)
  have hG : gW K A s.heap [gRLC K ad] _ _ := hG
  exact g_xout hQ hex hlk hq9 hv9 hcl9 (Nat.le_of_ble_eq_true rfl) (Nat.le_of_ble_eq_true rfl) (() : Unit) trivial hG

set_option maxHeartbeats 1000000 in
set_option maxRecDepth 100000 in
theorem x2_restore (l : Launch) (K : KC) (ad : Nat → Nat) (y : Int) (P : Nat → Option Nat) (hy : 0 ≤ y ∧ y < 2) (hP : P y.toNat = none) (hst : l.stackTraces = false) : mX l yX8_restore wsX8_restore 6 82 K [.ref (ad 0), .int (iI y)] [gRLC K ad, gQS K (ad 6) 2 P] "java/lang/IllegalStateException" (fun (u : Unit) => True) (fun (u : Unit) => [gRLC K ad, gQS K (ad 6) 2 P]) 1 6 := by
  refine mX_of cX8_restore 3 (by decide) rfl (Nat.le_of_ble_eq_true rfl) ?_
  intro p e s m below meth c A ls Q S C hG hl hex hlk hin hQ
  have S : CallFix p m c cX8_restore 3 s ([.ref (ad 0), .int (iI y)] : List Value).toArray wsX8_restore RX8 := S
  have iX80 : ∀ w ∈ wsX80, w ∈ wsX8_restore := fun _ h => List.mem_cons_of_mem _ (List.mem_append_left _ (List.mem_append_left _ (List.mem_append_left _ (List.mem_append_left _ (List.mem_append_left _ (List.mem_append_right _ (h)))))))
  have iX50 : ∀ w ∈ wsX50, w ∈ wsX8_restore := fun _ h => List.mem_cons_of_mem _ (List.mem_append_left _ (List.mem_append_left _ (List.mem_append_left _ (List.mem_append_left _ (List.mem_append_right _ (h))))))
  have iX70 : ∀ w ∈ wsX70, w ∈ wsX8_restore := fun _ h => List.mem_cons_of_mem _ (List.mem_append_left _ (List.mem_append_left _ (List.mem_append_left _ (List.mem_append_right _ (h)))))
  have iX10 : ∀ w ∈ wsX10, w ∈ wsX8_restore := fun _ h => List.mem_cons_of_mem _ (List.mem_append_left _ (List.mem_append_left _ (List.mem_append_right _ (h))))
  have hl : lv_has ls 3 [(0, .ref (ad 0)), (1, .int (iI y))] := hl
  have hG : gW K A s.heap [gRLC K ad, gQS K (ad 6) 2 P] s.heap [] := hG
  refine lv_aload_n S.1 S.2.1 dX8_restore_0 rfl (lv_at hl 0 rfl) ?_
  refine lv_iload_n S.1 S.2.1 dX8_restore_1 rfl (lv_at hl 1 rfl) ?_
  refine g_invVv (As := [.int (iI y)]) (rest := []) (gs' := (fun u : Unit => [gRLC K ad, gQS K (ad 6) 2 P])) S C hG [0] (c_X8_checkSlot l K ad y (by omega) hy) rfl rfl 0 rfl rfl (cwV 1 S.2.2.2.2 gX8_restore_X8_checkSlot rfl rfl rfl (by decide +kernel) ⟨Nat.le_of_ble_eq_true rfl, Nat.le_of_ble_eq_true rfl⟩) rfl hl.1 rfl (Nat.le_of_ble_eq_true rfl) dX8_restore_2 ⟨Nat.le_of_ble_eq_true rfl, Nat.le_of_ble_eq_true rfl⟩ (fun _ => Nat.le_of_ble_eq_true rfl) (fun _ => rfl) (fun u H locs hp hG => ?_)
  refine lv_aload_n S.1 S.2.1 dX8_restore_5 rfl (lv_at hl 0 rfl) ?_
  refine g_get S C hG iX80 0 rfl rfl 5 (by decide) (List.mem_of_getElem? (i := 3) rfl) rfl dX8_restore_6 ?_
  refine lv_iload_n S.1 S.2.1 dX8_restore_9 rfl (lv_at hl 1 rfl) ?_
  refine g_invS (As := [.ref (ad 6), .int (iI y)]) (rest := []) (gs' := (fun u : Unit => [gRLC K ad, gQS K (ad 6) 2 P])) S C hG [1] (c_X8_sceneAt l K (ad 6) 2 P y hy (by omega)) rfl rfl (va_cwS 2 S.2.2.2.2 gX8_restore_X8_sceneAt rfl rfl rfl (by decide +kernel) ⟨Nat.le_of_ble_eq_true rfl, Nat.le_of_ble_eq_true rfl⟩) rfl hl.1 rfl (Nat.le_of_ble_eq_true rfl) dX8_restore_10 ⟨Nat.le_of_ble_eq_true rfl, Nat.le_of_ble_eq_true rfl⟩ (fun _ => Nat.le_of_ble_eq_true rfl) (fun _ => rfl) (fun v u H locs hp hG => ?_)
  subst hp
  refine g_top (w := .null) (by rw [hP]; rfl) ?_
  refine lv_astore_nN (lv' := [(2, .null), (0, .ref (ad 0)), (1, .int (iI y))]) S.1 S.2.1 dX8_restore_13 rfl hl (by decide) rfl (fun ls hl => ?_)
  refine lv_aload_nN S.1 S.2.1 dX8_restore_14 rfl (lv_at hl 0 rfl) ?_
  refine lv_ifnonnullN S.1 S.2.1 dX8_restore_15 ?_
  have hG : gW K A s.heap [gRLC K ad, gQS K (ad 6) 2 P] _ _ := hG
  exact g_thrW S C hl.1 hst hQ hex hlk th_ex_93 th_ft_93 (List.mem_of_getElem? (i := 1) rfl) (List.mem_of_getElem? (i := 2) rfl) (List.mem_of_getElem? (l := strW) (i := 26) rfl) (fun w hw => List.mem_cons_of_mem _ (List.mem_append_left _ (List.mem_append_right _ (hw)))) th_ng_93 th_gd_93 dX8_restore_18 dX8_restore_21 dX8_restore_22 dX8_restore_25 dX8_restore_28 ⟨Nat.le_of_ble_eq_true rfl, Nat.le_of_ble_eq_true rfl, Nat.le_of_ble_eq_true rfl, Nat.le_of_ble_eq_true rfl⟩ (Nat.le_of_ble_eq_true rfl) (Nat.le_of_ble_eq_true rfl) (() : Unit) trivial hG

set_option maxHeartbeats 1000000 in
set_option maxRecDepth 100000 in
theorem c_load_no (l : Launch) (K : KC) (ad : Nat → Nat) (ou : Int) (mi : Int) (bo : Int) (ln : Int) (LF : Int → Int) (sn : Int) (SF : Int → Int) (N : Int → Int) (nx : Int) (sz : Int) (o : Nat → Option SR) (n : Int) (F : Int → Int) (qp : Int) (qs : Int) (qk : Int) (qn : Int) (qo : Int) (qb : Int) (qe : Int) (qf : Int) (ou_t : Int) (mi_t : Int) (bo_t : Int) (ln_t : Int) (LF_t : Int → Int) (sn_t : Int) (SF_t : Int → Int) (hS : ScOk N ou mi bo ln LF sn SF) (hN : NOk0 N) (hnx : 0 ≤ nx ∧ nx < 6) (hsz : 0 ≤ sz ∧ sz ≤ 6) (h0 : 0 ≤ n ∧ n ≤ 400) (hx : ¬ okE (prsX F n)) : mG l yX8_load wsX8_load 9 193 K [.ref (ad 0)] [gRLC K ad, gBuf K (ad 1) (ad 12) n F, gScn K (ad 3) (ad 14) (ad 15) (ad 16) (ad 17) ou mi bo ln LF sn SF, gScn K (ad 4) (ad 18) (ad 19) (ad 20) (ad 21) ou_t mi_t bo_t ln_t LF_t sn_t SF_t, gPrsC K (ad 11) (ad 1) (ad 4) qp qs qk qn qo qb qe qf, gHisC K (ad 5) (ad 22) nx sz, gQS K (ad 22) 6 (oP o), gSOs K o (List.range 6)] (fun (v : Value) (u : Int × Int × Int × Int × (Int → Int) × Int × (Int → Int) × Int × Int × Int × Int × Int × Int × Int × Int) => (v = .int (iI (-4))) ∧ (ErI (prsX F n) u.2.2.2.2.2.2.2.2.2.2.2.2.2.1 u.2.2.2.2.2.2.2.2.2.2.2.2.2.2)) (fun (u : Int × Int × Int × Int × (Int → Int) × Int × (Int → Int) × Int × Int × Int × Int × Int × Int × Int × Int) => [gRLC K ad, gBuf K (ad 1) (ad 12) 0 F, gScn K (ad 3) (ad 14) (ad 15) (ad 16) (ad 17) ou mi bo ln LF sn SF, gScn K (ad 4) (ad 18) (ad 19) (ad 20) (ad 21) u.1 u.2.1 u.2.2.1 u.2.2.2.1 u.2.2.2.2.1 u.2.2.2.2.2.1 u.2.2.2.2.2.2.1, gPrsC K (ad 11) (ad 1) (ad 4) u.2.2.2.2.2.2.2.1 u.2.2.2.2.2.2.2.2.1 u.2.2.2.2.2.2.2.2.2.1 u.2.2.2.2.2.2.2.2.2.2.1 u.2.2.2.2.2.2.2.2.2.2.2.1 u.2.2.2.2.2.2.2.2.2.2.2.2.1 u.2.2.2.2.2.2.2.2.2.2.2.2.2.1 u.2.2.2.2.2.2.2.2.2.2.2.2.2.2, gHisC K (ad 5) (ad 22) nx sz, gQS K (ad 22) 6 (oP o), gSOs K o (List.range 6)]) 0 0 := by
  refine mG_of cX8_load 2 (by decide) rfl (Nat.le_of_ble_eq_true rfl) ?_
  intro p e s m below meth c A ls Q S C hG hl hr hlk hin hQ
  have S : CallFix p m c cX8_load 2 s ([.ref (ad 0)] : List Value).toArray wsX8_load RX8 := S
  have iX80 : ∀ w ∈ wsX80, w ∈ wsX8_load := fun _ h => List.mem_cons_of_mem _ (List.mem_append_left _ (List.mem_append_left _ (List.mem_append_left _ (List.mem_append_left _ (List.mem_append_left _ (List.mem_append_right _ (h)))))))
  have iX00 : ∀ w ∈ wsX00, w ∈ wsX8_load := fun _ h => List.mem_cons_of_mem _ (List.mem_append_left _ (List.mem_append_left _ (List.mem_append_left _ (List.mem_append_left _ (List.mem_append_right _ (h))))))
  have iX50 : ∀ w ∈ wsX50, w ∈ wsX8_load := fun _ h => List.mem_cons_of_mem _ (List.mem_append_left _ (List.mem_append_left _ (List.mem_append_left _ (List.mem_append_right _ (h)))))
  have iX70 : ∀ w ∈ wsX70, w ∈ wsX8_load := fun _ h => List.mem_cons_of_mem _ (List.mem_append_left _ (List.mem_append_left _ (List.mem_append_right _ (h))))
  have iX20 : ∀ w ∈ wsX20, w ∈ wsX8_load := fun _ h => List.mem_cons_of_mem _ (List.mem_append_left _ (List.mem_append_right _ (h)))
  have iX10 : ∀ w ∈ wsX10, w ∈ wsX8_load := fun _ h => List.mem_cons_of_mem _ (List.mem_append_right _ (h))
  have hl : lv_has ls 2 [(0, .ref (ad 0))] := hl
  have hG : gW K A s.heap [gRLC K ad, gBuf K (ad 1) (ad 12) n F, gScn K (ad 3) (ad 14) (ad 15) (ad 16) (ad 17) ou mi bo ln LF sn SF, gScn K (ad 4) (ad 18) (ad 19) (ad 20) (ad 21) ou_t mi_t bo_t ln_t LF_t sn_t SF_t, gPrsC K (ad 11) (ad 1) (ad 4) qp qs qk qn qo qb qe qf, gHisC K (ad 5) (ad 22) nx sz, gQS K (ad 22) 6 (oP o), gSOs K o (List.range 6)] s.heap [] := hG
  obtain ⟨e0, e1, e2, e3, e4, e5, e6⟩ := id hS
  have n0 := hN.1
  have n3 := hN.2.2.2.1
  refine lv_aload_n S.1 S.2.1 dX8_load_0 rfl (lv_at hl 0 rfl) ?_
  refine g_get S C hG iX80 0 rfl rfl 10 (by decide) (List.mem_of_getElem? (i := 1) rfl) rfl dX8_load_1 ?_
  refine g_invV (As := []) (rest := []) (gs' := (fun u : Int × Int × Int × Int × Int × Int × Int × Int × Int × Int × Int × Int × (Int → Int) × Int × (Int → Int) => [gRLC K ad, gBuf K (ad 1) (ad 12) n F, gScn K (ad 3) (ad 14) (ad 15) (ad 16) (ad 17) ou mi bo ln LF sn SF, gScn K (ad 4) (ad 18) (ad 19) (ad 20) (ad 21) u.2.2.2.2.2.2.2.2.1 u.2.2.2.2.2.2.2.2.2.1 u.2.2.2.2.2.2.2.2.2.2.1 u.2.2.2.2.2.2.2.2.2.2.2.1 u.2.2.2.2.2.2.2.2.2.2.2.2.1 u.2.2.2.2.2.2.2.2.2.2.2.2.2.1 u.2.2.2.2.2.2.2.2.2.2.2.2.2.2, gPrsC K (ad 11) (ad 1) (ad 4) u.1 u.2.1 u.2.2.1 u.2.2.2.1 u.2.2.2.2.1 u.2.2.2.2.2.1 u.2.2.2.2.2.2.1 u.2.2.2.2.2.2.2.1, gHisC K (ad 5) (ad 22) nx sz, gQS K (ad 22) 6 (oP o), gSOs K o (List.range 6)])) S C hG [4, 1, 3] (c_X2_parse l K (ad 11) (ad 1) (ad 4) qp qs qk qn qo qb qe qf (ad 12) n F (ad 18) (ad 19) (ad 20) (ad 21) ou_t mi_t bo_t ln_t LF_t sn_t SF_t h0) rfl rfl 0 rfl rfl (cwV 0 S.2.2.2.2 gX8_load_X2_parse rfl rfl rfl (by decide +kernel) ⟨Nat.le_of_ble_eq_true rfl, Nat.le_of_ble_eq_true rfl⟩) rfl hl.1 rfl (Nat.le_of_ble_eq_true rfl) dX8_load_4 ⟨Nat.le_of_ble_eq_true rfl, Nat.le_of_ble_eq_true rfl⟩ (fun _ => Nat.le_of_ble_eq_true rfl) (fun _ => rfl) (fun v u H locs hp hG => ?_)
  obtain ⟨qp2_4, qs2_4, qk2_4, qn2_4, qo2_4, qb2_4, qe2_4, qf2_4, ou2_4, mi2_4, bo2_4, ln2_4, LF2_4, sn2_4, SF2_4⟩ := u
  obtain ⟨rfl, he_4, hres_4⟩ := hp
  have he_4 : ErI (prsX F n) qe2_4 qf2_4 := he_4
  have hres_4 : PrsR (prsX F n) ou2_4 mi2_4 bo2_4 ln2_4 LF2_4 sn2_4 SF2_4 := hres_4
  have hG : gW K A s.heap [gRLC K ad, gBuf K (ad 1) (ad 12) n F, gScn K (ad 3) (ad 14) (ad 15) (ad 16) (ad 17) ou mi bo ln LF sn SF, gScn K (ad 4) (ad 18) (ad 19) (ad 20) (ad 21) ou2_4 mi2_4 bo2_4 ln2_4 LF2_4 sn2_4 SF2_4, gPrsC K (ad 11) (ad 1) (ad 4) qp2_4 qs2_4 qk2_4 qn2_4 qo2_4 qb2_4 qe2_4 qf2_4, gHisC K (ad 5) (ad 22) nx sz, gQS K (ad 22) 6 (oP o), gSOs K o (List.range 6)] _ _ := hG
  refine lv_istore_n (lv' := [(1, .int (iI (bI (okE (prsX F n))))), (0, .ref (ad 0))]) S.1 S.2.1 dX8_load_7 rfl hl (by decide) rfl (fun ls hl => ?_)
  refine lv_aload_n S.1 S.2.1 dX8_load_8 rfl (lv_at hl 1 rfl) ?_
  refine g_get S C hG iX80 0 rfl rfl 0 (by decide) (List.mem_of_getElem? (i := 2) rfl) rfl dX8_load_9 ?_
  refine g_iconst S dX8_load_12 ?_
  refine g_put (gs' := [gRLC K ad, gBuf K (ad 1) (ad 12) 0 F, gScn K (ad 3) (ad 14) (ad 15) (ad 16) (ad 17) ou mi bo ln LF sn SF, gScn K (ad 4) (ad 18) (ad 19) (ad 20) (ad 21) ou2_4 mi2_4 bo2_4 ln2_4 LF2_4 sn2_4 SF2_4, gPrsC K (ad 11) (ad 1) (ad 4) qp2_4 qs2_4 qk2_4 qn2_4 qo2_4 qb2_4 qe2_4 qf2_4, gHisC K (ad 5) (ad 22) nx sz, gQS K (ad 22) 6 (oP o), gSOs K o (List.range 6)]) S C hG iX00 tyX0 tyX0_ok nmX0 1 rfl rfl 1 (by decide) (List.mem_of_getElem? (i := 3) rfl) rfl rfl rfl (Nat.le_of_ble_eq_true rfl) rfl dX8_load_13 (fun H locs hG => ?_)
  refine lv_iload_n S.1 S.2.1 dX8_load_16 rfl (lv_at hl 0 rfl) ?_
  refine g_ifne_b (B := (okE (prsX F n))) (tgt := 23) S dX8_load_17 (by decide) (fun q17 => ?_) (fun q17 => ?_)
  · skip
    exact absurd q17 hx
  · skip
    refine g_bipush S dX8_load_20 (by decide) ?_
    have hG : gW K A s.heap [gRLC K ad, gBuf K (ad 1) (ad 12) 0 F, gScn K (ad 3) (ad 14) (ad 15) (ad 16) (ad 17) ou mi bo ln LF sn SF, gScn K (ad 4) (ad 18) (ad 19) (ad 20) (ad 21) ou2_4 mi2_4 bo2_4 ln2_4 LF2_4 sn2_4 SF2_4, gPrsC K (ad 11) (ad 1) (ad 4) qp2_4 qs2_4 qk2_4 qn2_4 qo2_4 qb2_4 qe2_4 qf2_4, gHisC K (ad 5) (ad 22) nx sz, gQS K (ad 22) 6 (oP o), gSOs K o (List.range 6)] _ _ := hG
    exact g_iret S hr hlk hQ dX8_load_22 (Nat.le_of_ble_eq_true rfl) (Nat.le_of_ble_eq_true rfl) ((ou2_4, mi2_4, bo2_4, ln2_4, LF2_4, sn2_4, SF2_4, qp2_4, qs2_4, qk2_4, qn2_4, qo2_4, qb2_4, qe2_4, qf2_4) : Int × Int × Int × Int × (Int → Int) × Int × (Int → Int) × Int × Int × Int × Int × Int × Int × Int × Int) ⟨rfl, he_4⟩ hG

set_option maxHeartbeats 1000000 in
set_option maxRecDepth 100000 in
theorem c_load_yes (l : Launch) (K : KC) (ad : Nat → Nat) (ou : Int) (mi : Int) (bo : Int) (ln : Int) (LF : Int → Int) (sn : Int) (SF : Int → Int) (N : Int → Int) (nx : Int) (sz : Int) (o : Nat → Option SR) (n : Int) (F : Int → Int) (qp : Int) (qs : Int) (qk : Int) (qn : Int) (qo : Int) (qb : Int) (qe : Int) (qf : Int) (ou_t : Int) (mi_t : Int) (bo_t : Int) (ln_t : Int) (LF_t : Int → Int) (sn_t : Int) (SF_t : Int → Int) (M : Int → Int) (hS : ScOk N ou mi bo ln LF sn SF) (hN : NOk0 N) (hnx : 0 ≤ nx ∧ nx < 6) (hsz : 0 ≤ sz ∧ sz ≤ 6) (h0 : 0 ≤ n ∧ n ≤ 400) (hx : prsX F n = .inr M) (hM : NOk0 M) : mG l yX8_load wsX8_load 9 193 K [.ref (ad 0)] [gRLC K ad, gBuf K (ad 1) (ad 12) n F, gScn K (ad 3) (ad 14) (ad 15) (ad 16) (ad 17) ou mi bo ln LF sn SF, gScn K (ad 4) (ad 18) (ad 19) (ad 20) (ad 21) ou_t mi_t bo_t ln_t LF_t sn_t SF_t, gPrsC K (ad 11) (ad 1) (ad 4) qp qs qk qn qo qb qe qf, gHisC K (ad 5) (ad 22) nx sz, gQS K (ad 22) 6 (oP o), gSOs K o (List.range 6)] (fun (v : Value) (u : Int × Int × Int × Int × (Int → Int) × Int × (Int → Int) × Int × Int × Int × Int × (Int → Int) × Int × (Int → Int) × Int × Int × Int × Int × Int × Int × Int × Int × SR) => (v = .int (iI (M 0))) ∧ (u.2.2.2.2.2.2.2.2.2.2.2.2.2.2.2.2.2.2.2.2.1 = 0 ∧ u.2.2.2.2.2.2.2.2.2.2.2.2.2.2.2.2.2.2.2.2.2.1 = -1) ∧ (ScOk M u.1 u.2.1 u.2.2.1 u.2.2.2.1 u.2.2.2.2.1 u.2.2.2.2.2.1 u.2.2.2.2.2.2.1) ∧ (ScR N u.2.2.2.2.2.2.2.2.2.2.2.2.2.2.2.2.2.2.2.2.2.2)) (fun (u : Int × Int × Int × Int × (Int → Int) × Int × (Int → Int) × Int × Int × Int × Int × (Int → Int) × Int × (Int → Int) × Int × Int × Int × Int × Int × Int × Int × Int × SR) => [gRLC K ad, gBuf K (ad 1) (ad 12) 0 F, gScn K (ad 3) (ad 14) (ad 15) (ad 16) (ad 17) u.1 u.2.1 u.2.2.1 u.2.2.2.1 u.2.2.2.2.1 u.2.2.2.2.2.1 u.2.2.2.2.2.2.1, gScn K (ad 4) (ad 18) (ad 19) (ad 20) (ad 21) u.2.2.2.2.2.2.2.1 u.2.2.2.2.2.2.2.2.1 u.2.2.2.2.2.2.2.2.2.1 u.2.2.2.2.2.2.2.2.2.2.1 u.2.2.2.2.2.2.2.2.2.2.2.1 u.2.2.2.2.2.2.2.2.2.2.2.2.1 u.2.2.2.2.2.2.2.2.2.2.2.2.2.1, gPrsC K (ad 11) (ad 1) (ad 4) u.2.2.2.2.2.2.2.2.2.2.2.2.2.2.1 u.2.2.2.2.2.2.2.2.2.2.2.2.2.2.2.1 u.2.2.2.2.2.2.2.2.2.2.2.2.2.2.2.2.1 u.2.2.2.2.2.2.2.2.2.2.2.2.2.2.2.2.2.1 u.2.2.2.2.2.2.2.2.2.2.2.2.2.2.2.2.2.2.1 u.2.2.2.2.2.2.2.2.2.2.2.2.2.2.2.2.2.2.2.1 u.2.2.2.2.2.2.2.2.2.2.2.2.2.2.2.2.2.2.2.2.1 u.2.2.2.2.2.2.2.2.2.2.2.2.2.2.2.2.2.2.2.2.2.1, gHisC K (ad 5) (ad 22) ((nx + 1) % 6) (min (sz + 1) 6), gQS K (ad 22) 6 (oP (oup o nx.toNat u.2.2.2.2.2.2.2.2.2.2.2.2.2.2.2.2.2.2.2.2.2.2)), gSOs K (oup o nx.toNat u.2.2.2.2.2.2.2.2.2.2.2.2.2.2.2.2.2.2.2.2.2.2) (List.range 6)]) 5 129 := by
  refine mG_of cX8_load 2 (by decide) rfl (Nat.le_of_ble_eq_true rfl) ?_
  intro p e s m below meth c A ls Q S C hG hl hr hlk hin hQ
  have S : CallFix p m c cX8_load 2 s ([.ref (ad 0)] : List Value).toArray wsX8_load RX8 := S
  have iX80 : ∀ w ∈ wsX80, w ∈ wsX8_load := fun _ h => List.mem_cons_of_mem _ (List.mem_append_left _ (List.mem_append_left _ (List.mem_append_left _ (List.mem_append_left _ (List.mem_append_left _ (List.mem_append_right _ (h)))))))
  have iX00 : ∀ w ∈ wsX00, w ∈ wsX8_load := fun _ h => List.mem_cons_of_mem _ (List.mem_append_left _ (List.mem_append_left _ (List.mem_append_left _ (List.mem_append_left _ (List.mem_append_right _ (h))))))
  have iX50 : ∀ w ∈ wsX50, w ∈ wsX8_load := fun _ h => List.mem_cons_of_mem _ (List.mem_append_left _ (List.mem_append_left _ (List.mem_append_left _ (List.mem_append_right _ (h)))))
  have iX70 : ∀ w ∈ wsX70, w ∈ wsX8_load := fun _ h => List.mem_cons_of_mem _ (List.mem_append_left _ (List.mem_append_left _ (List.mem_append_right _ (h))))
  have iX20 : ∀ w ∈ wsX20, w ∈ wsX8_load := fun _ h => List.mem_cons_of_mem _ (List.mem_append_left _ (List.mem_append_right _ (h)))
  have iX10 : ∀ w ∈ wsX10, w ∈ wsX8_load := fun _ h => List.mem_cons_of_mem _ (List.mem_append_right _ (h))
  have hl : lv_has ls 2 [(0, .ref (ad 0))] := hl
  have hG : gW K A s.heap [gRLC K ad, gBuf K (ad 1) (ad 12) n F, gScn K (ad 3) (ad 14) (ad 15) (ad 16) (ad 17) ou mi bo ln LF sn SF, gScn K (ad 4) (ad 18) (ad 19) (ad 20) (ad 21) ou_t mi_t bo_t ln_t LF_t sn_t SF_t, gPrsC K (ad 11) (ad 1) (ad 4) qp qs qk qn qo qb qe qf, gHisC K (ad 5) (ad 22) nx sz, gQS K (ad 22) 6 (oP o), gSOs K o (List.range 6)] s.heap [] := hG
  obtain ⟨e0, e1, e2, e3, e4, e5, e6⟩ := id hS
  have n0 := hN.1
  have n3 := hN.2.2.2.1
  refine lv_aload_n S.1 S.2.1 dX8_load_0 rfl (lv_at hl 0 rfl) ?_
  refine g_get S C hG iX80 0 rfl rfl 10 (by decide) (List.mem_of_getElem? (i := 1) rfl) rfl dX8_load_1 ?_
  refine g_invV (As := []) (rest := []) (gs' := (fun u : Int × Int × Int × Int × Int × Int × Int × Int × Int × Int × Int × Int × (Int → Int) × Int × (Int → Int) => [gRLC K ad, gBuf K (ad 1) (ad 12) n F, gScn K (ad 3) (ad 14) (ad 15) (ad 16) (ad 17) ou mi bo ln LF sn SF, gScn K (ad 4) (ad 18) (ad 19) (ad 20) (ad 21) u.2.2.2.2.2.2.2.2.1 u.2.2.2.2.2.2.2.2.2.1 u.2.2.2.2.2.2.2.2.2.2.1 u.2.2.2.2.2.2.2.2.2.2.2.1 u.2.2.2.2.2.2.2.2.2.2.2.2.1 u.2.2.2.2.2.2.2.2.2.2.2.2.2.1 u.2.2.2.2.2.2.2.2.2.2.2.2.2.2, gPrsC K (ad 11) (ad 1) (ad 4) u.1 u.2.1 u.2.2.1 u.2.2.2.1 u.2.2.2.2.1 u.2.2.2.2.2.1 u.2.2.2.2.2.2.1 u.2.2.2.2.2.2.2.1, gHisC K (ad 5) (ad 22) nx sz, gQS K (ad 22) 6 (oP o), gSOs K o (List.range 6)])) S C hG [4, 1, 3] (c_X2_parse l K (ad 11) (ad 1) (ad 4) qp qs qk qn qo qb qe qf (ad 12) n F (ad 18) (ad 19) (ad 20) (ad 21) ou_t mi_t bo_t ln_t LF_t sn_t SF_t h0) rfl rfl 0 rfl rfl (cwV 0 S.2.2.2.2 gX8_load_X2_parse rfl rfl rfl (by decide +kernel) ⟨Nat.le_of_ble_eq_true rfl, Nat.le_of_ble_eq_true rfl⟩) rfl hl.1 rfl (Nat.le_of_ble_eq_true rfl) dX8_load_4 ⟨Nat.le_of_ble_eq_true rfl, Nat.le_of_ble_eq_true rfl⟩ (fun _ => Nat.le_of_ble_eq_true rfl) (fun _ => rfl) (fun v u H locs hp hG => ?_)
  obtain ⟨qp2_4, qs2_4, qk2_4, qn2_4, qo2_4, qb2_4, qe2_4, qf2_4, ou2_4, mi2_4, bo2_4, ln2_4, LF2_4, sn2_4, SF2_4⟩ := u
  obtain ⟨rfl, he_4, hres_4⟩ := hp
  have he_4 : ErI (prsX F n) qe2_4 qf2_4 := he_4
  have hres_4 : PrsR (prsX F n) ou2_4 mi2_4 bo2_4 ln2_4 LF2_4 sn2_4 SF2_4 := hres_4
  have hG : gW K A s.heap [gRLC K ad, gBuf K (ad 1) (ad 12) n F, gScn K (ad 3) (ad 14) (ad 15) (ad 16) (ad 17) ou mi bo ln LF sn SF, gScn K (ad 4) (ad 18) (ad 19) (ad 20) (ad 21) ou2_4 mi2_4 bo2_4 ln2_4 LF2_4 sn2_4 SF2_4, gPrsC K (ad 11) (ad 1) (ad 4) qp2_4 qs2_4 qk2_4 qn2_4 qo2_4 qb2_4 qe2_4 qf2_4, gHisC K (ad 5) (ad 22) nx sz, gQS K (ad 22) 6 (oP o), gSOs K o (List.range 6)] _ _ := hG
  have ok9 : okE (prsX F n) := by rw [hx] <;> rfl
  obtain ⟨rfl, rfl⟩ := erI_ok ok9 he_4
  have sm := (hres_4 M hx).1
  have m2 := hM.2.2.1
  have z2 : M 2 = mi2_4 := sm.2.2.1
  have z0 : M 0 = ln2_4 := sm.1
  refine lv_istore_n (lv' := [(1, .int (iI (bI (okE (prsX F n))))), (0, .ref (ad 0))]) S.1 S.2.1 dX8_load_7 rfl hl (by decide) rfl (fun ls hl => ?_)
  refine lv_aload_n S.1 S.2.1 dX8_load_8 rfl (lv_at hl 1 rfl) ?_
  refine g_get S C hG iX80 0 rfl rfl 0 (by decide) (List.mem_of_getElem? (i := 2) rfl) rfl dX8_load_9 ?_
  refine g_iconst S dX8_load_12 ?_
  refine g_put (gs' := [gRLC K ad, gBuf K (ad 1) (ad 12) 0 F, gScn K (ad 3) (ad 14) (ad 15) (ad 16) (ad 17) ou mi bo ln LF sn SF, gScn K (ad 4) (ad 18) (ad 19) (ad 20) (ad 21) ou2_4 mi2_4 bo2_4 ln2_4 LF2_4 sn2_4 SF2_4, gPrsC K (ad 11) (ad 1) (ad 4) qp2_4 qs2_4 qk2_4 qn2_4 qo2_4 qb2_4 0 (-1), gHisC K (ad 5) (ad 22) nx sz, gQS K (ad 22) 6 (oP o), gSOs K o (List.range 6)]) S C hG iX00 tyX0 tyX0_ok nmX0 1 rfl rfl 1 (by decide) (List.mem_of_getElem? (i := 3) rfl) rfl rfl rfl (Nat.le_of_ble_eq_true rfl) rfl dX8_load_13 (fun H locs hG => ?_)
  refine lv_iload_n S.1 S.2.1 dX8_load_16 rfl (lv_at hl 0 rfl) ?_
  refine g_ifne_b (B := (okE (prsX F n))) (tgt := 23) S dX8_load_17 (by decide) (fun q17 => ?_) (fun q17 => ?_)
  · skip
    refine lv_aload_n S.1 S.2.1 dX8_load_23 rfl (lv_at hl 1 rfl) ?_
    refine g_get S C hG iX80 0 rfl rfl 4 (by decide) (List.mem_of_getElem? (i := 4) rfl) rfl dX8_load_24 ?_
    refine lv_aload_n S.1 S.2.1 dX8_load_27 rfl (lv_at hl 1 rfl) ?_
    refine g_get S C hG iX80 0 rfl rfl 2 (by decide) (List.mem_of_getElem? (i := 5) rfl) rfl dX8_load_28 ?_
    refine g_invVv (As := [.ref (ad 3)]) (rest := []) (gs' := (fun u : SR => [gRLC K ad, gBuf K (ad 1) (ad 12) 0 F, gScn K (ad 3) (ad 14) (ad 15) (ad 16) (ad 17) ou mi bo ln LF sn SF, gScn K (ad 4) (ad 18) (ad 19) (ad 20) (ad 21) ou2_4 mi2_4 bo2_4 ln2_4 LF2_4 sn2_4 SF2_4, gPrsC K (ad 11) (ad 1) (ad 4) qp2_4 qs2_4 qk2_4 qn2_4 qo2_4 qb2_4 0 (-1), gHisC K (ad 5) (ad 22) ((nx + 1) % 6) (min (sz + 1) 6), gQS K (ad 22) 6 (oP (oup o nx.toNat u)), gSOs K (oup o nx.toNat u) (List.range 6)])) S C hG [5, 6, 2, 7] (c_X1_remember l K (ad 5) (ad 22) nx sz o (ad 3) (ad 14) (ad 15) (ad 16) (ad 17) ou mi bo ln LF sn SF N hnx hsz hS hN) rfl rfl 0 rfl rfl (cwV 1 S.2.2.2.2 gX8_load_X1_remember rfl rfl rfl (by decide +kernel) ⟨Nat.le_of_ble_eq_true rfl, Nat.le_of_ble_eq_true rfl⟩) rfl hl.1 rfl (Nat.le_of_ble_eq_true rfl) dX8_load_31 ⟨Nat.le_of_ble_eq_true rfl, Nat.le_of_ble_eq_true rfl⟩ (fun _ => Nat.le_of_ble_eq_true rfl) (fun _ => rfl) (fun u H locs hp hG => ?_)
    obtain ⟨u9_31, rfl⟩ : ∃ z, z = u := ⟨_, rfl⟩
    have hr_31 := hp
    have hr_31 : ScR N u9_31 := hr_31
    have hG : gW K A s.heap [gRLC K ad, gBuf K (ad 1) (ad 12) 0 F, gScn K (ad 3) (ad 14) (ad 15) (ad 16) (ad 17) ou mi bo ln LF sn SF, gScn K (ad 4) (ad 18) (ad 19) (ad 20) (ad 21) ou2_4 mi2_4 bo2_4 ln2_4 LF2_4 sn2_4 SF2_4, gPrsC K (ad 11) (ad 1) (ad 4) qp2_4 qs2_4 qk2_4 qn2_4 qo2_4 qb2_4 0 (-1), gHisC K (ad 5) (ad 22) ((nx + 1) % 6) (min (sz + 1) 6), gQS K (ad 22) 6 (oP (oup o nx.toNat u9_31)), gSOs K (oup o nx.toNat u9_31) (List.range 6)] _ _ := hG
    refine lv_aload_n S.1 S.2.1 dX8_load_34 rfl (lv_at hl 1 rfl) ?_
    refine g_get S C hG iX80 0 rfl rfl 2 (by decide) (List.mem_of_getElem? (i := 5) rfl) rfl dX8_load_35 ?_
    refine lv_aload_n S.1 S.2.1 dX8_load_38 rfl (lv_at hl 1 rfl) ?_
    refine g_get S C hG iX80 0 rfl rfl 3 (by decide) (List.mem_of_getElem? (i := 6) rfl) rfl dX8_load_39 ?_
    refine g_invVv (As := [.ref (ad 4)]) (rest := []) (gs' := (fun u : Unit => [gRLC K ad, gBuf K (ad 1) (ad 12) 0 F, gScn K (ad 3) (ad 14) (ad 15) (ad 16) (ad 17) ou2_4 mi2_4 bo2_4 ln2_4 (cpyI LF2_4 LF 60) sn2_4 (cpyI SF2_4 SF 60), gScn K (ad 4) (ad 18) (ad 19) (ad 20) (ad 21) ou2_4 mi2_4 bo2_4 ln2_4 LF2_4 sn2_4 SF2_4, gPrsC K (ad 11) (ad 1) (ad 4) qp2_4 qs2_4 qk2_4 qn2_4 qo2_4 qb2_4 0 (-1), gHisC K (ad 5) (ad 22) ((nx + 1) % 6) (min (sz + 1) 6), gQS K (ad 22) 6 (oP (oup o nx.toNat u9_31)), gSOs K (oup o nx.toNat u9_31) (List.range 6)])) S C hG [2, 3] (c_X5_become l K (ad 3) (ad 14) (ad 15) (ad 16) (ad 17) ou mi bo ln LF sn SF (ad 4) (ad 18) (ad 19) (ad 20) (ad 21) ou2_4 mi2_4 bo2_4 ln2_4 LF2_4 sn2_4 SF2_4 (by omega)) rfl rfl 0 rfl rfl (cwV 1 S.2.2.2.2 gX8_load_X5_become rfl rfl rfl (by decide +kernel) ⟨Nat.le_of_ble_eq_true rfl, Nat.le_of_ble_eq_true rfl⟩) rfl hl.1 rfl (Nat.le_of_ble_eq_true rfl) dX8_load_42 ⟨Nat.le_of_ble_eq_true rfl, Nat.le_of_ble_eq_true rfl⟩ (fun _ => Nat.le_of_ble_eq_true rfl) (fun _ => rfl) (fun u H locs hp hG => ?_)
    refine lv_aload_n S.1 S.2.1 dX8_load_45 rfl (lv_at hl 1 rfl) ?_
    refine g_get S C hG iX80 0 rfl rfl 2 (by decide) (List.mem_of_getElem? (i := 5) rfl) rfl dX8_load_46 ?_
    refine g_get S C hG iX50 3 rfl rfl 0 (by decide) (List.mem_of_getElem? (i := 7) rfl) rfl dX8_load_49 ?_
    refine g_get S C hG iX70 4 rfl rfl 1 (by decide) (List.mem_of_getElem? (i := 8) rfl) rfl dX8_load_52 ?_
    have hG : gW K A s.heap [gRLC K ad, gBuf K (ad 1) (ad 12) 0 F, gScn K (ad 3) (ad 14) (ad 15) (ad 16) (ad 17) ou2_4 mi2_4 bo2_4 ln2_4 (cpyI LF2_4 LF 60) sn2_4 (cpyI SF2_4 SF 60), gScn K (ad 4) (ad 18) (ad 19) (ad 20) (ad 21) ou2_4 mi2_4 bo2_4 ln2_4 LF2_4 sn2_4 SF2_4, gPrsC K (ad 11) (ad 1) (ad 4) qp2_4 qs2_4 qk2_4 qn2_4 qo2_4 qb2_4 0 (-1), gHisC K (ad 5) (ad 22) ((nx + 1) % 6) (min (sz + 1) 6), gQS K (ad 22) 6 (oP (oup o nx.toNat u9_31)), gSOs K (oup o nx.toNat u9_31) (List.range 6)] _ _ := hG
    exact g_iret S hr hlk hQ dX8_load_55 (Nat.le_of_ble_eq_true rfl) (Nat.le_of_ble_eq_true rfl) ((ou2_4, mi2_4, bo2_4, ln2_4, (cpyI LF2_4 LF 60), sn2_4, (cpyI SF2_4 SF 60), ou2_4, mi2_4, bo2_4, ln2_4, LF2_4, sn2_4, SF2_4, qp2_4, qs2_4, qk2_4, qn2_4, qo2_4, qb2_4, 0, (-1), u9_31) : Int × Int × Int × Int × (Int → Int) × Int × (Int → Int) × Int × Int × Int × Int × (Int → Int) × Int × (Int → Int) × Int × Int × Int × Int × Int × Int × Int × Int × SR) ⟨(congrArg (fun z : Int => Value.int (iI z)) (by omega)), ⟨rfl, rfl⟩, (cpy_ok sm hM), hr_31⟩ hG
  · skip
    exact absurd ok9 q17
