set_option maxHeartbeats 1000000 in
set_option maxRecDepth 100000 in
theorem c_L_leastSlant (l : Launch) (K : KC) (ad : Nat → Nat) (ou : Int) (mi : Int) (bo : Int) (ln : Int) (LF : Int → Int) (sn : Int) (SF : Int → Int) (N : Int → Int) (vl : Int) (vd : Int) (vn : Int) (vf : Int) (vt : Int) (ve : Int) (vg : Int) (vb : Int) (vw : Int) (rz : RU) (zX : Int → Int) (y : Int) (x : Int) (z : Int) (ob : Nat) (OB : Int → Int) (hS : ScOk N ou mi bo ln LF sn SF) (hN : NOk0 N) (hv : -2147483648 ≤ y ∧ y < 2147483648) (hx : x = 0 ∨ x = 1) (hz : -2147483648 ≤ z ∧ z < 2147483648) (hvw : -3000000000 ≤ vw ∧ vw ≤ 3000000000) (hy : 0 ≤ y ∧ y < N 0) (h1 : 0 ≤ z ∧ z ≤ 3) : mH l yL_leastSlant wsL_leastSlant 7 164 K [.ref (ad 0), .int (iI y), .int (iI x), .int (iI z), .ref ob] [gRLC K ad, gSvyC K (ad 10) (ad 3) (ad 53) vl vd vn vf vt ve vg vb vw, gRayU K (ad 53) (ad 54) (ad 55) (ad 56) (ad 57) (ad 3) rz zX, gScn K (ad 3) (ad 14) (ad 15) (ad 16) (ad 17) ou mi bo ln LF sn SF, gArrL K 1 ob OB] (fun (v : Value) (u : Int × Int × Int × Int × Int × Int × Int × Int × Int × Int × RU × (Int → Int)) => (v = .int (iI 0)) ∧ (LowR N y x z u.1) ∧ (-3000000000 ≤ u.2.2.2.2.2.2.2.2.2.1 ∧ u.2.2.2.2.2.2.2.2.2.1 ≤ 3000000000)) (fun (u : Int × Int × Int × Int × Int × Int × Int × Int × Int × Int × RU × (Int → Int)) => [gRLC K ad, gSvyC K (ad 10) (ad 3) (ad 53) u.2.1 u.2.2.1 u.2.2.2.1 u.2.2.2.2.1 u.2.2.2.2.2.1 u.2.2.2.2.2.2.1 u.2.2.2.2.2.2.2.1 u.2.2.2.2.2.2.2.2.1 u.2.2.2.2.2.2.2.2.2.1, gRayU K (ad 53) (ad 54) (ad 55) (ad 56) (ad 57) (ad 3) u.2.2.2.2.2.2.2.2.2.2.1 u.2.2.2.2.2.2.2.2.2.2.2, gScn K (ad 3) (ad 14) (ad 15) (ad 16) (ad 17) ou mi bo ln LF sn SF, gArrL K 1 ob (upI OB 0 (iI u.1).toInt)]) 0 0 := by
  refine mH_of cL_leastSlant 6 (by decide) rfl (Nat.le_of_ble_eq_true rfl) ?_
  intro p e s m below meth c A ls Q S C hG hl hr hlk hin htab hQ
  have S : CallFix p m c cL_leastSlant 6 s ([.ref (ad 0), .int (iI y), .int (iI x), .int (iI z), .ref ob] : List Value).toArray wsL_leastSlant RL := S
  have hl : lv_has ls 6 [(0, .ref (ad 0)), (1, .int (iI y)), (2, .int (iI x)), (3, .int (iI z)), (4, .ref ob)] := hl
  have hG : gW K A s.heap [gRLC K ad, gSvyC K (ad 10) (ad 3) (ad 53) vl vd vn vf vt ve vg vb vw, gRayU K (ad 53) (ad 54) (ad 55) (ad 56) (ad 57) (ad 3) rz zX, gScn K (ad 3) (ad 14) (ad 15) (ad 16) (ad 17) ou mi bo ln LF sn SF, gArrL K 1 ob OB] s.heap [] := hG
  refine lv_aload S.1 S.2.1 dL_leastSlant_0 (lv_at hl 4 rfl) ?_
  refine g_iconst S dL_leastSlant_2 ?_
  refine lv_aload_n S.1 S.2.1 dL_leastSlant_3 rfl (lv_at hl 0 rfl) ?_
  refine lv_iload_n S.1 S.2.1 dL_leastSlant_4 rfl (lv_at hl 1 rfl) ?_
  refine lv_iload_n S.1 S.2.1 dL_leastSlant_5 rfl (lv_at hl 2 rfl) ?_
  refine lv_iload_n S.1 S.2.1 dL_leastSlant_6 rfl (lv_at hl 3 rfl) ?_
  refine g_invV (As := [.int (iI y), .int (iI x), .int (iI z)]) (rest := [.int (iI 0), .ref ob]) (gs' := (fun u : Int × Int × Int × Int × Int × Int × Int × Int × Int × Int × RU × (Int → Int) => [gRLC K ad, gSvyC K (ad 10) (ad 3) (ad 53) u.2.1 u.2.2.1 u.2.2.2.1 u.2.2.2.2.1 u.2.2.2.2.2.1 u.2.2.2.2.2.2.1 u.2.2.2.2.2.2.2.1 u.2.2.2.2.2.2.2.2.1 u.2.2.2.2.2.2.2.2.2.1, gRayU K (ad 53) (ad 54) (ad 55) (ad 56) (ad 57) (ad 3) u.2.2.2.2.2.2.2.2.2.2.1 u.2.2.2.2.2.2.2.2.2.2.2, gScn K (ad 3) (ad 14) (ad 15) (ad 16) (ad 17) ou mi bo ln LF sn SF, gArrL K 1 ob OB])) S C hG [0, 1, 2, 3] (c_X8_leastSlant l K ad ou mi bo ln LF sn SF N vl vd vn vf vt ve vg vb vw rz zX y x z hS hN hv hx hz hvw hy h1) rfl rfl 0 rfl rfl (cwV 3 S.2.2.2.2 gL_leastSlant_X8_leastSlant rfl rfl rfl (by decide +kernel) ⟨Nat.le_of_ble_eq_true rfl, Nat.le_of_ble_eq_true rfl⟩) rfl hl.1 rfl (Nat.le_of_ble_eq_true rfl) dL_leastSlant_7 ⟨Nat.le_of_ble_eq_true rfl, Nat.le_of_ble_eq_true rfl⟩ (fun _ => Nat.le_of_ble_eq_true rfl) (fun _ => rfl) (fun v u H locs hp hG => ?_)
  obtain ⟨r_7, vl2_7, vd2_7, vn2_7, vf2_7, vt2_7, ve2_7, vg2_7, vb2_7, vw2_7, rz2_7, zX2_7⟩ := u
  obtain ⟨rfl, hl_7, hw2_7⟩ := hp
  have hl_7 : LowR N y x z r_7 := hl_7
  have hw2_7 : -3000000000 ≤ vw2_7 ∧ vw2_7 ≤ 3000000000 := hw2_7
  have hG : gW K A s.heap [gRLC K ad, gSvyC K (ad 10) (ad 3) (ad 53) vl2_7 vd2_7 vn2_7 vf2_7 vt2_7 ve2_7 vg2_7 vb2_7 vw2_7, gRayU K (ad 53) (ad 54) (ad 55) (ad 56) (ad 57) (ad 3) rz2_7 zX2_7, gScn K (ad 3) (ad 14) (ad 15) (ad 16) (ad 17) ou mi bo ln LF sn SF, gArrL K 1 ob OB] _ _ := hG
  refine g_i2lr S dL_leastSlant_10 ?_
  refine g_last (n := 1) (gs' := [gRLC K ad, gSvyC K (ad 10) (ad 3) (ad 53) vl2_7 vd2_7 vn2_7 vf2_7 vt2_7 ve2_7 vg2_7 vb2_7 vw2_7, gRayU K (ad 53) (ad 54) (ad 55) (ad 56) (ad 57) (ad 3) rz2_7 zX2_7, gScn K (ad 3) (ad 14) (ad 15) (ad 16) (ad 17) ou mi bo ln LF sn SF, gArrL K 1 ob (upI OB 0 ((iI r_7).toInt))]) S C hG 12 rfl (by decide) (by decide) (by decide) rfl dL_leastSlant_11 (fun H locs hG => ?_)
  refine lv_goto (tgt := 23) S.1 S.2.1 dL_leastSlant_12 (by decide) ?_
  refine g_iconst S dL_leastSlant_23 ?_
  have hG : gW K A s.heap [gRLC K ad, gSvyC K (ad 10) (ad 3) (ad 53) vl2_7 vd2_7 vn2_7 vf2_7 vt2_7 ve2_7 vg2_7 vb2_7 vw2_7, gRayU K (ad 53) (ad 54) (ad 55) (ad 56) (ad 57) (ad 3) rz2_7 zX2_7, gScn K (ad 3) (ad 14) (ad 15) (ad 16) (ad 17) ou mi bo ln LF sn SF, gArrL K 1 ob (upI OB 0 (iI r_7).toInt)] _ _ := hG
  exact g_iretH S hr hlk hQ dL_leastSlant_24 (Nat.le_of_ble_eq_true rfl) (Nat.le_of_ble_eq_true rfl) ((r_7, vl2_7, vd2_7, vn2_7, vf2_7, vt2_7, ve2_7, vg2_7, vb2_7, vw2_7, rz2_7, zX2_7) : Int × Int × Int × Int × Int × Int × Int × Int × Int × Int × RU × (Int → Int)) ⟨rfl, hl_7, hw2_7⟩ hG

set_option maxHeartbeats 1000000 in
set_option maxRecDepth 100000 in
theorem x1_L_leastSlant (l : Launch) (K : KC) (ad : Nat → Nat) (ou : Int) (mi : Int) (bo : Int) (ln : Int) (LF : Int → Int) (sn : Int) (SF : Int → Int) (N : Int → Int) (vl : Int) (vd : Int) (vn : Int) (vf : Int) (vt : Int) (ve : Int) (vg : Int) (vb : Int) (vw : Int) (rz : RU) (zX : Int → Int) (y : Int) (x : Int) (z : Int) (ob : Nat) (OB : Int → Int) (hS : ScOk N ou mi bo ln LF sn SF) (hN : NOk0 N) (hv : -2147483648 ≤ y ∧ y < 2147483648) (hx : x = 0 ∨ x = 1) (hz : -2147483648 ≤ z ∧ z < 2147483648) (hvw : -3000000000 ≤ vw ∧ vw ≤ 3000000000) (h0 : ¬ (0 ≤ y ∧ y < N 0)) (hst : l.stackTraces = false) : mH l yL_leastSlant wsL_leastSlant 9 148 K [.ref (ad 0), .int (iI y), .int (iI x), .int (iI z), .ref ob] [gRLC K ad, gSvyC K (ad 10) (ad 3) (ad 53) vl vd vn vf vt ve vg vb vw, gRayU K (ad 53) (ad 54) (ad 55) (ad 56) (ad 57) (ad 3) rz zX, gScn K (ad 3) (ad 14) (ad 15) (ad 16) (ad 17) ou mi bo ln LF sn SF, gArrL K 1 ob OB] (fun (v : Value) (u : Unit) => (v = .int (iI 1))) (fun (u : Unit) => [gRLC K ad, gSvyC K (ad 10) (ad 3) (ad 53) vl vd vn vf vt ve vg vb vw, gRayU K (ad 53) (ad 54) (ad 55) (ad 56) (ad 57) (ad 3) rz zX, gScn K (ad 3) (ad 14) (ad 15) (ad 16) (ad 17) ou mi bo ln LF sn SF, gArrL K 1 ob OB]) 1 6 := by
  refine mH_of cL_leastSlant 6 (by decide) rfl (Nat.le_of_ble_eq_true rfl) ?_
  intro p e s m below meth c A ls Q S C hG hl hr hlk hin htab hQ
  have S : CallFix p m c cL_leastSlant 6 s ([.ref (ad 0), .int (iI y), .int (iI x), .int (iI z), .ref ob] : List Value).toArray wsL_leastSlant RL := S
  have hl : lv_has ls 6 [(0, .ref (ad 0)), (1, .int (iI y)), (2, .int (iI x)), (3, .int (iI z)), (4, .ref ob)] := hl
  have hG : gW K A s.heap [gRLC K ad, gSvyC K (ad 10) (ad 3) (ad 53) vl vd vn vf vt ve vg vb vw, gRayU K (ad 53) (ad 54) (ad 55) (ad 56) (ad 57) (ad 3) rz zX, gScn K (ad 3) (ad 14) (ad 15) (ad 16) (ad 17) ou mi bo ln LF sn SF, gArrL K 1 ob OB] s.heap [] := hG
  refine lv_aload S.1 S.2.1 dL_leastSlant_0 (lv_at hl 4 rfl) ?_
  refine g_iconst S dL_leastSlant_2 ?_
  refine lv_aload_n S.1 S.2.1 dL_leastSlant_3 rfl (lv_at hl 0 rfl) ?_
  refine lv_iload_n S.1 S.2.1 dL_leastSlant_4 rfl (lv_at hl 1 rfl) ?_
  refine lv_iload_n S.1 S.2.1 dL_leastSlant_5 rfl (lv_at hl 2 rfl) ?_
  refine lv_iload_n S.1 S.2.1 dL_leastSlant_6 rfl (lv_at hl 3 rfl) ?_
  refine g_xV (E := "java/lang/IndexOutOfBoundsException") (As := [.int (iI y), .int (iI x), .int (iI z)]) (rest := [.int (iI 0), .ref ob]) (gs' := (fun u : Unit => [gRLC K ad, gSvyC K (ad 10) (ad 3) (ad 53) vl vd vn vf vt ve vg vb vw, gRayU K (ad 53) (ad 54) (ad 55) (ad 56) (ad 57) (ad 3) rz zX, gScn K (ad 3) (ad 14) (ad 15) (ad 16) (ad 17) ou mi bo ln LF sn SF, gArrL K 1 ob OB])) S C hG [0, 1, 2, 3] (x1_leastSlant l K ad ou mi bo ln LF sn SF N vl vd vn vf vt ve vg vb vw rz zX y x z hS hN hv hx hz hvw h0 hst) rfl rfl 0 rfl rfl (cwV 3 S.2.2.2.2 gL_leastSlant_X8_leastSlant rfl rfl rfl (by decide +kernel) ⟨Nat.le_of_ble_eq_true rfl, Nat.le_of_ble_eq_true rfl⟩) rfl hl.1 rfl (Nat.le_of_ble_eq_true rfl) dL_leastSlant_7 ⟨Nat.le_of_ble_eq_true rfl, Nat.le_of_ble_eq_true rfl⟩ (fun _ => Nat.le_of_ble_eq_true rfl) (fun _ => rfl) (fun u q9 ce9 H locs hp hG hq9 hv9 hcl9 => ?_)
  refine g_catch (E := "java/lang/IndexOutOfBoundsException") (st := 0) (en := 12) (hpc := 15) (ct := 29) (suf' := [(0, 12, 19, 19)]) S C [] htab (List.mem_of_getElem? (l := exC) (i := 0) rfl) (fun _ h => absurd h List.not_mem_nil) ⟨by decide, by decide⟩ (by decide) (List.mem_of_getElem? (i := 1) rfl) hq9 hv9 hcl9 ?_
  refine lv_astore (lv' := [(5, .ref q9), (0, .ref (ad 0)), (1, .int (iI y)), (2, .int (iI x)), (3, .int (iI z)), (4, .ref ob)]) S.1 S.2.1 dL_leastSlant_15 hl (by decide) rfl (fun ls hl => ?_)
  refine g_iconst S dL_leastSlant_17 ?_
  have hG : gW K A s.heap [gRLC K ad, gSvyC K (ad 10) (ad 3) (ad 53) vl vd vn vf vt ve vg vb vw, gRayU K (ad 53) (ad 54) (ad 55) (ad 56) (ad 57) (ad 3) rz zX, gScn K (ad 3) (ad 14) (ad 15) (ad 16) (ad 17) ou mi bo ln LF sn SF, gArrL K 1 ob OB] _ _ := hG
  exact g_iretH S hr hlk hQ dL_leastSlant_18 (Nat.le_of_ble_eq_true rfl) (Nat.le_of_ble_eq_true rfl) (() : Unit) rfl hG

set_option maxHeartbeats 1000000 in
set_option maxRecDepth 100000 in
theorem x2_L_leastSlant (l : Launch) (K : KC) (ad : Nat → Nat) (ou : Int) (mi : Int) (bo : Int) (ln : Int) (LF : Int → Int) (sn : Int) (SF : Int → Int) (N : Int → Int) (vl : Int) (vd : Int) (vn : Int) (vf : Int) (vt : Int) (ve : Int) (vg : Int) (vb : Int) (vw : Int) (rz : RU) (zX : Int → Int) (y : Int) (x : Int) (z : Int) (ob : Nat) (OB : Int → Int) (hS : ScOk N ou mi bo ln LF sn SF) (hN : NOk0 N) (hv : -2147483648 ≤ y ∧ y < 2147483648) (hx : x = 0 ∨ x = 1) (hz : -2147483648 ≤ z ∧ z < 2147483648) (hvw : -3000000000 ≤ vw ∧ vw ≤ 3000000000) (hy : 0 ≤ y ∧ y < N 0) (h1 : ¬ (0 ≤ z ∧ z ≤ 3)) (hst : l.stackTraces = false) : mH l yL_leastSlant wsL_leastSlant 9 149 K [.ref (ad 0), .int (iI y), .int (iI x), .int (iI z), .ref ob] [gRLC K ad, gSvyC K (ad 10) (ad 3) (ad 53) vl vd vn vf vt ve vg vb vw, gRayU K (ad 53) (ad 54) (ad 55) (ad 56) (ad 57) (ad 3) rz zX, gScn K (ad 3) (ad 14) (ad 15) (ad 16) (ad 17) ou mi bo ln LF sn SF, gArrL K 1 ob OB] (fun (v : Value) (u : Unit) => (v = .int (iI 2))) (fun (u : Unit) => [gRLC K ad, gSvyC K (ad 10) (ad 3) (ad 53) vl vd vn vf vt ve vg vb vw, gRayU K (ad 53) (ad 54) (ad 55) (ad 56) (ad 57) (ad 3) rz zX, gScn K (ad 3) (ad 14) (ad 15) (ad 16) (ad 17) ou mi bo ln LF sn SF, gArrL K 1 ob OB]) 1 6 := by
  refine mH_of cL_leastSlant 6 (by decide) rfl (Nat.le_of_ble_eq_true rfl) ?_
  intro p e s m below meth c A ls Q S C hG hl hr hlk hin htab hQ
  have S : CallFix p m c cL_leastSlant 6 s ([.ref (ad 0), .int (iI y), .int (iI x), .int (iI z), .ref ob] : List Value).toArray wsL_leastSlant RL := S
  have hl : lv_has ls 6 [(0, .ref (ad 0)), (1, .int (iI y)), (2, .int (iI x)), (3, .int (iI z)), (4, .ref ob)] := hl
  have hG : gW K A s.heap [gRLC K ad, gSvyC K (ad 10) (ad 3) (ad 53) vl vd vn vf vt ve vg vb vw, gRayU K (ad 53) (ad 54) (ad 55) (ad 56) (ad 57) (ad 3) rz zX, gScn K (ad 3) (ad 14) (ad 15) (ad 16) (ad 17) ou mi bo ln LF sn SF, gArrL K 1 ob OB] s.heap [] := hG
  refine lv_aload S.1 S.2.1 dL_leastSlant_0 (lv_at hl 4 rfl) ?_
  refine g_iconst S dL_leastSlant_2 ?_
  refine lv_aload_n S.1 S.2.1 dL_leastSlant_3 rfl (lv_at hl 0 rfl) ?_
  refine lv_iload_n S.1 S.2.1 dL_leastSlant_4 rfl (lv_at hl 1 rfl) ?_
  refine lv_iload_n S.1 S.2.1 dL_leastSlant_5 rfl (lv_at hl 2 rfl) ?_
  refine lv_iload_n S.1 S.2.1 dL_leastSlant_6 rfl (lv_at hl 3 rfl) ?_
  refine g_xV (E := "java/lang/IllegalArgumentException") (As := [.int (iI y), .int (iI x), .int (iI z)]) (rest := [.int (iI 0), .ref ob]) (gs' := (fun u : Unit => [gRLC K ad, gSvyC K (ad 10) (ad 3) (ad 53) vl vd vn vf vt ve vg vb vw, gRayU K (ad 53) (ad 54) (ad 55) (ad 56) (ad 57) (ad 3) rz zX, gScn K (ad 3) (ad 14) (ad 15) (ad 16) (ad 17) ou mi bo ln LF sn SF, gArrL K 1 ob OB])) S C hG [0, 1, 2, 3] (x2_leastSlant l K ad ou mi bo ln LF sn SF N vl vd vn vf vt ve vg vb vw rz zX y x z hS hN hv hx hz hvw hy h1 hst) rfl rfl 0 rfl rfl (cwV 3 S.2.2.2.2 gL_leastSlant_X8_leastSlant rfl rfl rfl (by decide +kernel) ⟨Nat.le_of_ble_eq_true rfl, Nat.le_of_ble_eq_true rfl⟩) rfl hl.1 rfl (Nat.le_of_ble_eq_true rfl) dL_leastSlant_7 ⟨Nat.le_of_ble_eq_true rfl, Nat.le_of_ble_eq_true rfl⟩ (fun _ => Nat.le_of_ble_eq_true rfl) (fun _ => rfl) (fun u q9 ce9 H locs hp hG hq9 hv9 hcl9 => ?_)
  refine g_catch (E := "java/lang/IllegalArgumentException") (st := 0) (en := 12) (hpc := 19) (ct := 19) (suf' := []) S C [(0, 12, 15, 29)] htab (List.mem_of_getElem? (l := exC) (i := 1) rfl) (List.forall_mem_cons.mpr ⟨⟨by decide, "java/lang/IndexOutOfBoundsException", (List.mem_of_getElem? (l := exC) (i := 0) rfl), by decide, (List.mem_of_getElem? (i := 1) rfl)⟩, fun _ h => absurd h List.not_mem_nil⟩) ⟨by decide, by decide⟩ (by decide) (List.mem_of_getElem? (i := 2) rfl) hq9 hv9 hcl9 ?_
  refine lv_astore (lv' := [(5, .ref q9), (0, .ref (ad 0)), (1, .int (iI y)), (2, .int (iI x)), (3, .int (iI z)), (4, .ref ob)]) S.1 S.2.1 dL_leastSlant_19 hl (by decide) rfl (fun ls hl => ?_)
  refine g_iconst S dL_leastSlant_21 ?_
  have hG : gW K A s.heap [gRLC K ad, gSvyC K (ad 10) (ad 3) (ad 53) vl vd vn vf vt ve vg vb vw, gRayU K (ad 53) (ad 54) (ad 55) (ad 56) (ad 57) (ad 3) rz zX, gScn K (ad 3) (ad 14) (ad 15) (ad 16) (ad 17) ou mi bo ln LF sn SF, gArrL K 1 ob OB] _ _ := hG
  exact g_iretH S hr hlk hQ dL_leastSlant_22 (Nat.le_of_ble_eq_true rfl) (Nat.le_of_ble_eq_true rfl) (() : Unit) rfl hG

set_option maxHeartbeats 1000000 in
set_option maxRecDepth 100000 in
theorem c_L_slantFor (l : Launch) (K : KC) (ad : Nat → Nat) (ou : Int) (mi : Int) (bo : Int) (ln : Int) (LF : Int → Int) (sn : Int) (SF : Int → Int) (N : Int → Int) (vl : Int) (vd : Int) (vn : Int) (vf : Int) (vt : Int) (ve : Int) (vg : Int) (vb : Int) (vw : Int) (rz : RU) (zX : Int → Int) (y : Int) (x : Int) (z : Int) (ob : Nat) (OB : Int → Int) (hS : ScOk N ou mi bo ln LF sn SF) (hN : NOk0 N) (hv : -2147483648 ≤ y ∧ y < 2147483648) (hx : x = 0 ∨ x = 1) (hz : -2147483648 ≤ z ∧ z < 2147483648) (hvw : -3000000000 ≤ vw ∧ vw ≤ 3000000000) (hy : 0 ≤ y ∧ y < N 0) (h1 : 0 ≤ z) : mH l yL_slantFor wsL_slantFor 8 189 K [.ref (ad 0), .int (iI y), .int (iI x), .int (iI z), .ref ob] [gRLC K ad, gSvyC K (ad 10) (ad 3) (ad 53) vl vd vn vf vt ve vg vb vw, gRayU K (ad 53) (ad 54) (ad 55) (ad 56) (ad 57) (ad 3) rz zX, gScn K (ad 3) (ad 14) (ad 15) (ad 16) (ad 17) ou mi bo ln LF sn SF, gArrL K 1 ob OB] (fun (v : Value) (u : Int × Int × Int × Int × Int × Int × Int × Int × Int × RU × (Int → Int)) => (v = .int (iI 0)) ∧ (BestI N y x 0 (nsG N y x z) True (nX N y) u.2.2.2.2.2.2.2.1 u.2.2.2.2.2.2.2.2.1) ∧ (-3000000000 ≤ u.2.2.2.2.2.2.2.2.1 ∧ u.2.2.2.2.2.2.2.2.1 ≤ 3000000000)) (fun (u : Int × Int × Int × Int × Int × Int × Int × Int × Int × RU × (Int → Int)) => [gRLC K ad, gSvyC K (ad 10) (ad 3) (ad 53) u.1 u.2.1 u.2.2.1 u.2.2.2.1 u.2.2.2.2.1 u.2.2.2.2.2.1 u.2.2.2.2.2.2.1 u.2.2.2.2.2.2.2.1 u.2.2.2.2.2.2.2.2.1, gRayU K (ad 53) (ad 54) (ad 55) (ad 56) (ad 57) (ad 3) u.2.2.2.2.2.2.2.2.2.1 u.2.2.2.2.2.2.2.2.2.2, gScn K (ad 3) (ad 14) (ad 15) (ad 16) (ad 17) ou mi bo ln LF sn SF, gArrL K 1 ob (upI OB 0 (iI u.2.2.2.2.2.2.2.1).toInt)]) 0 0 := by
  refine mH_of cL_slantFor 6 (by decide) rfl (Nat.le_of_ble_eq_true rfl) ?_
  intro p e s m below meth c A ls Q S C hG hl hr hlk hin htab hQ
  have S : CallFix p m c cL_slantFor 6 s ([.ref (ad 0), .int (iI y), .int (iI x), .int (iI z), .ref ob] : List Value).toArray wsL_slantFor RL := S
  have hl : lv_has ls 6 [(0, .ref (ad 0)), (1, .int (iI y)), (2, .int (iI x)), (3, .int (iI z)), (4, .ref ob)] := hl
  have hG : gW K A s.heap [gRLC K ad, gSvyC K (ad 10) (ad 3) (ad 53) vl vd vn vf vt ve vg vb vw, gRayU K (ad 53) (ad 54) (ad 55) (ad 56) (ad 57) (ad 3) rz zX, gScn K (ad 3) (ad 14) (ad 15) (ad 16) (ad 17) ou mi bo ln LF sn SF, gArrL K 1 ob OB] s.heap [] := hG
  refine lv_aload S.1 S.2.1 dL_slantFor_0 (lv_at hl 4 rfl) ?_
  refine g_iconst S dL_slantFor_2 ?_
  refine lv_aload_n S.1 S.2.1 dL_slantFor_3 rfl (lv_at hl 0 rfl) ?_
  refine lv_iload_n S.1 S.2.1 dL_slantFor_4 rfl (lv_at hl 1 rfl) ?_
  refine lv_iload_n S.1 S.2.1 dL_slantFor_5 rfl (lv_at hl 2 rfl) ?_
  refine lv_iload_n S.1 S.2.1 dL_slantFor_6 rfl (lv_at hl 3 rfl) ?_
  refine g_invV (As := [.int (iI y), .int (iI x), .int (iI z)]) (rest := [.int (iI 0), .ref ob]) (gs' := (fun u : Int × Int × Int × Int × Int × Int × Int × Int × Int × RU × (Int → Int) => [gRLC K ad, gSvyC K (ad 10) (ad 3) (ad 53) u.1 u.2.1 u.2.2.1 u.2.2.2.1 u.2.2.2.2.1 u.2.2.2.2.2.1 u.2.2.2.2.2.2.1 u.2.2.2.2.2.2.2.1 u.2.2.2.2.2.2.2.2.1, gRayU K (ad 53) (ad 54) (ad 55) (ad 56) (ad 57) (ad 3) u.2.2.2.2.2.2.2.2.2.1 u.2.2.2.2.2.2.2.2.2.2, gScn K (ad 3) (ad 14) (ad 15) (ad 16) (ad 17) ou mi bo ln LF sn SF, gArrL K 1 ob OB])) S C hG [0, 1, 2, 3] (c_X8_slantFor l K ad ou mi bo ln LF sn SF N vl vd vn vf vt ve vg vb vw rz zX y x z hS hN hv hx hz hvw hy h1) rfl rfl 0 rfl rfl (cwV 3 S.2.2.2.2 gL_slantFor_X8_slantFor rfl rfl rfl (by decide +kernel) ⟨Nat.le_of_ble_eq_true rfl, Nat.le_of_ble_eq_true rfl⟩) rfl hl.1 rfl (Nat.le_of_ble_eq_true rfl) dL_slantFor_7 ⟨Nat.le_of_ble_eq_true rfl, Nat.le_of_ble_eq_true rfl⟩ (fun _ => Nat.le_of_ble_eq_true rfl) (fun _ => rfl) (fun v u H locs hp hG => ?_)
  obtain ⟨vl2_7, vd2_7, vn2_7, vf2_7, vt2_7, ve2_7, vg2_7, vb2_7, vw2_7, rz2_7, zX2_7⟩ := u
  obtain ⟨rfl, hB_7, hw2_7⟩ := hp
  have hB_7 : BestI N y x 0 (nsG N y x z) True (nX N y) vb2_7 vw2_7 := hB_7
  have hw2_7 : -3000000000 ≤ vw2_7 ∧ vw2_7 ≤ 3000000000 := hw2_7
  have hG : gW K A s.heap [gRLC K ad, gSvyC K (ad 10) (ad 3) (ad 53) vl2_7 vd2_7 vn2_7 vf2_7 vt2_7 ve2_7 vg2_7 vb2_7 vw2_7, gRayU K (ad 53) (ad 54) (ad 55) (ad 56) (ad 57) (ad 3) rz2_7 zX2_7, gScn K (ad 3) (ad 14) (ad 15) (ad 16) (ad 17) ou mi bo ln LF sn SF, gArrL K 1 ob OB] _ _ := hG
  refine g_i2lr S dL_slantFor_10 ?_
  refine g_last (n := 1) (gs' := [gRLC K ad, gSvyC K (ad 10) (ad 3) (ad 53) vl2_7 vd2_7 vn2_7 vf2_7 vt2_7 ve2_7 vg2_7 vb2_7 vw2_7, gRayU K (ad 53) (ad 54) (ad 55) (ad 56) (ad 57) (ad 3) rz2_7 zX2_7, gScn K (ad 3) (ad 14) (ad 15) (ad 16) (ad 17) ou mi bo ln LF sn SF, gArrL K 1 ob (upI OB 0 ((iI vb2_7).toInt))]) S C hG 12 rfl (by decide) (by decide) (by decide) rfl dL_slantFor_11 (fun H locs hG => ?_)
  refine lv_goto (tgt := 23) S.1 S.2.1 dL_slantFor_12 (by decide) ?_
  refine g_iconst S dL_slantFor_23 ?_
  have hG : gW K A s.heap [gRLC K ad, gSvyC K (ad 10) (ad 3) (ad 53) vl2_7 vd2_7 vn2_7 vf2_7 vt2_7 ve2_7 vg2_7 vb2_7 vw2_7, gRayU K (ad 53) (ad 54) (ad 55) (ad 56) (ad 57) (ad 3) rz2_7 zX2_7, gScn K (ad 3) (ad 14) (ad 15) (ad 16) (ad 17) ou mi bo ln LF sn SF, gArrL K 1 ob (upI OB 0 (iI vb2_7).toInt)] _ _ := hG
  exact g_iretH S hr hlk hQ dL_slantFor_24 (Nat.le_of_ble_eq_true rfl) (Nat.le_of_ble_eq_true rfl) ((vl2_7, vd2_7, vn2_7, vf2_7, vt2_7, ve2_7, vg2_7, vb2_7, vw2_7, rz2_7, zX2_7) : Int × Int × Int × Int × Int × Int × Int × Int × Int × RU × (Int → Int)) ⟨rfl, hB_7, hw2_7⟩ hG

set_option maxHeartbeats 1000000 in
set_option maxRecDepth 100000 in
theorem x1_L_slantFor (l : Launch) (K : KC) (ad : Nat → Nat) (ou : Int) (mi : Int) (bo : Int) (ln : Int) (LF : Int → Int) (sn : Int) (SF : Int → Int) (N : Int → Int) (vl : Int) (vd : Int) (vn : Int) (vf : Int) (vt : Int) (ve : Int) (vg : Int) (vb : Int) (vw : Int) (rz : RU) (zX : Int → Int) (y : Int) (x : Int) (z : Int) (ob : Nat) (OB : Int → Int) (hS : ScOk N ou mi bo ln LF sn SF) (hN : NOk0 N) (hv : -2147483648 ≤ y ∧ y < 2147483648) (hx : x = 0 ∨ x = 1) (hz : -2147483648 ≤ z ∧ z < 2147483648) (hvw : -3000000000 ≤ vw ∧ vw ≤ 3000000000) (h0 : ¬ (0 ≤ y ∧ y < N 0)) (hst : l.stackTraces = false) : mH l yL_slantFor wsL_slantFor 8 126 K [.ref (ad 0), .int (iI y), .int (iI x), .int (iI z), .ref ob] [gRLC K ad, gSvyC K (ad 10) (ad 3) (ad 53) vl vd vn vf vt ve vg vb vw, gRayU K (ad 53) (ad 54) (ad 55) (ad 56) (ad 57) (ad 3) rz zX, gScn K (ad 3) (ad 14) (ad 15) (ad 16) (ad 17) ou mi bo ln LF sn SF, gArrL K 1 ob OB] (fun (v : Value) (u : Unit) => (v = .int (iI 1))) (fun (u : Unit) => [gRLC K ad, gSvyC K (ad 10) (ad 3) (ad 53) vl vd vn vf vt ve vg vb vw, gRayU K (ad 53) (ad 54) (ad 55) (ad 56) (ad 57) (ad 3) rz zX, gScn K (ad 3) (ad 14) (ad 15) (ad 16) (ad 17) ou mi bo ln LF sn SF, gArrL K 1 ob OB]) 1 6 := by
  refine mH_of cL_slantFor 6 (by decide) rfl (Nat.le_of_ble_eq_true rfl) ?_
  intro p e s m below meth c A ls Q S C hG hl hr hlk hin htab hQ
  have S : CallFix p m c cL_slantFor 6 s ([.ref (ad 0), .int (iI y), .int (iI x), .int (iI z), .ref ob] : List Value).toArray wsL_slantFor RL := S
  have hl : lv_has ls 6 [(0, .ref (ad 0)), (1, .int (iI y)), (2, .int (iI x)), (3, .int (iI z)), (4, .ref ob)] := hl
  have hG : gW K A s.heap [gRLC K ad, gSvyC K (ad 10) (ad 3) (ad 53) vl vd vn vf vt ve vg vb vw, gRayU K (ad 53) (ad 54) (ad 55) (ad 56) (ad 57) (ad 3) rz zX, gScn K (ad 3) (ad 14) (ad 15) (ad 16) (ad 17) ou mi bo ln LF sn SF, gArrL K 1 ob OB] s.heap [] := hG
  refine lv_aload S.1 S.2.1 dL_slantFor_0 (lv_at hl 4 rfl) ?_
  refine g_iconst S dL_slantFor_2 ?_
  refine lv_aload_n S.1 S.2.1 dL_slantFor_3 rfl (lv_at hl 0 rfl) ?_
  refine lv_iload_n S.1 S.2.1 dL_slantFor_4 rfl (lv_at hl 1 rfl) ?_
  refine lv_iload_n S.1 S.2.1 dL_slantFor_5 rfl (lv_at hl 2 rfl) ?_
  refine lv_iload_n S.1 S.2.1 dL_slantFor_6 rfl (lv_at hl 3 rfl) ?_
  refine g_xV (E := "java/lang/IndexOutOfBoundsException") (As := [.int (iI y), .int (iI x), .int (iI z)]) (rest := [.int (iI 0), .ref ob]) (gs' := (fun u : Unit => [gRLC K ad, gSvyC K (ad 10) (ad 3) (ad 53) vl vd vn vf vt ve vg vb vw, gRayU K (ad 53) (ad 54) (ad 55) (ad 56) (ad 57) (ad 3) rz zX, gScn K (ad 3) (ad 14) (ad 15) (ad 16) (ad 17) ou mi bo ln LF sn SF, gArrL K 1 ob OB])) S C hG [0, 1, 2, 3] (x1_slantFor l K ad ou mi bo ln LF sn SF N vl vd vn vf vt ve vg vb vw rz zX y x z hS hN hv hx hz hvw h0 hst) rfl rfl 0 rfl rfl (cwV 3 S.2.2.2.2 gL_slantFor_X8_slantFor rfl rfl rfl (by decide +kernel) ⟨Nat.le_of_ble_eq_true rfl, Nat.le_of_ble_eq_true rfl⟩) rfl hl.1 rfl (Nat.le_of_ble_eq_true rfl) dL_slantFor_7 ⟨Nat.le_of_ble_eq_true rfl, Nat.le_of_ble_eq_true rfl⟩ (fun _ => Nat.le_of_ble_eq_true rfl) (fun _ => rfl) (fun u q9 ce9 H locs hp hG hq9 hv9 hcl9 => ?_)
  refine g_catch (E := "java/lang/IndexOutOfBoundsException") (st := 0) (en := 12) (hpc := 15) (ct := 29) (suf' := [(0, 12, 19, 19)]) S C [] htab (List.mem_of_getElem? (l := exC) (i := 0) rfl) (fun _ h => absurd h List.not_mem_nil) ⟨by decide, by decide⟩ (by decide) (List.mem_of_getElem? (i := 1) rfl) hq9 hv9 hcl9 ?_
  refine lv_astore (lv' := [(5, .ref q9), (0, .ref (ad 0)), (1, .int (iI y)), (2, .int (iI x)), (3, .int (iI z)), (4, .ref ob)]) S.1 S.2.1 dL_slantFor_15 hl (by decide) rfl (fun ls hl => ?_)
  refine g_iconst S dL_slantFor_17 ?_
  have hG : gW K A s.heap [gRLC K ad, gSvyC K (ad 10) (ad 3) (ad 53) vl vd vn vf vt ve vg vb vw, gRayU K (ad 53) (ad 54) (ad 55) (ad 56) (ad 57) (ad 3) rz zX, gScn K (ad 3) (ad 14) (ad 15) (ad 16) (ad 17) ou mi bo ln LF sn SF, gArrL K 1 ob OB] _ _ := hG
  exact g_iretH S hr hlk hQ dL_slantFor_18 (Nat.le_of_ble_eq_true rfl) (Nat.le_of_ble_eq_true rfl) (() : Unit) rfl hG

set_option maxHeartbeats 1000000 in
set_option maxRecDepth 100000 in
theorem x2_L_slantFor (l : Launch) (K : KC) (ad : Nat → Nat) (ou : Int) (mi : Int) (bo : Int) (ln : Int) (LF : Int → Int) (sn : Int) (SF : Int → Int) (N : Int → Int) (vl : Int) (vd : Int) (vn : Int) (vf : Int) (vt : Int) (ve : Int) (vg : Int) (vb : Int) (vw : Int) (rz : RU) (zX : Int → Int) (y : Int) (x : Int) (z : Int) (ob : Nat) (OB : Int → Int) (hS : ScOk N ou mi bo ln LF sn SF) (hN : NOk0 N) (hv : -2147483648 ≤ y ∧ y < 2147483648) (hx : x = 0 ∨ x = 1) (hz : -2147483648 ≤ z ∧ z < 2147483648) (hvw : -3000000000 ≤ vw ∧ vw ≤ 3000000000) (hy : 0 ≤ y ∧ y < N 0) (h1 : ¬ (0 ≤ z)) (hst : l.stackTraces = false) : mH l yL_slantFor wsL_slantFor 8 125 K [.ref (ad 0), .int (iI y), .int (iI x), .int (iI z), .ref ob] [gRLC K ad, gSvyC K (ad 10) (ad 3) (ad 53) vl vd vn vf vt ve vg vb vw, gRayU K (ad 53) (ad 54) (ad 55) (ad 56) (ad 57) (ad 3) rz zX, gScn K (ad 3) (ad 14) (ad 15) (ad 16) (ad 17) ou mi bo ln LF sn SF, gArrL K 1 ob OB] (fun (v : Value) (u : Unit) => (v = .int (iI 2))) (fun (u : Unit) => [gRLC K ad, gSvyC K (ad 10) (ad 3) (ad 53) vl vd vn vf vt ve vg vb vw, gRayU K (ad 53) (ad 54) (ad 55) (ad 56) (ad 57) (ad 3) rz zX, gScn K (ad 3) (ad 14) (ad 15) (ad 16) (ad 17) ou mi bo ln LF sn SF, gArrL K 1 ob OB]) 1 6 := by
  refine mH_of cL_slantFor 6 (by decide) rfl (Nat.le_of_ble_eq_true rfl) ?_
  intro p e s m below meth c A ls Q S C hG hl hr hlk hin htab hQ
  have S : CallFix p m c cL_slantFor 6 s ([.ref (ad 0), .int (iI y), .int (iI x), .int (iI z), .ref ob] : List Value).toArray wsL_slantFor RL := S
  have hl : lv_has ls 6 [(0, .ref (ad 0)), (1, .int (iI y)), (2, .int (iI x)), (3, .int (iI z)), (4, .ref ob)] := hl
  have hG : gW K A s.heap [gRLC K ad, gSvyC K (ad 10) (ad 3) (ad 53) vl vd vn vf vt ve vg vb vw, gRayU K (ad 53) (ad 54) (ad 55) (ad 56) (ad 57) (ad 3) rz zX, gScn K (ad 3) (ad 14) (ad 15) (ad 16) (ad 17) ou mi bo ln LF sn SF, gArrL K 1 ob OB] s.heap [] := hG
  refine lv_aload S.1 S.2.1 dL_slantFor_0 (lv_at hl 4 rfl) ?_
  refine g_iconst S dL_slantFor_2 ?_
  refine lv_aload_n S.1 S.2.1 dL_slantFor_3 rfl (lv_at hl 0 rfl) ?_
  refine lv_iload_n S.1 S.2.1 dL_slantFor_4 rfl (lv_at hl 1 rfl) ?_
  refine lv_iload_n S.1 S.2.1 dL_slantFor_5 rfl (lv_at hl 2 rfl) ?_
  refine lv_iload_n S.1 S.2.1 dL_slantFor_6 rfl (lv_at hl 3 rfl) ?_
  refine g_xV (E := "java/lang/IllegalArgumentException") (As := [.int (iI y), .int (iI x), .int (iI z)]) (rest := [.int (iI 0), .ref ob]) (gs' := (fun u : Unit => [gRLC K ad, gSvyC K (ad 10) (ad 3) (ad 53) vl vd vn vf vt ve vg vb vw, gRayU K (ad 53) (ad 54) (ad 55) (ad 56) (ad 57) (ad 3) rz zX, gScn K (ad 3) (ad 14) (ad 15) (ad 16) (ad 17) ou mi bo ln LF sn SF, gArrL K 1 ob OB])) S C hG [0, 1, 2, 3] (x2_slantFor l K ad ou mi bo ln LF sn SF N vl vd vn vf vt ve vg vb vw rz zX y x z hS hN hv hx hz hvw hy h1 hst) rfl rfl 0 rfl rfl (cwV 3 S.2.2.2.2 gL_slantFor_X8_slantFor rfl rfl rfl (by decide +kernel) ⟨Nat.le_of_ble_eq_true rfl, Nat.le_of_ble_eq_true rfl⟩) rfl hl.1 rfl (Nat.le_of_ble_eq_true rfl) dL_slantFor_7 ⟨Nat.le_of_ble_eq_true rfl, Nat.le_of_ble_eq_true rfl⟩ (fun _ => Nat.le_of_ble_eq_true rfl) (fun _ => rfl) (fun u q9 ce9 H locs hp hG hq9 hv9 hcl9 => ?_)
  refine g_catch (E := "java/lang/IllegalArgumentException") (st := 0) (en := 12) (hpc := 19) (ct := 19) (suf' := []) S C [(0, 12, 15, 29)] htab (List.mem_of_getElem? (l := exC) (i := 1) rfl) (List.forall_mem_cons.mpr ⟨⟨by decide, "java/lang/IndexOutOfBoundsException", (List.mem_of_getElem? (l := exC) (i := 0) rfl), by decide, (List.mem_of_getElem? (i := 1) rfl)⟩, fun _ h => absurd h List.not_mem_nil⟩) ⟨by decide, by decide⟩ (by decide) (List.mem_of_getElem? (i := 2) rfl) hq9 hv9 hcl9 ?_
  refine lv_astore (lv' := [(5, .ref q9), (0, .ref (ad 0)), (1, .int (iI y)), (2, .int (iI x)), (3, .int (iI z)), (4, .ref ob)]) S.1 S.2.1 dL_slantFor_19 hl (by decide) rfl (fun ls hl => ?_)
  refine g_iconst S dL_slantFor_21 ?_
  have hG : gW K A s.heap [gRLC K ad, gSvyC K (ad 10) (ad 3) (ad 53) vl vd vn vf vt ve vg vb vw, gRayU K (ad 53) (ad 54) (ad 55) (ad 56) (ad 57) (ad 3) rz zX, gScn K (ad 3) (ad 14) (ad 15) (ad 16) (ad 17) ou mi bo ln LF sn SF, gArrL K 1 ob OB] _ _ := hG
  exact g_iretH S hr hlk hQ dL_slantFor_22 (Nat.le_of_ble_eq_true rfl) (Nat.le_of_ble_eq_true rfl) (() : Unit) rfl hG

set_option maxHeartbeats 1000000 in
set_option maxRecDepth 100000 in
theorem c_L_fastest (l : Launch) (K : KC) (ad : Nat → Nat) (ou : Int) (mi : Int) (bo : Int) (ln : Int) (LF : Int → Int) (sn : Int) (SF : Int → Int) (N : Int → Int) (vl : Int) (vd : Int) (vn : Int) (vf : Int) (vt : Int) (ve : Int) (vg : Int) (vb : Int) (vw : Int) (rz : RU) (zX : Int → Int) (y : Int) (x : Int) (z : Int) (ob : Nat) (OB : Int → Int) (hS : ScOk N ou mi bo ln LF sn SF) (hN : NOk0 N) (hv : -2147483648 ≤ y ∧ y < 2147483648) (hx : x = 0 ∨ x = 1) (hz : -2147483648 ≤ z ∧ z < 2147483648) (hvw : -3000000000 ≤ vw ∧ vw ≤ 3000000000) (hy : 0 ≤ y ∧ y < N 0) (h1 : 0 ≤ z ∧ z ≤ 3) : mH l yL_fastest wsL_fastest 7 166 K [.ref (ad 0), .int (iI y), .int (iI x), .int (iI z), .ref ob] [gRLC K ad, gSvyC K (ad 10) (ad 3) (ad 53) vl vd vn vf vt ve vg vb vw, gRayU K (ad 53) (ad 54) (ad 55) (ad 56) (ad 57) (ad 3) rz zX, gScn K (ad 3) (ad 14) (ad 15) (ad 16) (ad 17) ou mi bo ln LF sn SF, gArrL K 1 ob OB] (fun (v : Value) (u : Int × Int × Int × Int × Int × Int × Int × Int × Int × RU × (Int → Int)) => (v = .int (iI 0)) ∧ (BestI N y x z (scG N y x 0) ((0 : Int) ≠ 2) (nX N y) u.2.2.2.2.2.2.2.1 u.2.2.2.2.2.2.2.2.1) ∧ (-3000000000 ≤ u.2.2.2.2.2.2.2.2.1 ∧ u.2.2.2.2.2.2.2.2.1 ≤ 3000000000)) (fun (u : Int × Int × Int × Int × Int × Int × Int × Int × Int × RU × (Int → Int)) => [gRLC K ad, gSvyC K (ad 10) (ad 3) (ad 53) u.1 u.2.1 u.2.2.1 u.2.2.2.1 u.2.2.2.2.1 u.2.2.2.2.2.1 u.2.2.2.2.2.2.1 u.2.2.2.2.2.2.2.1 u.2.2.2.2.2.2.2.2.1, gRayU K (ad 53) (ad 54) (ad 55) (ad 56) (ad 57) (ad 3) u.2.2.2.2.2.2.2.2.2.1 u.2.2.2.2.2.2.2.2.2.2, gScn K (ad 3) (ad 14) (ad 15) (ad 16) (ad 17) ou mi bo ln LF sn SF, gArrL K 1 ob (upI OB 0 (iI u.2.2.2.2.2.2.2.1).toInt)]) 0 0 := by
  refine mH_of cL_fastest 6 (by decide) rfl (Nat.le_of_ble_eq_true rfl) ?_
  intro p e s m below meth c A ls Q S C hG hl hr hlk hin htab hQ
  have S : CallFix p m c cL_fastest 6 s ([.ref (ad 0), .int (iI y), .int (iI x), .int (iI z), .ref ob] : List Value).toArray wsL_fastest RL := S
  have hl : lv_has ls 6 [(0, .ref (ad 0)), (1, .int (iI y)), (2, .int (iI x)), (3, .int (iI z)), (4, .ref ob)] := hl
  have hG : gW K A s.heap [gRLC K ad, gSvyC K (ad 10) (ad 3) (ad 53) vl vd vn vf vt ve vg vb vw, gRayU K (ad 53) (ad 54) (ad 55) (ad 56) (ad 57) (ad 3) rz zX, gScn K (ad 3) (ad 14) (ad 15) (ad 16) (ad 17) ou mi bo ln LF sn SF, gArrL K 1 ob OB] s.heap [] := hG
  refine lv_aload S.1 S.2.1 dL_fastest_0 (lv_at hl 4 rfl) ?_
  refine g_iconst S dL_fastest_2 ?_
  refine lv_aload_n S.1 S.2.1 dL_fastest_3 rfl (lv_at hl 0 rfl) ?_
  refine lv_iload_n S.1 S.2.1 dL_fastest_4 rfl (lv_at hl 1 rfl) ?_
  refine lv_iload_n S.1 S.2.1 dL_fastest_5 rfl (lv_at hl 2 rfl) ?_
  refine lv_iload_n S.1 S.2.1 dL_fastest_6 rfl (lv_at hl 3 rfl) ?_
  refine g_invV (As := [.int (iI y), .int (iI x), .int (iI z)]) (rest := [.int (iI 0), .ref ob]) (gs' := (fun u : Int × Int × Int × Int × Int × Int × Int × Int × Int × RU × (Int → Int) => [gRLC K ad, gSvyC K (ad 10) (ad 3) (ad 53) u.1 u.2.1 u.2.2.1 u.2.2.2.1 u.2.2.2.2.1 u.2.2.2.2.2.1 u.2.2.2.2.2.2.1 u.2.2.2.2.2.2.2.1 u.2.2.2.2.2.2.2.2.1, gRayU K (ad 53) (ad 54) (ad 55) (ad 56) (ad 57) (ad 3) u.2.2.2.2.2.2.2.2.2.1 u.2.2.2.2.2.2.2.2.2.2, gScn K (ad 3) (ad 14) (ad 15) (ad 16) (ad 17) ou mi bo ln LF sn SF, gArrL K 1 ob OB])) S C hG [0, 1, 2, 3] (c_X8_fastest l K ad ou mi bo ln LF sn SF N vl vd vn vf vt ve vg vb vw rz zX y x z hS hN hv hx hz hvw hy h1) rfl rfl 0 rfl rfl (cwV 3 S.2.2.2.2 gL_fastest_X8_fastest rfl rfl rfl (by decide +kernel) ⟨Nat.le_of_ble_eq_true rfl, Nat.le_of_ble_eq_true rfl⟩) rfl hl.1 rfl (Nat.le_of_ble_eq_true rfl) dL_fastest_7 ⟨Nat.le_of_ble_eq_true rfl, Nat.le_of_ble_eq_true rfl⟩ (fun _ => Nat.le_of_ble_eq_true rfl) (fun _ => rfl) (fun v u H locs hp hG => ?_)
  obtain ⟨vl2_7, vd2_7, vn2_7, vf2_7, vt2_7, ve2_7, vg2_7, vb2_7, vw2_7, rz2_7, zX2_7⟩ := u
  obtain ⟨rfl, hB_7, hw2_7⟩ := hp
  have hB_7 : BestI N y x z (scG N y x 0) ((0 : Int) ≠ 2) (nX N y) vb2_7 vw2_7 := hB_7
  have hw2_7 : -3000000000 ≤ vw2_7 ∧ vw2_7 ≤ 3000000000 := hw2_7
  have hG : gW K A s.heap [gRLC K ad, gSvyC K (ad 10) (ad 3) (ad 53) vl2_7 vd2_7 vn2_7 vf2_7 vt2_7 ve2_7 vg2_7 vb2_7 vw2_7, gRayU K (ad 53) (ad 54) (ad 55) (ad 56) (ad 57) (ad 3) rz2_7 zX2_7, gScn K (ad 3) (ad 14) (ad 15) (ad 16) (ad 17) ou mi bo ln LF sn SF, gArrL K 1 ob OB] _ _ := hG
  refine g_i2lr S dL_fastest_10 ?_
  refine g_last (n := 1) (gs' := [gRLC K ad, gSvyC K (ad 10) (ad 3) (ad 53) vl2_7 vd2_7 vn2_7 vf2_7 vt2_7 ve2_7 vg2_7 vb2_7 vw2_7, gRayU K (ad 53) (ad 54) (ad 55) (ad 56) (ad 57) (ad 3) rz2_7 zX2_7, gScn K (ad 3) (ad 14) (ad 15) (ad 16) (ad 17) ou mi bo ln LF sn SF, gArrL K 1 ob (upI OB 0 ((iI vb2_7).toInt))]) S C hG 12 rfl (by decide) (by decide) (by decide) rfl dL_fastest_11 (fun H locs hG => ?_)
  refine lv_goto (tgt := 23) S.1 S.2.1 dL_fastest_12 (by decide) ?_
  refine g_iconst S dL_fastest_23 ?_
  have hG : gW K A s.heap [gRLC K ad, gSvyC K (ad 10) (ad 3) (ad 53) vl2_7 vd2_7 vn2_7 vf2_7 vt2_7 ve2_7 vg2_7 vb2_7 vw2_7, gRayU K (ad 53) (ad 54) (ad 55) (ad 56) (ad 57) (ad 3) rz2_7 zX2_7, gScn K (ad 3) (ad 14) (ad 15) (ad 16) (ad 17) ou mi bo ln LF sn SF, gArrL K 1 ob (upI OB 0 (iI vb2_7).toInt)] _ _ := hG
  exact g_iretH S hr hlk hQ dL_fastest_24 (Nat.le_of_ble_eq_true rfl) (Nat.le_of_ble_eq_true rfl) ((vl2_7, vd2_7, vn2_7, vf2_7, vt2_7, ve2_7, vg2_7, vb2_7, vw2_7, rz2_7, zX2_7) : Int × Int × Int × Int × Int × Int × Int × Int × Int × RU × (Int → Int)) ⟨rfl, hB_7, hw2_7⟩ hG

set_option maxHeartbeats 1000000 in
set_option maxRecDepth 100000 in
theorem x1_L_fastest (l : Launch) (K : KC) (ad : Nat → Nat) (ou : Int) (mi : Int) (bo : Int) (ln : Int) (LF : Int → Int) (sn : Int) (SF : Int → Int) (N : Int → Int) (vl : Int) (vd : Int) (vn : Int) (vf : Int) (vt : Int) (ve : Int) (vg : Int) (vb : Int) (vw : Int) (rz : RU) (zX : Int → Int) (y : Int) (x : Int) (z : Int) (ob : Nat) (OB : Int → Int) (hS : ScOk N ou mi bo ln LF sn SF) (hN : NOk0 N) (hv : -2147483648 ≤ y ∧ y < 2147483648) (hx : x = 0 ∨ x = 1) (hz : -2147483648 ≤ z ∧ z < 2147483648) (hvw : -3000000000 ≤ vw ∧ vw ≤ 3000000000) (h0 : ¬ (0 ≤ y ∧ y < N 0)) (hst : l.stackTraces = false) : mH l yL_fastest wsL_fastest 9 148 K [.ref (ad 0), .int (iI y), .int (iI x), .int (iI z), .ref ob] [gRLC K ad, gSvyC K (ad 10) (ad 3) (ad 53) vl vd vn vf vt ve vg vb vw, gRayU K (ad 53) (ad 54) (ad 55) (ad 56) (ad 57) (ad 3) rz zX, gScn K (ad 3) (ad 14) (ad 15) (ad 16) (ad 17) ou mi bo ln LF sn SF, gArrL K 1 ob OB] (fun (v : Value) (u : Unit) => (v = .int (iI 1))) (fun (u : Unit) => [gRLC K ad, gSvyC K (ad 10) (ad 3) (ad 53) vl vd vn vf vt ve vg vb vw, gRayU K (ad 53) (ad 54) (ad 55) (ad 56) (ad 57) (ad 3) rz zX, gScn K (ad 3) (ad 14) (ad 15) (ad 16) (ad 17) ou mi bo ln LF sn SF, gArrL K 1 ob OB]) 1 6 := by
  refine mH_of cL_fastest 6 (by decide) rfl (Nat.le_of_ble_eq_true rfl) ?_
  intro p e s m below meth c A ls Q S C hG hl hr hlk hin htab hQ
  have S : CallFix p m c cL_fastest 6 s ([.ref (ad 0), .int (iI y), .int (iI x), .int (iI z), .ref ob] : List Value).toArray wsL_fastest RL := S
  have hl : lv_has ls 6 [(0, .ref (ad 0)), (1, .int (iI y)), (2, .int (iI x)), (3, .int (iI z)), (4, .ref ob)] := hl
  have hG : gW K A s.heap [gRLC K ad, gSvyC K (ad 10) (ad 3) (ad 53) vl vd vn vf vt ve vg vb vw, gRayU K (ad 53) (ad 54) (ad 55) (ad 56) (ad 57) (ad 3) rz zX, gScn K (ad 3) (ad 14) (ad 15) (ad 16) (ad 17) ou mi bo ln LF sn SF, gArrL K 1 ob OB] s.heap [] := hG
  refine lv_aload S.1 S.2.1 dL_fastest_0 (lv_at hl 4 rfl) ?_
  refine g_iconst S dL_fastest_2 ?_
  refine lv_aload_n S.1 S.2.1 dL_fastest_3 rfl (lv_at hl 0 rfl) ?_
  refine lv_iload_n S.1 S.2.1 dL_fastest_4 rfl (lv_at hl 1 rfl) ?_
  refine lv_iload_n S.1 S.2.1 dL_fastest_5 rfl (lv_at hl 2 rfl) ?_
  refine lv_iload_n S.1 S.2.1 dL_fastest_6 rfl (lv_at hl 3 rfl) ?_
  refine g_xV (E := "java/lang/IndexOutOfBoundsException") (As := [.int (iI y), .int (iI x), .int (iI z)]) (rest := [.int (iI 0), .ref ob]) (gs' := (fun u : Unit => [gRLC K ad, gSvyC K (ad 10) (ad 3) (ad 53) vl vd vn vf vt ve vg vb vw, gRayU K (ad 53) (ad 54) (ad 55) (ad 56) (ad 57) (ad 3) rz zX, gScn K (ad 3) (ad 14) (ad 15) (ad 16) (ad 17) ou mi bo ln LF sn SF, gArrL K 1 ob OB])) S C hG [0, 1, 2, 3] (x1_fastest l K ad ou mi bo ln LF sn SF N vl vd vn vf vt ve vg vb vw rz zX y x z hS hN hv hx hz hvw h0 hst) rfl rfl 0 rfl rfl (cwV 3 S.2.2.2.2 gL_fastest_X8_fastest rfl rfl rfl (by decide +kernel) ⟨Nat.le_of_ble_eq_true rfl, Nat.le_of_ble_eq_true rfl⟩) rfl hl.1 rfl (Nat.le_of_ble_eq_true rfl) dL_fastest_7 ⟨Nat.le_of_ble_eq_true rfl, Nat.le_of_ble_eq_true rfl⟩ (fun _ => Nat.le_of_ble_eq_true rfl) (fun _ => rfl) (fun u q9 ce9 H locs hp hG hq9 hv9 hcl9 => ?_)
  refine g_catch (E := "java/lang/IndexOutOfBoundsException") (st := 0) (en := 12) (hpc := 15) (ct := 29) (suf' := [(0, 12, 19, 19)]) S C [] htab (List.mem_of_getElem? (l := exC) (i := 0) rfl) (fun _ h => absurd h List.not_mem_nil) ⟨by decide, by decide⟩ (by decide) (List.mem_of_getElem? (i := 1) rfl) hq9 hv9 hcl9 ?_
  refine lv_astore (lv' := [(5, .ref q9), (0, .ref (ad 0)), (1, .int (iI y)), (2, .int (iI x)), (3, .int (iI z)), (4, .ref ob)]) S.1 S.2.1 dL_fastest_15 hl (by decide) rfl (fun ls hl => ?_)
  refine g_iconst S dL_fastest_17 ?_
  have hG : gW K A s.heap [gRLC K ad, gSvyC K (ad 10) (ad 3) (ad 53) vl vd vn vf vt ve vg vb vw, gRayU K (ad 53) (ad 54) (ad 55) (ad 56) (ad 57) (ad 3) rz zX, gScn K (ad 3) (ad 14) (ad 15) (ad 16) (ad 17) ou mi bo ln LF sn SF, gArrL K 1 ob OB] _ _ := hG
  exact g_iretH S hr hlk hQ dL_fastest_18 (Nat.le_of_ble_eq_true rfl) (Nat.le_of_ble_eq_true rfl) (() : Unit) rfl hG

set_option maxHeartbeats 1000000 in
set_option maxRecDepth 100000 in
theorem x2_L_fastest (l : Launch) (K : KC) (ad : Nat → Nat) (ou : Int) (mi : Int) (bo : Int) (ln : Int) (LF : Int → Int) (sn : Int) (SF : Int → Int) (N : Int → Int) (vl : Int) (vd : Int) (vn : Int) (vf : Int) (vt : Int) (ve : Int) (vg : Int) (vb : Int) (vw : Int) (rz : RU) (zX : Int → Int) (y : Int) (x : Int) (z : Int) (ob : Nat) (OB : Int → Int) (hS : ScOk N ou mi bo ln LF sn SF) (hN : NOk0 N) (hv : -2147483648 ≤ y ∧ y < 2147483648) (hx : x = 0 ∨ x = 1) (hz : -2147483648 ≤ z ∧ z < 2147483648) (hvw : -3000000000 ≤ vw ∧ vw ≤ 3000000000) (hy : 0 ≤ y ∧ y < N 0) (h1 : ¬ (0 ≤ z ∧ z ≤ 3)) (hst : l.stackTraces = false) : mH l yL_fastest wsL_fastest 9 149 K [.ref (ad 0), .int (iI y), .int (iI x), .int (iI z), .ref ob] [gRLC K ad, gSvyC K (ad 10) (ad 3) (ad 53) vl vd vn vf vt ve vg vb vw, gRayU K (ad 53) (ad 54) (ad 55) (ad 56) (ad 57) (ad 3) rz zX, gScn K (ad 3) (ad 14) (ad 15) (ad 16) (ad 17) ou mi bo ln LF sn SF, gArrL K 1 ob OB] (fun (v : Value) (u : Unit) => (v = .int (iI 2))) (fun (u : Unit) => [gRLC K ad, gSvyC K (ad 10) (ad 3) (ad 53) vl vd vn vf vt ve vg vb vw, gRayU K (ad 53) (ad 54) (ad 55) (ad 56) (ad 57) (ad 3) rz zX, gScn K (ad 3) (ad 14) (ad 15) (ad 16) (ad 17) ou mi bo ln LF sn SF, gArrL K 1 ob OB]) 1 6 := by
  refine mH_of cL_fastest 6 (by decide) rfl (Nat.le_of_ble_eq_true rfl) ?_
  intro p e s m below meth c A ls Q S C hG hl hr hlk hin htab hQ
  have S : CallFix p m c cL_fastest 6 s ([.ref (ad 0), .int (iI y), .int (iI x), .int (iI z), .ref ob] : List Value).toArray wsL_fastest RL := S
  have hl : lv_has ls 6 [(0, .ref (ad 0)), (1, .int (iI y)), (2, .int (iI x)), (3, .int (iI z)), (4, .ref ob)] := hl
  have hG : gW K A s.heap [gRLC K ad, gSvyC K (ad 10) (ad 3) (ad 53) vl vd vn vf vt ve vg vb vw, gRayU K (ad 53) (ad 54) (ad 55) (ad 56) (ad 57) (ad 3) rz zX, gScn K (ad 3) (ad 14) (ad 15) (ad 16) (ad 17) ou mi bo ln LF sn SF, gArrL K 1 ob OB] s.heap [] := hG
  refine lv_aload S.1 S.2.1 dL_fastest_0 (lv_at hl 4 rfl) ?_
  refine g_iconst S dL_fastest_2 ?_
  refine lv_aload_n S.1 S.2.1 dL_fastest_3 rfl (lv_at hl 0 rfl) ?_
  refine lv_iload_n S.1 S.2.1 dL_fastest_4 rfl (lv_at hl 1 rfl) ?_
  refine lv_iload_n S.1 S.2.1 dL_fastest_5 rfl (lv_at hl 2 rfl) ?_
  refine lv_iload_n S.1 S.2.1 dL_fastest_6 rfl (lv_at hl 3 rfl) ?_
  refine g_xV (E := "java/lang/IllegalArgumentException") (As := [.int (iI y), .int (iI x), .int (iI z)]) (rest := [.int (iI 0), .ref ob]) (gs' := (fun u : Unit => [gRLC K ad, gSvyC K (ad 10) (ad 3) (ad 53) vl vd vn vf vt ve vg vb vw, gRayU K (ad 53) (ad 54) (ad 55) (ad 56) (ad 57) (ad 3) rz zX, gScn K (ad 3) (ad 14) (ad 15) (ad 16) (ad 17) ou mi bo ln LF sn SF, gArrL K 1 ob OB])) S C hG [0, 1, 2, 3] (x2_fastest l K ad ou mi bo ln LF sn SF N vl vd vn vf vt ve vg vb vw rz zX y x z hS hN hv hx hz hvw hy h1 hst) rfl rfl 0 rfl rfl (cwV 3 S.2.2.2.2 gL_fastest_X8_fastest rfl rfl rfl (by decide +kernel) ⟨Nat.le_of_ble_eq_true rfl, Nat.le_of_ble_eq_true rfl⟩) rfl hl.1 rfl (Nat.le_of_ble_eq_true rfl) dL_fastest_7 ⟨Nat.le_of_ble_eq_true rfl, Nat.le_of_ble_eq_true rfl⟩ (fun _ => Nat.le_of_ble_eq_true rfl) (fun _ => rfl) (fun u q9 ce9 H locs hp hG hq9 hv9 hcl9 => ?_)
  refine g_catch (E := "java/lang/IllegalArgumentException") (st := 0) (en := 12) (hpc := 19) (ct := 19) (suf' := []) S C [(0, 12, 15, 29)] htab (List.mem_of_getElem? (l := exC) (i := 1) rfl) (List.forall_mem_cons.mpr ⟨⟨by decide, "java/lang/IndexOutOfBoundsException", (List.mem_of_getElem? (l := exC) (i := 0) rfl), by decide, (List.mem_of_getElem? (i := 1) rfl)⟩, fun _ h => absurd h List.not_mem_nil⟩) ⟨by decide, by decide⟩ (by decide) (List.mem_of_getElem? (i := 2) rfl) hq9 hv9 hcl9 ?_
  refine lv_astore (lv' := [(5, .ref q9), (0, .ref (ad 0)), (1, .int (iI y)), (2, .int (iI x)), (3, .int (iI z)), (4, .ref ob)]) S.1 S.2.1 dL_fastest_19 hl (by decide) rfl (fun ls hl => ?_)
  refine g_iconst S dL_fastest_21 ?_
  have hG : gW K A s.heap [gRLC K ad, gSvyC K (ad 10) (ad 3) (ad 53) vl vd vn vf vt ve vg vb vw, gRayU K (ad 53) (ad 54) (ad 55) (ad 56) (ad 57) (ad 3) rz zX, gScn K (ad 3) (ad 14) (ad 15) (ad 16) (ad 17) ou mi bo ln LF sn SF, gArrL K 1 ob OB] _ _ := hG
  exact g_iretH S hr hlk hQ dL_fastest_22 (Nat.le_of_ble_eq_true rfl) (Nat.le_of_ble_eq_true rfl) (() : Unit) rfl hG

set_option maxHeartbeats 1000000 in
set_option maxRecDepth 100000 in
theorem c_L_brightest (l : Launch) (K : KC) (ad : Nat → Nat) (ou : Int) (mi : Int) (bo : Int) (ln : Int) (LF : Int → Int) (sn : Int) (SF : Int → Int) (N : Int → Int) (vl : Int) (vd : Int) (vn : Int) (vf : Int) (vt : Int) (ve : Int) (vg : Int) (vb : Int) (vw : Int) (rz : RU) (zX : Int → Int) (y : Int) (x : Int) (z : Int) (ob : Nat) (OB : Int → Int) (hS : ScOk N ou mi bo ln LF sn SF) (hN : NOk0 N) (hv : -2147483648 ≤ y ∧ y < 2147483648) (hx : x = 0 ∨ x = 1) (hz : -2147483648 ≤ z ∧ z < 2147483648) (hvw : -3000000000 ≤ vw ∧ vw ≤ 3000000000) (hy : 0 ≤ y ∧ y < N 0) (h1 : 0 ≤ z ∧ z ≤ 3) : mH l yL_brightest wsL_brightest 7 166 K [.ref (ad 0), .int (iI y), .int (iI x), .int (iI z), .ref ob] [gRLC K ad, gSvyC K (ad 10) (ad 3) (ad 53) vl vd vn vf vt ve vg vb vw, gRayU K (ad 53) (ad 54) (ad 55) (ad 56) (ad 57) (ad 3) rz zX, gScn K (ad 3) (ad 14) (ad 15) (ad 16) (ad 17) ou mi bo ln LF sn SF, gArrL K 1 ob OB] (fun (v : Value) (u : Int × Int × Int × Int × Int × Int × Int × Int × Int × RU × (Int → Int)) => (v = .int (iI 0)) ∧ (BestI N y x z (scG N y x 1) ((1 : Int) ≠ 2) (nX N y) u.2.2.2.2.2.2.2.1 u.2.2.2.2.2.2.2.2.1) ∧ (-3000000000 ≤ u.2.2.2.2.2.2.2.2.1 ∧ u.2.2.2.2.2.2.2.2.1 ≤ 3000000000)) (fun (u : Int × Int × Int × Int × Int × Int × Int × Int × Int × RU × (Int → Int)) => [gRLC K ad, gSvyC K (ad 10) (ad 3) (ad 53) u.1 u.2.1 u.2.2.1 u.2.2.2.1 u.2.2.2.2.1 u.2.2.2.2.2.1 u.2.2.2.2.2.2.1 u.2.2.2.2.2.2.2.1 u.2.2.2.2.2.2.2.2.1, gRayU K (ad 53) (ad 54) (ad 55) (ad 56) (ad 57) (ad 3) u.2.2.2.2.2.2.2.2.2.1 u.2.2.2.2.2.2.2.2.2.2, gScn K (ad 3) (ad 14) (ad 15) (ad 16) (ad 17) ou mi bo ln LF sn SF, gArrL K 1 ob (upI OB 0 (iI u.2.2.2.2.2.2.2.1).toInt)]) 0 0 := by
  refine mH_of cL_brightest 6 (by decide) rfl (Nat.le_of_ble_eq_true rfl) ?_
  intro p e s m below meth c A ls Q S C hG hl hr hlk hin htab hQ
  have S : CallFix p m c cL_brightest 6 s ([.ref (ad 0), .int (iI y), .int (iI x), .int (iI z), .ref ob] : List Value).toArray wsL_brightest RL := S
  have hl : lv_has ls 6 [(0, .ref (ad 0)), (1, .int (iI y)), (2, .int (iI x)), (3, .int (iI z)), (4, .ref ob)] := hl
  have hG : gW K A s.heap [gRLC K ad, gSvyC K (ad 10) (ad 3) (ad 53) vl vd vn vf vt ve vg vb vw, gRayU K (ad 53) (ad 54) (ad 55) (ad 56) (ad 57) (ad 3) rz zX, gScn K (ad 3) (ad 14) (ad 15) (ad 16) (ad 17) ou mi bo ln LF sn SF, gArrL K 1 ob OB] s.heap [] := hG
  refine lv_aload S.1 S.2.1 dL_brightest_0 (lv_at hl 4 rfl) ?_
  refine g_iconst S dL_brightest_2 ?_
  refine lv_aload_n S.1 S.2.1 dL_brightest_3 rfl (lv_at hl 0 rfl) ?_
  refine lv_iload_n S.1 S.2.1 dL_brightest_4 rfl (lv_at hl 1 rfl) ?_
  refine lv_iload_n S.1 S.2.1 dL_brightest_5 rfl (lv_at hl 2 rfl) ?_
  refine lv_iload_n S.1 S.2.1 dL_brightest_6 rfl (lv_at hl 3 rfl) ?_
  refine g_invV (As := [.int (iI y), .int (iI x), .int (iI z)]) (rest := [.int (iI 0), .ref ob]) (gs' := (fun u : Int × Int × Int × Int × Int × Int × Int × Int × Int × RU × (Int → Int) => [gRLC K ad, gSvyC K (ad 10) (ad 3) (ad 53) u.1 u.2.1 u.2.2.1 u.2.2.2.1 u.2.2.2.2.1 u.2.2.2.2.2.1 u.2.2.2.2.2.2.1 u.2.2.2.2.2.2.2.1 u.2.2.2.2.2.2.2.2.1, gRayU K (ad 53) (ad 54) (ad 55) (ad 56) (ad 57) (ad 3) u.2.2.2.2.2.2.2.2.2.1 u.2.2.2.2.2.2.2.2.2.2, gScn K (ad 3) (ad 14) (ad 15) (ad 16) (ad 17) ou mi bo ln LF sn SF, gArrL K 1 ob OB])) S C hG [0, 1, 2, 3] (c_X8_brightest l K ad ou mi bo ln LF sn SF N vl vd vn vf vt ve vg vb vw rz zX y x z hS hN hv hx hz hvw hy h1) rfl rfl 0 rfl rfl (cwV 3 S.2.2.2.2 gL_brightest_X8_brightest rfl rfl rfl (by decide +kernel) ⟨Nat.le_of_ble_eq_true rfl, Nat.le_of_ble_eq_true rfl⟩) rfl hl.1 rfl (Nat.le_of_ble_eq_true rfl) dL_brightest_7 ⟨Nat.le_of_ble_eq_true rfl, Nat.le_of_ble_eq_true rfl⟩ (fun _ => Nat.le_of_ble_eq_true rfl) (fun _ => rfl) (fun v u H locs hp hG => ?_)
  obtain ⟨vl2_7, vd2_7, vn2_7, vf2_7, vt2_7, ve2_7, vg2_7, vb2_7, vw2_7, rz2_7, zX2_7⟩ := u
  obtain ⟨rfl, hB_7, hw2_7⟩ := hp
  have hB_7 : BestI N y x z (scG N y x 1) ((1 : Int) ≠ 2) (nX N y) vb2_7 vw2_7 := hB_7
  have hw2_7 : -3000000000 ≤ vw2_7 ∧ vw2_7 ≤ 3000000000 := hw2_7
  have hG : gW K A s.heap [gRLC K ad, gSvyC K (ad 10) (ad 3) (ad 53) vl2_7 vd2_7 vn2_7 vf2_7 vt2_7 ve2_7 vg2_7 vb2_7 vw2_7, gRayU K (ad 53) (ad 54) (ad 55) (ad 56) (ad 57) (ad 3) rz2_7 zX2_7, gScn K (ad 3) (ad 14) (ad 15) (ad 16) (ad 17) ou mi bo ln LF sn SF, gArrL K 1 ob OB] _ _ := hG
  refine g_i2lr S dL_brightest_10 ?_
  refine g_last (n := 1) (gs' := [gRLC K ad, gSvyC K (ad 10) (ad 3) (ad 53) vl2_7 vd2_7 vn2_7 vf2_7 vt2_7 ve2_7 vg2_7 vb2_7 vw2_7, gRayU K (ad 53) (ad 54) (ad 55) (ad 56) (ad 57) (ad 3) rz2_7 zX2_7, gScn K (ad 3) (ad 14) (ad 15) (ad 16) (ad 17) ou mi bo ln LF sn SF, gArrL K 1 ob (upI OB 0 ((iI vb2_7).toInt))]) S C hG 12 rfl (by decide) (by decide) (by decide) rfl dL_brightest_11 (fun H locs hG => ?_)
  refine lv_goto (tgt := 23) S.1 S.2.1 dL_brightest_12 (by decide) ?_
  refine g_iconst S dL_brightest_23 ?_
  have hG : gW K A s.heap [gRLC K ad, gSvyC K (ad 10) (ad 3) (ad 53) vl2_7 vd2_7 vn2_7 vf2_7 vt2_7 ve2_7 vg2_7 vb2_7 vw2_7, gRayU K (ad 53) (ad 54) (ad 55) (ad 56) (ad 57) (ad 3) rz2_7 zX2_7, gScn K (ad 3) (ad 14) (ad 15) (ad 16) (ad 17) ou mi bo ln LF sn SF, gArrL K 1 ob (upI OB 0 (iI vb2_7).toInt)] _ _ := hG
  exact g_iretH S hr hlk hQ dL_brightest_24 (Nat.le_of_ble_eq_true rfl) (Nat.le_of_ble_eq_true rfl) ((vl2_7, vd2_7, vn2_7, vf2_7, vt2_7, ve2_7, vg2_7, vb2_7, vw2_7, rz2_7, zX2_7) : Int × Int × Int × Int × Int × Int × Int × Int × Int × RU × (Int → Int)) ⟨rfl, hB_7, hw2_7⟩ hG

set_option maxHeartbeats 1000000 in
set_option maxRecDepth 100000 in
theorem x1_L_brightest (l : Launch) (K : KC) (ad : Nat → Nat) (ou : Int) (mi : Int) (bo : Int) (ln : Int) (LF : Int → Int) (sn : Int) (SF : Int → Int) (N : Int → Int) (vl : Int) (vd : Int) (vn : Int) (vf : Int) (vt : Int) (ve : Int) (vg : Int) (vb : Int) (vw : Int) (rz : RU) (zX : Int → Int) (y : Int) (x : Int) (z : Int) (ob : Nat) (OB : Int → Int) (hS : ScOk N ou mi bo ln LF sn SF) (hN : NOk0 N) (hv : -2147483648 ≤ y ∧ y < 2147483648) (hx : x = 0 ∨ x = 1) (hz : -2147483648 ≤ z ∧ z < 2147483648) (hvw : -3000000000 ≤ vw ∧ vw ≤ 3000000000) (h0 : ¬ (0 ≤ y ∧ y < N 0)) (hst : l.stackTraces = false) : mH l yL_brightest wsL_brightest 9 148 K [.ref (ad 0), .int (iI y), .int (iI x), .int (iI z), .ref ob] [gRLC K ad, gSvyC K (ad 10) (ad 3) (ad 53) vl vd vn vf vt ve vg vb vw, gRayU K (ad 53) (ad 54) (ad 55) (ad 56) (ad 57) (ad 3) rz zX, gScn K (ad 3) (ad 14) (ad 15) (ad 16) (ad 17) ou mi bo ln LF sn SF, gArrL K 1 ob OB] (fun (v : Value) (u : Unit) => (v = .int (iI 1))) (fun (u : Unit) => [gRLC K ad, gSvyC K (ad 10) (ad 3) (ad 53) vl vd vn vf vt ve vg vb vw, gRayU K (ad 53) (ad 54) (ad 55) (ad 56) (ad 57) (ad 3) rz zX, gScn K (ad 3) (ad 14) (ad 15) (ad 16) (ad 17) ou mi bo ln LF sn SF, gArrL K 1 ob OB]) 1 6 := by
  refine mH_of cL_brightest 6 (by decide) rfl (Nat.le_of_ble_eq_true rfl) ?_
  intro p e s m below meth c A ls Q S C hG hl hr hlk hin htab hQ
  have S : CallFix p m c cL_brightest 6 s ([.ref (ad 0), .int (iI y), .int (iI x), .int (iI z), .ref ob] : List Value).toArray wsL_brightest RL := S
  have hl : lv_has ls 6 [(0, .ref (ad 0)), (1, .int (iI y)), (2, .int (iI x)), (3, .int (iI z)), (4, .ref ob)] := hl
  have hG : gW K A s.heap [gRLC K ad, gSvyC K (ad 10) (ad 3) (ad 53) vl vd vn vf vt ve vg vb vw, gRayU K (ad 53) (ad 54) (ad 55) (ad 56) (ad 57) (ad 3) rz zX, gScn K (ad 3) (ad 14) (ad 15) (ad 16) (ad 17) ou mi bo ln LF sn SF, gArrL K 1 ob OB] s.heap [] := hG
  refine lv_aload S.1 S.2.1 dL_brightest_0 (lv_at hl 4 rfl) ?_
  refine g_iconst S dL_brightest_2 ?_
  refine lv_aload_n S.1 S.2.1 dL_brightest_3 rfl (lv_at hl 0 rfl) ?_
  refine lv_iload_n S.1 S.2.1 dL_brightest_4 rfl (lv_at hl 1 rfl) ?_
  refine lv_iload_n S.1 S.2.1 dL_brightest_5 rfl (lv_at hl 2 rfl) ?_
  refine lv_iload_n S.1 S.2.1 dL_brightest_6 rfl (lv_at hl 3 rfl) ?_
  refine g_xV (E := "java/lang/IndexOutOfBoundsException") (As := [.int (iI y), .int (iI x), .int (iI z)]) (rest := [.int (iI 0), .ref ob]) (gs' := (fun u : Unit => [gRLC K ad, gSvyC K (ad 10) (ad 3) (ad 53) vl vd vn vf vt ve vg vb vw, gRayU K (ad 53) (ad 54) (ad 55) (ad 56) (ad 57) (ad 3) rz zX, gScn K (ad 3) (ad 14) (ad 15) (ad 16) (ad 17) ou mi bo ln LF sn SF, gArrL K 1 ob OB])) S C hG [0, 1, 2, 3] (x1_brightest l K ad ou mi bo ln LF sn SF N vl vd vn vf vt ve vg vb vw rz zX y x z hS hN hv hx hz hvw h0 hst) rfl rfl 0 rfl rfl (cwV 3 S.2.2.2.2 gL_brightest_X8_brightest rfl rfl rfl (by decide +kernel) ⟨Nat.le_of_ble_eq_true rfl, Nat.le_of_ble_eq_true rfl⟩) rfl hl.1 rfl (Nat.le_of_ble_eq_true rfl) dL_brightest_7 ⟨Nat.le_of_ble_eq_true rfl, Nat.le_of_ble_eq_true rfl⟩ (fun _ => Nat.le_of_ble_eq_true rfl) (fun _ => rfl) (fun u q9 ce9 H locs hp hG hq9 hv9 hcl9 => ?_)
  refine g_catch (E := "java/lang/IndexOutOfBoundsException") (st := 0) (en := 12) (hpc := 15) (ct := 29) (suf' := [(0, 12, 19, 19)]) S C [] htab (List.mem_of_getElem? (l := exC) (i := 0) rfl) (fun _ h => absurd h List.not_mem_nil) ⟨by decide, by decide⟩ (by decide) (List.mem_of_getElem? (i := 1) rfl) hq9 hv9 hcl9 ?_
  refine lv_astore (lv' := [(5, .ref q9), (0, .ref (ad 0)), (1, .int (iI y)), (2, .int (iI x)), (3, .int (iI z)), (4, .ref ob)]) S.1 S.2.1 dL_brightest_15 hl (by decide) rfl (fun ls hl => ?_)
  refine g_iconst S dL_brightest_17 ?_
  have hG : gW K A s.heap [gRLC K ad, gSvyC K (ad 10) (ad 3) (ad 53) vl vd vn vf vt ve vg vb vw, gRayU K (ad 53) (ad 54) (ad 55) (ad 56) (ad 57) (ad 3) rz zX, gScn K (ad 3) (ad 14) (ad 15) (ad 16) (ad 17) ou mi bo ln LF sn SF, gArrL K 1 ob OB] _ _ := hG
  exact g_iretH S hr hlk hQ dL_brightest_18 (Nat.le_of_ble_eq_true rfl) (Nat.le_of_ble_eq_true rfl) (() : Unit) rfl hG

set_option maxHeartbeats 1000000 in
set_option maxRecDepth 100000 in
theorem x2_L_brightest (l : Launch) (K : KC) (ad : Nat → Nat) (ou : Int) (mi : Int) (bo : Int) (ln : Int) (LF : Int → Int) (sn : Int) (SF : Int → Int) (N : Int → Int) (vl : Int) (vd : Int) (vn : Int) (vf : Int) (vt : Int) (ve : Int) (vg : Int) (vb : Int) (vw : Int) (rz : RU) (zX : Int → Int) (y : Int) (x : Int) (z : Int) (ob : Nat) (OB : Int → Int) (hS : ScOk N ou mi bo ln LF sn SF) (hN : NOk0 N) (hv : -2147483648 ≤ y ∧ y < 2147483648) (hx : x = 0 ∨ x = 1) (hz : -2147483648 ≤ z ∧ z < 2147483648) (hvw : -3000000000 ≤ vw ∧ vw ≤ 3000000000) (hy : 0 ≤ y ∧ y < N 0) (h1 : ¬ (0 ≤ z ∧ z ≤ 3)) (hst : l.stackTraces = false) : mH l yL_brightest wsL_brightest 9 149 K [.ref (ad 0), .int (iI y), .int (iI x), .int (iI z), .ref ob] [gRLC K ad, gSvyC K (ad 10) (ad 3) (ad 53) vl vd vn vf vt ve vg vb vw, gRayU K (ad 53) (ad 54) (ad 55) (ad 56) (ad 57) (ad 3) rz zX, gScn K (ad 3) (ad 14) (ad 15) (ad 16) (ad 17) ou mi bo ln LF sn SF, gArrL K 1 ob OB] (fun (v : Value) (u : Unit) => (v = .int (iI 2))) (fun (u : Unit) => [gRLC K ad, gSvyC K (ad 10) (ad 3) (ad 53) vl vd vn vf vt ve vg vb vw, gRayU K (ad 53) (ad 54) (ad 55) (ad 56) (ad 57) (ad 3) rz zX, gScn K (ad 3) (ad 14) (ad 15) (ad 16) (ad 17) ou mi bo ln LF sn SF, gArrL K 1 ob OB]) 1 6 := by
  refine mH_of cL_brightest 6 (by decide) rfl (Nat.le_of_ble_eq_true rfl) ?_
  intro p e s m below meth c A ls Q S C hG hl hr hlk hin htab hQ
  have S : CallFix p m c cL_brightest 6 s ([.ref (ad 0), .int (iI y), .int (iI x), .int (iI z), .ref ob] : List Value).toArray wsL_brightest RL := S
  have hl : lv_has ls 6 [(0, .ref (ad 0)), (1, .int (iI y)), (2, .int (iI x)), (3, .int (iI z)), (4, .ref ob)] := hl
  have hG : gW K A s.heap [gRLC K ad, gSvyC K (ad 10) (ad 3) (ad 53) vl vd vn vf vt ve vg vb vw, gRayU K (ad 53) (ad 54) (ad 55) (ad 56) (ad 57) (ad 3) rz zX, gScn K (ad 3) (ad 14) (ad 15) (ad 16) (ad 17) ou mi bo ln LF sn SF, gArrL K 1 ob OB] s.heap [] := hG
  refine lv_aload S.1 S.2.1 dL_brightest_0 (lv_at hl 4 rfl) ?_
  refine g_iconst S dL_brightest_2 ?_
  refine lv_aload_n S.1 S.2.1 dL_brightest_3 rfl (lv_at hl 0 rfl) ?_
  refine lv_iload_n S.1 S.2.1 dL_brightest_4 rfl (lv_at hl 1 rfl) ?_
  refine lv_iload_n S.1 S.2.1 dL_brightest_5 rfl (lv_at hl 2 rfl) ?_
  refine lv_iload_n S.1 S.2.1 dL_brightest_6 rfl (lv_at hl 3 rfl) ?_
  refine g_xV (E := "java/lang/IllegalArgumentException") (As := [.int (iI y), .int (iI x), .int (iI z)]) (rest := [.int (iI 0), .ref ob]) (gs' := (fun u : Unit => [gRLC K ad, gSvyC K (ad 10) (ad 3) (ad 53) vl vd vn vf vt ve vg vb vw, gRayU K (ad 53) (ad 54) (ad 55) (ad 56) (ad 57) (ad 3) rz zX, gScn K (ad 3) (ad 14) (ad 15) (ad 16) (ad 17) ou mi bo ln LF sn SF, gArrL K 1 ob OB])) S C hG [0, 1, 2, 3] (x2_brightest l K ad ou mi bo ln LF sn SF N vl vd vn vf vt ve vg vb vw rz zX y x z hS hN hv hx hz hvw hy h1 hst) rfl rfl 0 rfl rfl (cwV 3 S.2.2.2.2 gL_brightest_X8_brightest rfl rfl rfl (by decide +kernel) ⟨Nat.le_of_ble_eq_true rfl, Nat.le_of_ble_eq_true rfl⟩) rfl hl.1 rfl (Nat.le_of_ble_eq_true rfl) dL_brightest_7 ⟨Nat.le_of_ble_eq_true rfl, Nat.le_of_ble_eq_true rfl⟩ (fun _ => Nat.le_of_ble_eq_true rfl) (fun _ => rfl) (fun u q9 ce9 H locs hp hG hq9 hv9 hcl9 => ?_)
  refine g_catch (E := "java/lang/IllegalArgumentException") (st := 0) (en := 12) (hpc := 19) (ct := 19) (suf' := []) S C [(0, 12, 15, 29)] htab (List.mem_of_getElem? (l := exC) (i := 1) rfl) (List.forall_mem_cons.mpr ⟨⟨by decide, "java/lang/IndexOutOfBoundsException", (List.mem_of_getElem? (l := exC) (i := 0) rfl), by decide, (List.mem_of_getElem? (i := 1) rfl)⟩, fun _ h => absurd h List.not_mem_nil⟩) ⟨by decide, by decide⟩ (by decide) (List.mem_of_getElem? (i := 2) rfl) hq9 hv9 hcl9 ?_
  refine lv_astore (lv' := [(5, .ref q9), (0, .ref (ad 0)), (1, .int (iI y)), (2, .int (iI x)), (3, .int (iI z)), (4, .ref ob)]) S.1 S.2.1 dL_brightest_19 hl (by decide) rfl (fun ls hl => ?_)
  refine g_iconst S dL_brightest_21 ?_
  have hG : gW K A s.heap [gRLC K ad, gSvyC K (ad 10) (ad 3) (ad 53) vl vd vn vf vt ve vg vb vw, gRayU K (ad 53) (ad 54) (ad 55) (ad 56) (ad 57) (ad 3) rz zX, gScn K (ad 3) (ad 14) (ad 15) (ad 16) (ad 17) ou mi bo ln LF sn SF, gArrL K 1 ob OB] _ _ := hG
  exact g_iretH S hr hlk hQ dL_brightest_22 (Nat.le_of_ble_eq_true rfl) (Nat.le_of_ble_eq_true rfl) (() : Unit) rfl hG

set_option maxHeartbeats 1000000 in
set_option maxRecDepth 100000 in
theorem c_L_farthest (l : Launch) (K : KC) (ad : Nat → Nat) (ou : Int) (mi : Int) (bo : Int) (ln : Int) (LF : Int → Int) (sn : Int) (SF : Int → Int) (N : Int → Int) (vl : Int) (vd : Int) (vn : Int) (vf : Int) (vt : Int) (ve : Int) (vg : Int) (vb : Int) (vw : Int) (rz : RU) (zX : Int → Int) (y : Int) (x : Int) (z : Int) (ob : Nat) (OB : Int → Int) (hS : ScOk N ou mi bo ln LF sn SF) (hN : NOk0 N) (hv : -2147483648 ≤ y ∧ y < 2147483648) (hx : x = 0 ∨ x = 1) (hz : -2147483648 ≤ z ∧ z < 2147483648) (hvw : -3000000000 ≤ vw ∧ vw ≤ 3000000000) (hy : 0 ≤ y ∧ y < N 0) (h1 : 0 ≤ z ∧ z ≤ 3) : mH l yL_farthest wsL_farthest 7 166 K [.ref (ad 0), .int (iI y), .int (iI x), .int (iI z), .ref ob] [gRLC K ad, gSvyC K (ad 10) (ad 3) (ad 53) vl vd vn vf vt ve vg vb vw, gRayU K (ad 53) (ad 54) (ad 55) (ad 56) (ad 57) (ad 3) rz zX, gScn K (ad 3) (ad 14) (ad 15) (ad 16) (ad 17) ou mi bo ln LF sn SF, gArrL K 1 ob OB] (fun (v : Value) (u : Int × Int × Int × Int × Int × Int × Int × Int × Int × RU × (Int → Int)) => (v = .int (iI 0)) ∧ (BestI N y x z (scG N y x 2) ((2 : Int) ≠ 2) (nX N y) u.2.2.2.2.2.2.2.1 u.2.2.2.2.2.2.2.2.1) ∧ (-3000000000 ≤ u.2.2.2.2.2.2.2.2.1 ∧ u.2.2.2.2.2.2.2.2.1 ≤ 3000000000)) (fun (u : Int × Int × Int × Int × Int × Int × Int × Int × Int × RU × (Int → Int)) => [gRLC K ad, gSvyC K (ad 10) (ad 3) (ad 53) u.1 u.2.1 u.2.2.1 u.2.2.2.1 u.2.2.2.2.1 u.2.2.2.2.2.1 u.2.2.2.2.2.2.1 u.2.2.2.2.2.2.2.1 u.2.2.2.2.2.2.2.2.1, gRayU K (ad 53) (ad 54) (ad 55) (ad 56) (ad 57) (ad 3) u.2.2.2.2.2.2.2.2.2.1 u.2.2.2.2.2.2.2.2.2.2, gScn K (ad 3) (ad 14) (ad 15) (ad 16) (ad 17) ou mi bo ln LF sn SF, gArrL K 1 ob (upI OB 0 (iI (if u.2.2.2.2.2.2.2.1 = -1 then -1 else u.2.2.2.2.2.2.2.2.1)).toInt)]) 0 0 := by
  refine mH_of cL_farthest 6 (by decide) rfl (Nat.le_of_ble_eq_true rfl) ?_
  intro p e s m below meth c A ls Q S C hG hl hr hlk hin htab hQ
  have S : CallFix p m c cL_farthest 6 s ([.ref (ad 0), .int (iI y), .int (iI x), .int (iI z), .ref ob] : List Value).toArray wsL_farthest RL := S
  have hl : lv_has ls 6 [(0, .ref (ad 0)), (1, .int (iI y)), (2, .int (iI x)), (3, .int (iI z)), (4, .ref ob)] := hl
  have hG : gW K A s.heap [gRLC K ad, gSvyC K (ad 10) (ad 3) (ad 53) vl vd vn vf vt ve vg vb vw, gRayU K (ad 53) (ad 54) (ad 55) (ad 56) (ad 57) (ad 3) rz zX, gScn K (ad 3) (ad 14) (ad 15) (ad 16) (ad 17) ou mi bo ln LF sn SF, gArrL K 1 ob OB] s.heap [] := hG
  refine lv_aload S.1 S.2.1 dL_farthest_0 (lv_at hl 4 rfl) ?_
  refine g_iconst S dL_farthest_2 ?_
  refine lv_aload_n S.1 S.2.1 dL_farthest_3 rfl (lv_at hl 0 rfl) ?_
  refine lv_iload_n S.1 S.2.1 dL_farthest_4 rfl (lv_at hl 1 rfl) ?_
  refine lv_iload_n S.1 S.2.1 dL_farthest_5 rfl (lv_at hl 2 rfl) ?_
  refine lv_iload_n S.1 S.2.1 dL_farthest_6 rfl (lv_at hl 3 rfl) ?_
  refine g_invV (As := [.int (iI y), .int (iI x), .int (iI z)]) (rest := [.int (iI 0), .ref ob]) (gs' := (fun u : Int × Int × Int × Int × Int × Int × Int × Int × Int × RU × (Int → Int) => [gRLC K ad, gSvyC K (ad 10) (ad 3) (ad 53) u.1 u.2.1 u.2.2.1 u.2.2.2.1 u.2.2.2.2.1 u.2.2.2.2.2.1 u.2.2.2.2.2.2.1 u.2.2.2.2.2.2.2.1 u.2.2.2.2.2.2.2.2.1, gRayU K (ad 53) (ad 54) (ad 55) (ad 56) (ad 57) (ad 3) u.2.2.2.2.2.2.2.2.2.1 u.2.2.2.2.2.2.2.2.2.2, gScn K (ad 3) (ad 14) (ad 15) (ad 16) (ad 17) ou mi bo ln LF sn SF, gArrL K 1 ob OB])) S C hG [0, 1, 2, 3] (c_X8_farthest l K ad ou mi bo ln LF sn SF N vl vd vn vf vt ve vg vb vw rz zX y x z hS hN hv hx hz hvw hy h1) rfl rfl 0 rfl rfl (cwV 3 S.2.2.2.2 gL_farthest_X8_farthest rfl rfl rfl (by decide +kernel) ⟨Nat.le_of_ble_eq_true rfl, Nat.le_of_ble_eq_true rfl⟩) rfl hl.1 rfl (Nat.le_of_ble_eq_true rfl) dL_farthest_7 ⟨Nat.le_of_ble_eq_true rfl, Nat.le_of_ble_eq_true rfl⟩ (fun _ => Nat.le_of_ble_eq_true rfl) (fun _ => rfl) (fun v u H locs hp hG => ?_)
  obtain ⟨vl2_7, vd2_7, vn2_7, vf2_7, vt2_7, ve2_7, vg2_7, vb2_7, vw2_7, rz2_7, zX2_7⟩ := u
  obtain ⟨rfl, hB_7, hw2_7⟩ := hp
  have hB_7 : BestI N y x z (scG N y x 2) ((2 : Int) ≠ 2) (nX N y) vb2_7 vw2_7 := hB_7
  have hw2_7 : -3000000000 ≤ vw2_7 ∧ vw2_7 ≤ 3000000000 := hw2_7
  have hG : gW K A s.heap [gRLC K ad, gSvyC K (ad 10) (ad 3) (ad 53) vl2_7 vd2_7 vn2_7 vf2_7 vt2_7 ve2_7 vg2_7 vb2_7 vw2_7, gRayU K (ad 53) (ad 54) (ad 55) (ad 56) (ad 57) (ad 3) rz2_7 zX2_7, gScn K (ad 3) (ad 14) (ad 15) (ad 16) (ad 17) ou mi bo ln LF sn SF, gArrL K 1 ob OB] _ _ := hG
  refine g_i2lr S dL_farthest_10 ?_
  refine g_last (n := 1) (gs' := [gRLC K ad, gSvyC K (ad 10) (ad 3) (ad 53) vl2_7 vd2_7 vn2_7 vf2_7 vt2_7 ve2_7 vg2_7 vb2_7 vw2_7, gRayU K (ad 53) (ad 54) (ad 55) (ad 56) (ad 57) (ad 3) rz2_7 zX2_7, gScn K (ad 3) (ad 14) (ad 15) (ad 16) (ad 17) ou mi bo ln LF sn SF, gArrL K 1 ob (upI OB 0 ((iI (if vb2_7 = -1 then -1 else vw2_7)).toInt))]) S C hG 12 rfl (by decide) (by decide) (by decide) rfl dL_farthest_11 (fun H locs hG => ?_)
  refine lv_goto (tgt := 23) S.1 S.2.1 dL_farthest_12 (by decide) ?_
  refine g_iconst S dL_farthest_23 ?_
  have hG : gW K A s.heap [gRLC K ad, gSvyC K (ad 10) (ad 3) (ad 53) vl2_7 vd2_7 vn2_7 vf2_7 vt2_7 ve2_7 vg2_7 vb2_7 vw2_7, gRayU K (ad 53) (ad 54) (ad 55) (ad 56) (ad 57) (ad 3) rz2_7 zX2_7, gScn K (ad 3) (ad 14) (ad 15) (ad 16) (ad 17) ou mi bo ln LF sn SF, gArrL K 1 ob (upI OB 0 (iI (if vb2_7 = -1 then -1 else vw2_7)).toInt)] _ _ := hG
  exact g_iretH S hr hlk hQ dL_farthest_24 (Nat.le_of_ble_eq_true rfl) (Nat.le_of_ble_eq_true rfl) ((vl2_7, vd2_7, vn2_7, vf2_7, vt2_7, ve2_7, vg2_7, vb2_7, vw2_7, rz2_7, zX2_7) : Int × Int × Int × Int × Int × Int × Int × Int × Int × RU × (Int → Int)) ⟨rfl, hB_7, hw2_7⟩ hG

set_option maxHeartbeats 1000000 in
set_option maxRecDepth 100000 in
theorem x1_L_farthest (l : Launch) (K : KC) (ad : Nat → Nat) (ou : Int) (mi : Int) (bo : Int) (ln : Int) (LF : Int → Int) (sn : Int) (SF : Int → Int) (N : Int → Int) (vl : Int) (vd : Int) (vn : Int) (vf : Int) (vt : Int) (ve : Int) (vg : Int) (vb : Int) (vw : Int) (rz : RU) (zX : Int → Int) (y : Int) (x : Int) (z : Int) (ob : Nat) (OB : Int → Int) (hS : ScOk N ou mi bo ln LF sn SF) (hN : NOk0 N) (hv : -2147483648 ≤ y ∧ y < 2147483648) (hx : x = 0 ∨ x = 1) (hz : -2147483648 ≤ z ∧ z < 2147483648) (hvw : -3000000000 ≤ vw ∧ vw ≤ 3000000000) (h0 : ¬ (0 ≤ y ∧ y < N 0)) (hst : l.stackTraces = false) : mH l yL_farthest wsL_farthest 9 148 K [.ref (ad 0), .int (iI y), .int (iI x), .int (iI z), .ref ob] [gRLC K ad, gSvyC K (ad 10) (ad 3) (ad 53) vl vd vn vf vt ve vg vb vw, gRayU K (ad 53) (ad 54) (ad 55) (ad 56) (ad 57) (ad 3) rz zX, gScn K (ad 3) (ad 14) (ad 15) (ad 16) (ad 17) ou mi bo ln LF sn SF, gArrL K 1 ob OB] (fun (v : Value) (u : Unit) => (v = .int (iI 1))) (fun (u : Unit) => [gRLC K ad, gSvyC K (ad 10) (ad 3) (ad 53) vl vd vn vf vt ve vg vb vw, gRayU K (ad 53) (ad 54) (ad 55) (ad 56) (ad 57) (ad 3) rz zX, gScn K (ad 3) (ad 14) (ad 15) (ad 16) (ad 17) ou mi bo ln LF sn SF, gArrL K 1 ob OB]) 1 6 := by
  refine mH_of cL_farthest 6 (by decide) rfl (Nat.le_of_ble_eq_true rfl) ?_
  intro p e s m below meth c A ls Q S C hG hl hr hlk hin htab hQ
  have S : CallFix p m c cL_farthest 6 s ([.ref (ad 0), .int (iI y), .int (iI x), .int (iI z), .ref ob] : List Value).toArray wsL_farthest RL := S
  have hl : lv_has ls 6 [(0, .ref (ad 0)), (1, .int (iI y)), (2, .int (iI x)), (3, .int (iI z)), (4, .ref ob)] := hl
  have hG : gW K A s.heap [gRLC K ad, gSvyC K (ad 10) (ad 3) (ad 53) vl vd vn vf vt ve vg vb vw, gRayU K (ad 53) (ad 54) (ad 55) (ad 56) (ad 57) (ad 3) rz zX, gScn K (ad 3) (ad 14) (ad 15) (ad 16) (ad 17) ou mi bo ln LF sn SF, gArrL K 1 ob OB] s.heap [] := hG
  refine lv_aload S.1 S.2.1 dL_farthest_0 (lv_at hl 4 rfl) ?_
  refine g_iconst S dL_farthest_2 ?_
  refine lv_aload_n S.1 S.2.1 dL_farthest_3 rfl (lv_at hl 0 rfl) ?_
  refine lv_iload_n S.1 S.2.1 dL_farthest_4 rfl (lv_at hl 1 rfl) ?_
  refine lv_iload_n S.1 S.2.1 dL_farthest_5 rfl (lv_at hl 2 rfl) ?_
  refine lv_iload_n S.1 S.2.1 dL_farthest_6 rfl (lv_at hl 3 rfl) ?_
  refine g_xV (E := "java/lang/IndexOutOfBoundsException") (As := [.int (iI y), .int (iI x), .int (iI z)]) (rest := [.int (iI 0), .ref ob]) (gs' := (fun u : Unit => [gRLC K ad, gSvyC K (ad 10) (ad 3) (ad 53) vl vd vn vf vt ve vg vb vw, gRayU K (ad 53) (ad 54) (ad 55) (ad 56) (ad 57) (ad 3) rz zX, gScn K (ad 3) (ad 14) (ad 15) (ad 16) (ad 17) ou mi bo ln LF sn SF, gArrL K 1 ob OB])) S C hG [0, 1, 2, 3] (x1_farthest l K ad ou mi bo ln LF sn SF N vl vd vn vf vt ve vg vb vw rz zX y x z hS hN hv hx hz hvw h0 hst) rfl rfl 0 rfl rfl (cwV 3 S.2.2.2.2 gL_farthest_X8_farthest rfl rfl rfl (by decide +kernel) ⟨Nat.le_of_ble_eq_true rfl, Nat.le_of_ble_eq_true rfl⟩) rfl hl.1 rfl (Nat.le_of_ble_eq_true rfl) dL_farthest_7 ⟨Nat.le_of_ble_eq_true rfl, Nat.le_of_ble_eq_true rfl⟩ (fun _ => Nat.le_of_ble_eq_true rfl) (fun _ => rfl) (fun u q9 ce9 H locs hp hG hq9 hv9 hcl9 => ?_)
  refine g_catch (E := "java/lang/IndexOutOfBoundsException") (st := 0) (en := 12) (hpc := 15) (ct := 29) (suf' := [(0, 12, 19, 19)]) S C [] htab (List.mem_of_getElem? (l := exC) (i := 0) rfl) (fun _ h => absurd h List.not_mem_nil) ⟨by decide, by decide⟩ (by decide) (List.mem_of_getElem? (i := 1) rfl) hq9 hv9 hcl9 ?_
  refine lv_astore (lv' := [(5, .ref q9), (0, .ref (ad 0)), (1, .int (iI y)), (2, .int (iI x)), (3, .int (iI z)), (4, .ref ob)]) S.1 S.2.1 dL_farthest_15 hl (by decide) rfl (fun ls hl => ?_)
  refine g_iconst S dL_farthest_17 ?_
  have hG : gW K A s.heap [gRLC K ad, gSvyC K (ad 10) (ad 3) (ad 53) vl vd vn vf vt ve vg vb vw, gRayU K (ad 53) (ad 54) (ad 55) (ad 56) (ad 57) (ad 3) rz zX, gScn K (ad 3) (ad 14) (ad 15) (ad 16) (ad 17) ou mi bo ln LF sn SF, gArrL K 1 ob OB] _ _ := hG
  exact g_iretH S hr hlk hQ dL_farthest_18 (Nat.le_of_ble_eq_true rfl) (Nat.le_of_ble_eq_true rfl) (() : Unit) rfl hG

set_option maxHeartbeats 1000000 in
set_option maxRecDepth 100000 in
theorem x2_L_farthest (l : Launch) (K : KC) (ad : Nat → Nat) (ou : Int) (mi : Int) (bo : Int) (ln : Int) (LF : Int → Int) (sn : Int) (SF : Int → Int) (N : Int → Int) (vl : Int) (vd : Int) (vn : Int) (vf : Int) (vt : Int) (ve : Int) (vg : Int) (vb : Int) (vw : Int) (rz : RU) (zX : Int → Int) (y : Int) (x : Int) (z : Int) (ob : Nat) (OB : Int → Int) (hS : ScOk N ou mi bo ln LF sn SF) (hN : NOk0 N) (hv : -2147483648 ≤ y ∧ y < 2147483648) (hx : x = 0 ∨ x = 1) (hz : -2147483648 ≤ z ∧ z < 2147483648) (hvw : -3000000000 ≤ vw ∧ vw ≤ 3000000000) (hy : 0 ≤ y ∧ y < N 0) (h1 : ¬ (0 ≤ z ∧ z ≤ 3)) (hst : l.stackTraces = false) : mH l yL_farthest wsL_farthest 9 149 K [.ref (ad 0), .int (iI y), .int (iI x), .int (iI z), .ref ob] [gRLC K ad, gSvyC K (ad 10) (ad 3) (ad 53) vl vd vn vf vt ve vg vb vw, gRayU K (ad 53) (ad 54) (ad 55) (ad 56) (ad 57) (ad 3) rz zX, gScn K (ad 3) (ad 14) (ad 15) (ad 16) (ad 17) ou mi bo ln LF sn SF, gArrL K 1 ob OB] (fun (v : Value) (u : Unit) => (v = .int (iI 2))) (fun (u : Unit) => [gRLC K ad, gSvyC K (ad 10) (ad 3) (ad 53) vl vd vn vf vt ve vg vb vw, gRayU K (ad 53) (ad 54) (ad 55) (ad 56) (ad 57) (ad 3) rz zX, gScn K (ad 3) (ad 14) (ad 15) (ad 16) (ad 17) ou mi bo ln LF sn SF, gArrL K 1 ob OB]) 1 6 := by
  refine mH_of cL_farthest 6 (by decide) rfl (Nat.le_of_ble_eq_true rfl) ?_
  intro p e s m below meth c A ls Q S C hG hl hr hlk hin htab hQ
  have S : CallFix p m c cL_farthest 6 s ([.ref (ad 0), .int (iI y), .int (iI x), .int (iI z), .ref ob] : List Value).toArray wsL_farthest RL := S
  have hl : lv_has ls 6 [(0, .ref (ad 0)), (1, .int (iI y)), (2, .int (iI x)), (3, .int (iI z)), (4, .ref ob)] := hl
  have hG : gW K A s.heap [gRLC K ad, gSvyC K (ad 10) (ad 3) (ad 53) vl vd vn vf vt ve vg vb vw, gRayU K (ad 53) (ad 54) (ad 55) (ad 56) (ad 57) (ad 3) rz zX, gScn K (ad 3) (ad 14) (ad 15) (ad 16) (ad 17) ou mi bo ln LF sn SF, gArrL K 1 ob OB] s.heap [] := hG
  refine lv_aload S.1 S.2.1 dL_farthest_0 (lv_at hl 4 rfl) ?_
  refine g_iconst S dL_farthest_2 ?_
  refine lv_aload_n S.1 S.2.1 dL_farthest_3 rfl (lv_at hl 0 rfl) ?_
  refine lv_iload_n S.1 S.2.1 dL_farthest_4 rfl (lv_at hl 1 rfl) ?_
  refine lv_iload_n S.1 S.2.1 dL_farthest_5 rfl (lv_at hl 2 rfl) ?_
  refine lv_iload_n S.1 S.2.1 dL_farthest_6 rfl (lv_at hl 3 rfl) ?_
  refine g_xV (E := "java/lang/IllegalArgumentException") (As := [.int (iI y), .int (iI x), .int (iI z)]) (rest := [.int (iI 0), .ref ob]) (gs' := (fun u : Unit => [gRLC K ad, gSvyC K (ad 10) (ad 3) (ad 53) vl vd vn vf vt ve vg vb vw, gRayU K (ad 53) (ad 54) (ad 55) (ad 56) (ad 57) (ad 3) rz zX, gScn K (ad 3) (ad 14) (ad 15) (ad 16) (ad 17) ou mi bo ln LF sn SF, gArrL K 1 ob OB])) S C hG [0, 1, 2, 3] (x2_farthest l K ad ou mi bo ln LF sn SF N vl vd vn vf vt ve vg vb vw rz zX y x z hS hN hv hx hz hvw hy h1 hst) rfl rfl 0 rfl rfl (cwV 3 S.2.2.2.2 gL_farthest_X8_farthest rfl rfl rfl (by decide +kernel) ⟨Nat.le_of_ble_eq_true rfl, Nat.le_of_ble_eq_true rfl⟩) rfl hl.1 rfl (Nat.le_of_ble_eq_true rfl) dL_farthest_7 ⟨Nat.le_of_ble_eq_true rfl, Nat.le_of_ble_eq_true rfl⟩ (fun _ => Nat.le_of_ble_eq_true rfl) (fun _ => rfl) (fun u q9 ce9 H locs hp hG hq9 hv9 hcl9 => ?_)
  refine g_catch (E := "java/lang/IllegalArgumentException") (st := 0) (en := 12) (hpc := 19) (ct := 19) (suf' := []) S C [(0, 12, 15, 29)] htab (List.mem_of_getElem? (l := exC) (i := 1) rfl) (List.forall_mem_cons.mpr ⟨⟨by decide, "java/lang/IndexOutOfBoundsException", (List.mem_of_getElem? (l := exC) (i := 0) rfl), by decide, (List.mem_of_getElem? (i := 1) rfl)⟩, fun _ h => absurd h List.not_mem_nil⟩) ⟨by decide, by decide⟩ (by decide) (List.mem_of_getElem? (i := 2) rfl) hq9 hv9 hcl9 ?_
  refine lv_astore (lv' := [(5, .ref q9), (0, .ref (ad 0)), (1, .int (iI y)), (2, .int (iI x)), (3, .int (iI z)), (4, .ref ob)]) S.1 S.2.1 dL_farthest_19 hl (by decide) rfl (fun ls hl => ?_)
  refine g_iconst S dL_farthest_21 ?_
  have hG : gW K A s.heap [gRLC K ad, gSvyC K (ad 10) (ad 3) (ad 53) vl vd vn vf vt ve vg vb vw, gRayU K (ad 53) (ad 54) (ad 55) (ad 56) (ad 57) (ad 3) rz zX, gScn K (ad 3) (ad 14) (ad 15) (ad 16) (ad 17) ou mi bo ln LF sn SF, gArrL K 1 ob OB] _ _ := hG
  exact g_iretH S hr hlk hQ dL_farthest_22 (Nat.le_of_ble_eq_true rfl) (Nat.le_of_ble_eq_true rfl) (() : Unit) rfl hG

set_option maxHeartbeats 1000000 in
set_option maxRecDepth 100000 in
theorem c_L_count (l : Launch) (K : KC) (ad : Nat → Nat) (ou : Int) (mi : Int) (bo : Int) (ln : Int) (LF : Int → Int) (sn : Int) (SF : Int → Int) (N : Int → Int) (rs : Nat) (rv : RU) (XF : Int → Int) (x : Int) (ob : Nat) (OB : Int → Int) (hS : ScOk N ou mi bo ln LF sn SF) (hN : NOk0 N) (hx : -2147483648 ≤ x ∧ x < 2147483648) (h1 : 0 ≤ x ∧ x ≤ 4) : mH l yL_count wsL_count 6 140 K [.ref (ad 0), .int (iI x), .ref ob] [gRLC K ad, gScn K (ad 3) (ad 14) (ad 15) (ad 16) (ad 17) ou mi bo ln LF sn SF, gRayU K (ad 7) (ad 23) (ad 24) (ad 25) (ad 26) rs rv XF, gArrL K 1 ob OB] (fun (v : Value) (u : Nat × RU × (Int → Int)) => (v = .int (iI 0))) (fun (u : Nat × RU × (Int → Int)) => [gRLC K ad, gScn K (ad 3) (ad 14) (ad 15) (ad 16) (ad 17) ou mi bo ln LF sn SF, gRayU K (ad 7) (ad 23) (ad 24) (ad 25) (ad 26) u.1 u.2.1 u.2.2, gArrL K 1 ob (upI OB 0 (iI (cntB (fun i : Nat => decide (eS N (i : Int) = x)) (N 4).toNat)).toInt)]) 0 0 := by
  refine mH_of cL_count 4 (by decide) rfl (Nat.le_of_ble_eq_true rfl) ?_
  intro p e s m below meth c A ls Q S C hG hl hr hlk hin htab hQ
  have S : CallFix p m c cL_count 4 s ([.ref (ad 0), .int (iI x), .ref ob] : List Value).toArray wsL_count RL := S
  have hl : lv_has ls 4 [(0, .ref (ad 0)), (1, .int (iI x)), (2, .ref ob)] := hl
  have hG : gW K A s.heap [gRLC K ad, gScn K (ad 3) (ad 14) (ad 15) (ad 16) (ad 17) ou mi bo ln LF sn SF, gRayU K (ad 7) (ad 23) (ad 24) (ad 25) (ad 26) rs rv XF, gArrL K 1 ob OB] s.heap [] := hG
  refine lv_aload_n S.1 S.2.1 dL_count_0 rfl (lv_at hl 2 rfl) ?_
  refine g_iconst S dL_count_1 ?_
  refine lv_aload_n S.1 S.2.1 dL_count_2 rfl (lv_at hl 0 rfl) ?_
  refine lv_iload_n S.1 S.2.1 dL_count_3 rfl (lv_at hl 1 rfl) ?_
  refine g_invV (As := [.int (iI x)]) (rest := [.int (iI 0), .ref ob]) (gs' := (fun u : Nat × RU × (Int → Int) => [gRLC K ad, gScn K (ad 3) (ad 14) (ad 15) (ad 16) (ad 17) ou mi bo ln LF sn SF, gRayU K (ad 7) (ad 23) (ad 24) (ad 25) (ad 26) u.1 u.2.1 u.2.2, gArrL K 1 ob OB])) S C hG [0, 1, 2] (c_X8_count l K ad ou mi bo ln LF sn SF N rs rv XF x hS hN hx h1) rfl rfl 0 rfl rfl (cwV 1 S.2.2.2.2 gL_count_X8_count rfl rfl rfl (by decide +kernel) ⟨Nat.le_of_ble_eq_true rfl, Nat.le_of_ble_eq_true rfl⟩) rfl hl.1 rfl (Nat.le_of_ble_eq_true rfl) dL_count_4 ⟨Nat.le_of_ble_eq_true rfl, Nat.le_of_ble_eq_true rfl⟩ (fun _ => Nat.le_of_ble_eq_true rfl) (fun _ => rfl) (fun v u H locs hp hG => ?_)
  obtain ⟨rs2_4, rv2_4, X2_4⟩ := u
  subst hp
  have hG : gW K A s.heap [gRLC K ad, gScn K (ad 3) (ad 14) (ad 15) (ad 16) (ad 17) ou mi bo ln LF sn SF, gRayU K (ad 7) (ad 23) (ad 24) (ad 25) (ad 26) rs2_4 rv2_4 X2_4, gArrL K 1 ob OB] _ _ := hG
  refine g_i2lr S dL_count_7 ?_
  refine g_last (n := 1) (gs' := [gRLC K ad, gScn K (ad 3) (ad 14) (ad 15) (ad 16) (ad 17) ou mi bo ln LF sn SF, gRayU K (ad 7) (ad 23) (ad 24) (ad 25) (ad 26) rs2_4 rv2_4 X2_4, gArrL K 1 ob (upI OB 0 ((iI (cntB (fun i : Nat => decide (eS N (i : Int) = x)) (N 4).toNat)).toInt))]) S C hG 11 rfl (by decide) (by decide) (by decide) rfl dL_count_8 (fun H locs hG => ?_)
  refine lv_goto (tgt := 15) S.1 S.2.1 dL_count_9 (by decide) ?_
  refine g_iconst S dL_count_15 ?_
  have hG : gW K A s.heap [gRLC K ad, gScn K (ad 3) (ad 14) (ad 15) (ad 16) (ad 17) ou mi bo ln LF sn SF, gRayU K (ad 7) (ad 23) (ad 24) (ad 25) (ad 26) rs2_4 rv2_4 X2_4, gArrL K 1 ob (upI OB 0 (iI (cntB (fun i : Nat => decide (eS N (i : Int) = x)) (N 4).toNat)).toInt)] _ _ := hG
  exact g_iretH S hr hlk hQ dL_count_16 (Nat.le_of_ble_eq_true rfl) (Nat.le_of_ble_eq_true rfl) ((rs2_4, rv2_4, X2_4) : Nat × RU × (Int → Int)) rfl hG

set_option maxHeartbeats 1000000 in
set_option maxRecDepth 100000 in
theorem x1_L_count (l : Launch) (K : KC) (ad : Nat → Nat) (ou : Int) (mi : Int) (bo : Int) (ln : Int) (LF : Int → Int) (sn : Int) (SF : Int → Int) (N : Int → Int) (rs : Nat) (rv : RU) (XF : Int → Int) (x : Int) (ob : Nat) (OB : Int → Int) (hS : ScOk N ou mi bo ln LF sn SF) (hN : NOk0 N) (hx : -2147483648 ≤ x ∧ x < 2147483648) (h1 : ¬ (0 ≤ x ∧ x ≤ 4)) (hst : l.stackTraces = false) : mH l yL_count wsL_count 8 127 K [.ref (ad 0), .int (iI x), .ref ob] [gRLC K ad, gScn K (ad 3) (ad 14) (ad 15) (ad 16) (ad 17) ou mi bo ln LF sn SF, gRayU K (ad 7) (ad 23) (ad 24) (ad 25) (ad 26) rs rv XF, gArrL K 1 ob OB] (fun (v : Value) (u : Unit) => (v = .int (iI 1))) (fun (u : Unit) => [gRLC K ad, gScn K (ad 3) (ad 14) (ad 15) (ad 16) (ad 17) ou mi bo ln LF sn SF, gRayU K (ad 7) (ad 23) (ad 24) (ad 25) (ad 26) rs rv XF, gArrL K 1 ob OB]) 1 6 := by
  refine mH_of cL_count 4 (by decide) rfl (Nat.le_of_ble_eq_true rfl) ?_
  intro p e s m below meth c A ls Q S C hG hl hr hlk hin htab hQ
  have S : CallFix p m c cL_count 4 s ([.ref (ad 0), .int (iI x), .ref ob] : List Value).toArray wsL_count RL := S
  have hl : lv_has ls 4 [(0, .ref (ad 0)), (1, .int (iI x)), (2, .ref ob)] := hl
  have hG : gW K A s.heap [gRLC K ad, gScn K (ad 3) (ad 14) (ad 15) (ad 16) (ad 17) ou mi bo ln LF sn SF, gRayU K (ad 7) (ad 23) (ad 24) (ad 25) (ad 26) rs rv XF, gArrL K 1 ob OB] s.heap [] := hG
  refine lv_aload_n S.1 S.2.1 dL_count_0 rfl (lv_at hl 2 rfl) ?_
  refine g_iconst S dL_count_1 ?_
  refine lv_aload_n S.1 S.2.1 dL_count_2 rfl (lv_at hl 0 rfl) ?_
  refine lv_iload_n S.1 S.2.1 dL_count_3 rfl (lv_at hl 1 rfl) ?_
  refine g_xV (E := "java/lang/IllegalArgumentException") (As := [.int (iI x)]) (rest := [.int (iI 0), .ref ob]) (gs' := (fun u : Unit => [gRLC K ad, gScn K (ad 3) (ad 14) (ad 15) (ad 16) (ad 17) ou mi bo ln LF sn SF, gRayU K (ad 7) (ad 23) (ad 24) (ad 25) (ad 26) rs rv XF, gArrL K 1 ob OB])) S C hG [0, 1, 2] (x1_count l K ad ou mi bo ln LF sn SF N rs rv XF x hS hN hx h1 hst) rfl rfl 0 rfl rfl (cwV 1 S.2.2.2.2 gL_count_X8_count rfl rfl rfl (by decide +kernel) ⟨Nat.le_of_ble_eq_true rfl, Nat.le_of_ble_eq_true rfl⟩) rfl hl.1 rfl (Nat.le_of_ble_eq_true rfl) dL_count_4 ⟨Nat.le_of_ble_eq_true rfl, Nat.le_of_ble_eq_true rfl⟩ (fun _ => Nat.le_of_ble_eq_true rfl) (fun _ => rfl) (fun u q9 ce9 H locs hp hG hq9 hv9 hcl9 => ?_)
  refine g_catch (E := "java/lang/IllegalArgumentException") (st := 0) (en := 9) (hpc := 12) (ct := 19) (suf' := []) S C [] htab (List.mem_of_getElem? (l := exC) (i := 1) rfl) (fun _ h => absurd h List.not_mem_nil) ⟨by decide, by decide⟩ (by decide) (List.mem_of_getElem? (i := 1) rfl) hq9 hv9 hcl9 ?_
  refine lv_astore_n (lv' := [(3, .ref q9), (0, .ref (ad 0)), (1, .int (iI x)), (2, .ref ob)]) S.1 S.2.1 dL_count_12 rfl hl (by decide) rfl (fun ls hl => ?_)
  refine g_iconst S dL_count_13 ?_
  have hG : gW K A s.heap [gRLC K ad, gScn K (ad 3) (ad 14) (ad 15) (ad 16) (ad 17) ou mi bo ln LF sn SF, gRayU K (ad 7) (ad 23) (ad 24) (ad 25) (ad 26) rs rv XF, gArrL K 1 ob OB] _ _ := hG
  exact g_iretH S hr hlk hQ dL_count_14 (Nat.le_of_ble_eq_true rfl) (Nat.le_of_ble_eq_true rfl) (() : Unit) rfl hG

set_option maxHeartbeats 1000000 in
set_option maxRecDepth 100000 in
theorem c_L_alike (l : Launch) (K : KC) (ad : Nat → Nat) (ou : Int) (mi : Int) (bo : Int) (ln : Int) (LF : Int → Int) (sn : Int) (SF : Int → Int) (N : Int → Int) (pv : PV) (ps : Nat) (pr : RU) (pX : Int → Int) (pw : PV) (ps_2 : Nat) (pr_2 : RU) (pX_2 : Int → Int) (y : Int) (x : Int) (ob : Nat) (OB : Int → Int) (hS : ScOk N ou mi bo ln LF sn SF) (hN : NOk0 N) (hv : -2147483648 ≤ y ∧ y < 2147483648) (hx : -2147483648 ≤ x ∧ x < 2147483648) (hs : 0 ≤ y ∧ y < N 4) (ht : 0 ≤ x ∧ x < N 4) (hne : y ≠ x) : mH l yL_alike wsL_alike 6 141 K [.ref (ad 0), .int (iI y), .int (iI x), .ref ob] [gRLC K ad, gPthV K (ad 8) (ad 27) (ad 35) (ad 28) (ad 29) (ad 30) (ad 31) (ad 32) (ad 33) (ad 34) pv, gRayU K (ad 35) (ad 36) (ad 37) (ad 38) (ad 39) ps pr pX, gPthV K (ad 9) (ad 40) (ad 48) (ad 41) (ad 42) (ad 43) (ad 44) (ad 45) (ad 46) (ad 47) pw, gRayU K (ad 48) (ad 49) (ad 50) (ad 51) (ad 52) ps_2 pr_2 pX_2, gScn K (ad 3) (ad 14) (ad 15) (ad 16) (ad 17) ou mi bo ln LF sn SF, gArrL K 1 ob OB] (fun (v : Value) (u : PV × RU × (Int → Int) × PV × RU × (Int → Int)) => (v = .int (iI 0)) ∧ (PthR N (sP N y) (sY N y) (sD N y) u.1) ∧ (PthR N (sP N x) (sY N x) (sD N x) u.2.2.2.1)) (fun (u : PV × RU × (Int → Int) × PV × RU × (Int → Int)) => [gRLC K ad, gPthV K (ad 8) (ad 27) (ad 35) (ad 28) (ad 29) (ad 30) (ad 31) (ad 32) (ad 33) (ad 34) u.1, gRayU K (ad 35) (ad 36) (ad 37) (ad 38) (ad 39) (ad 3) u.2.1 u.2.2.1, gPthV K (ad 9) (ad 40) (ad 48) (ad 41) (ad 42) (ad 43) (ad 44) (ad 45) (ad 46) (ad 47) u.2.2.2.1, gRayU K (ad 48) (ad 49) (ad 50) (ad 51) (ad 52) (ad 3) u.2.2.2.2.1 u.2.2.2.2.2, gScn K (ad 3) (ad 14) (ad 15) (ad 16) (ad 17) ou mi bo ln LF sn SF, gArrL K 1 ob (upI OB 0 (iI (alkS N y x : Int)).toInt)]) 0 0 := by
  refine mH_of cL_alike 5 (by decide) rfl (Nat.le_of_ble_eq_true rfl) ?_
  intro p e s m below meth c A ls Q S C hG hl hr hlk hin htab hQ
  have S : CallFix p m c cL_alike 5 s ([.ref (ad 0), .int (iI y), .int (iI x), .ref ob] : List Value).toArray wsL_alike RL := S
  have hl : lv_has ls 5 [(0, .ref (ad 0)), (1, .int (iI y)), (2, .int (iI x)), (3, .ref ob)] := hl
  have hG : gW K A s.heap [gRLC K ad, gPthV K (ad 8) (ad 27) (ad 35) (ad 28) (ad 29) (ad 30) (ad 31) (ad 32) (ad 33) (ad 34) pv, gRayU K (ad 35) (ad 36) (ad 37) (ad 38) (ad 39) ps pr pX, gPthV K (ad 9) (ad 40) (ad 48) (ad 41) (ad 42) (ad 43) (ad 44) (ad 45) (ad 46) (ad 47) pw, gRayU K (ad 48) (ad 49) (ad 50) (ad 51) (ad 52) ps_2 pr_2 pX_2, gScn K (ad 3) (ad 14) (ad 15) (ad 16) (ad 17) ou mi bo ln LF sn SF, gArrL K 1 ob OB] s.heap [] := hG
  refine lv_aload_n S.1 S.2.1 dL_alike_0 rfl (lv_at hl 3 rfl) ?_
  refine g_iconst S dL_alike_1 ?_
  refine lv_aload_n S.1 S.2.1 dL_alike_2 rfl (lv_at hl 0 rfl) ?_
  refine lv_iload_n S.1 S.2.1 dL_alike_3 rfl (lv_at hl 1 rfl) ?_
  refine lv_iload_n S.1 S.2.1 dL_alike_4 rfl (lv_at hl 2 rfl) ?_
  refine g_invV (As := [.int (iI y), .int (iI x)]) (rest := [.int (iI 0), .ref ob]) (gs' := (fun u : PV × RU × (Int → Int) × PV × RU × (Int → Int) => [gRLC K ad, gPthV K (ad 8) (ad 27) (ad 35) (ad 28) (ad 29) (ad 30) (ad 31) (ad 32) (ad 33) (ad 34) u.1, gRayU K (ad 35) (ad 36) (ad 37) (ad 38) (ad 39) (ad 3) u.2.1 u.2.2.1, gPthV K (ad 9) (ad 40) (ad 48) (ad 41) (ad 42) (ad 43) (ad 44) (ad 45) (ad 46) (ad 47) u.2.2.2.1, gRayU K (ad 48) (ad 49) (ad 50) (ad 51) (ad 52) (ad 3) u.2.2.2.2.1 u.2.2.2.2.2, gScn K (ad 3) (ad 14) (ad 15) (ad 16) (ad 17) ou mi bo ln LF sn SF, gArrL K 1 ob OB])) S C hG [0, 1, 2, 3, 4, 5] (c_X8_alike l K ad ou mi bo ln LF sn SF N pv ps pr pX pw ps_2 pr_2 pX_2 y x hS hN hv hx hs ht hne) rfl rfl 0 rfl rfl (cwV 2 S.2.2.2.2 gL_alike_X8_alike rfl rfl rfl (by decide +kernel) ⟨Nat.le_of_ble_eq_true rfl, Nat.le_of_ble_eq_true rfl⟩) rfl hl.1 rfl (Nat.le_of_ble_eq_true rfl) dL_alike_5 ⟨Nat.le_of_ble_eq_true rfl, Nat.le_of_ble_eq_true rfl⟩ (fun _ => Nat.le_of_ble_eq_true rfl) (fun _ => rfl) (fun v u H locs hp hG => ?_)
  obtain ⟨pv2_5, pr2_5, pX2_5, pw2_5, pr_22_5, pX_22_5⟩ := u
  obtain ⟨rfl, hp_5, hq_5⟩ := hp
  have hp_5 : PthR N (sP N y) (sY N y) (sD N y) pv2_5 := hp_5
  have hq_5 : PthR N (sP N x) (sY N x) (sD N x) pw2_5 := hq_5
  have hG : gW K A s.heap [gRLC K ad, gPthV K (ad 8) (ad 27) (ad 35) (ad 28) (ad 29) (ad 30) (ad 31) (ad 32) (ad 33) (ad 34) pv2_5, gRayU K (ad 35) (ad 36) (ad 37) (ad 38) (ad 39) (ad 3) pr2_5 pX2_5, gPthV K (ad 9) (ad 40) (ad 48) (ad 41) (ad 42) (ad 43) (ad 44) (ad 45) (ad 46) (ad 47) pw2_5, gRayU K (ad 48) (ad 49) (ad 50) (ad 51) (ad 52) (ad 3) pr_22_5 pX_22_5, gScn K (ad 3) (ad 14) (ad 15) (ad 16) (ad 17) ou mi bo ln LF sn SF, gArrL K 1 ob OB] _ _ := hG
  refine g_i2lr S dL_alike_8 ?_
  refine g_last (n := 1) (gs' := [gRLC K ad, gPthV K (ad 8) (ad 27) (ad 35) (ad 28) (ad 29) (ad 30) (ad 31) (ad 32) (ad 33) (ad 34) pv2_5, gRayU K (ad 35) (ad 36) (ad 37) (ad 38) (ad 39) (ad 3) pr2_5 pX2_5, gPthV K (ad 9) (ad 40) (ad 48) (ad 41) (ad 42) (ad 43) (ad 44) (ad 45) (ad 46) (ad 47) pw2_5, gRayU K (ad 48) (ad 49) (ad 50) (ad 51) (ad 52) (ad 3) pr_22_5 pX_22_5, gScn K (ad 3) (ad 14) (ad 15) (ad 16) (ad 17) ou mi bo ln LF sn SF, gArrL K 1 ob (upI OB 0 ((iI (alkS N y x : Int)).toInt))]) S C hG 34 rfl (by decide) (by decide) (by decide) rfl dL_alike_9 (fun H locs hG => ?_)
  refine lv_goto (tgt := 21) S.1 S.2.1 dL_alike_10 (by decide) ?_
  refine g_iconst S dL_alike_21 ?_
  have hG : gW K A s.heap [gRLC K ad, gPthV K (ad 8) (ad 27) (ad 35) (ad 28) (ad 29) (ad 30) (ad 31) (ad 32) (ad 33) (ad 34) pv2_5, gRayU K (ad 35) (ad 36) (ad 37) (ad 38) (ad 39) (ad 3) pr2_5 pX2_5, gPthV K (ad 9) (ad 40) (ad 48) (ad 41) (ad 42) (ad 43) (ad 44) (ad 45) (ad 46) (ad 47) pw2_5, gRayU K (ad 48) (ad 49) (ad 50) (ad 51) (ad 52) (ad 3) pr_22_5 pX_22_5, gScn K (ad 3) (ad 14) (ad 15) (ad 16) (ad 17) ou mi bo ln LF sn SF, gArrL K 1 ob (upI OB 0 (iI (alkS N y x : Int)).toInt)] _ _ := hG
  exact g_iretH S hr hlk hQ dL_alike_22 (Nat.le_of_ble_eq_true rfl) (Nat.le_of_ble_eq_true rfl) ((pv2_5, pr2_5, pX2_5, pw2_5, pr_22_5, pX_22_5) : PV × RU × (Int → Int) × PV × RU × (Int → Int)) ⟨rfl, hp_5, hq_5⟩ hG

set_option maxHeartbeats 1000000 in
set_option maxRecDepth 100000 in
theorem x1_L_alike (l : Launch) (K : KC) (ad : Nat → Nat) (ou : Int) (mi : Int) (bo : Int) (ln : Int) (LF : Int → Int) (sn : Int) (SF : Int → Int) (N : Int → Int) (y : Int) (x : Int) (ob : Nat) (OB : Int → Int) (hS : ScOk N ou mi bo ln LF sn SF) (hN : NOk0 N) (hv : -2147483648 ≤ y ∧ y < 2147483648) (hx : -2147483648 ≤ x ∧ x < 2147483648) (hs : ¬ (0 ≤ y ∧ y < N 4)) (hst : l.stackTraces = false) : mH l yL_alike wsL_alike 9 147 K [.ref (ad 0), .int (iI y), .int (iI x), .ref ob] [gRLC K ad, gScn K (ad 3) (ad 14) (ad 15) (ad 16) (ad 17) ou mi bo ln LF sn SF, gArrL K 1 ob OB] (fun (v : Value) (u : Unit) => (v = .int (iI 1))) (fun (u : Unit) => [gRLC K ad, gScn K (ad 3) (ad 14) (ad 15) (ad 16) (ad 17) ou mi bo ln LF sn SF, gArrL K 1 ob OB]) 1 6 := by
  refine mH_of cL_alike 5 (by decide) rfl (Nat.le_of_ble_eq_true rfl) ?_
  intro p e s m below meth c A ls Q S C hG hl hr hlk hin htab hQ
  have S : CallFix p m c cL_alike 5 s ([.ref (ad 0), .int (iI y), .int (iI x), .ref ob] : List Value).toArray wsL_alike RL := S
  have hl : lv_has ls 5 [(0, .ref (ad 0)), (1, .int (iI y)), (2, .int (iI x)), (3, .ref ob)] := hl
  have hG : gW K A s.heap [gRLC K ad, gScn K (ad 3) (ad 14) (ad 15) (ad 16) (ad 17) ou mi bo ln LF sn SF, gArrL K 1 ob OB] s.heap [] := hG
  refine lv_aload_n S.1 S.2.1 dL_alike_0 rfl (lv_at hl 3 rfl) ?_
  refine g_iconst S dL_alike_1 ?_
  refine lv_aload_n S.1 S.2.1 dL_alike_2 rfl (lv_at hl 0 rfl) ?_
  refine lv_iload_n S.1 S.2.1 dL_alike_3 rfl (lv_at hl 1 rfl) ?_
  refine lv_iload_n S.1 S.2.1 dL_alike_4 rfl (lv_at hl 2 rfl) ?_
  refine g_xV (E := "java/lang/IndexOutOfBoundsException") (As := [.int (iI y), .int (iI x)]) (rest := [.int (iI 0), .ref ob]) (gs' := (fun u : Unit => [gRLC K ad, gScn K (ad 3) (ad 14) (ad 15) (ad 16) (ad 17) ou mi bo ln LF sn SF, gArrL K 1 ob OB])) S C hG [0, 1] (x1_alike l K ad ou mi bo ln LF sn SF N y x hS hN hv hx hs hst) rfl rfl 0 rfl rfl (cwV 2 S.2.2.2.2 gL_alike_X8_alike rfl rfl rfl (by decide +kernel) ⟨Nat.le_of_ble_eq_true rfl, Nat.le_of_ble_eq_true rfl⟩) rfl hl.1 rfl (Nat.le_of_ble_eq_true rfl) dL_alike_5 ⟨Nat.le_of_ble_eq_true rfl, Nat.le_of_ble_eq_true rfl⟩ (fun _ => Nat.le_of_ble_eq_true rfl) (fun _ => rfl) (fun u q9 ce9 H locs hp hG hq9 hv9 hcl9 => ?_)
  refine g_catch (E := "java/lang/IndexOutOfBoundsException") (st := 0) (en := 10) (hpc := 13) (ct := 29) (suf' := [(0, 10, 17, 19)]) S C [] htab (List.mem_of_getElem? (l := exC) (i := 0) rfl) (fun _ h => absurd h List.not_mem_nil) ⟨by decide, by decide⟩ (by decide) (List.mem_of_getElem? (i := 1) rfl) hq9 hv9 hcl9 ?_
  refine lv_astore (lv' := [(4, .ref q9), (0, .ref (ad 0)), (1, .int (iI y)), (2, .int (iI x)), (3, .ref ob)]) S.1 S.2.1 dL_alike_13 hl (by decide) rfl (fun ls hl => ?_)
  refine g_iconst S dL_alike_15 ?_
  have hG : gW K A s.heap [gRLC K ad, gScn K (ad 3) (ad 14) (ad 15) (ad 16) (ad 17) ou mi bo ln LF sn SF, gArrL K 1 ob OB] _ _ := hG
  exact g_iretH S hr hlk hQ dL_alike_16 (Nat.le_of_ble_eq_true rfl) (Nat.le_of_ble_eq_true rfl) (() : Unit) rfl hG

set_option maxHeartbeats 1000000 in
set_option maxRecDepth 100000 in
theorem x1b_L_alike (l : Launch) (K : KC) (ad : Nat → Nat) (ou : Int) (mi : Int) (bo : Int) (ln : Int) (LF : Int → Int) (sn : Int) (SF : Int → Int) (N : Int → Int) (y : Int) (x : Int) (ob : Nat) (OB : Int → Int) (hS : ScOk N ou mi bo ln LF sn SF) (hN : NOk0 N) (hv : -2147483648 ≤ y ∧ y < 2147483648) (hx : -2147483648 ≤ x ∧ x < 2147483648) (hs : 0 ≤ y ∧ y < N 4) (ht : ¬ (0 ≤ x ∧ x < N 4)) (hst : l.stackTraces = false) : mH l yL_alike wsL_alike 9 147 K [.ref (ad 0), .int (iI y), .int (iI x), .ref ob] [gRLC K ad, gScn K (ad 3) (ad 14) (ad 15) (ad 16) (ad 17) ou mi bo ln LF sn SF, gArrL K 1 ob OB] (fun (v : Value) (u : Unit) => (v = .int (iI 1))) (fun (u : Unit) => [gRLC K ad, gScn K (ad 3) (ad 14) (ad 15) (ad 16) (ad 17) ou mi bo ln LF sn SF, gArrL K 1 ob OB]) 1 6 := by
  refine mH_of cL_alike 5 (by decide) rfl (Nat.le_of_ble_eq_true rfl) ?_
  intro p e s m below meth c A ls Q S C hG hl hr hlk hin htab hQ
  have S : CallFix p m c cL_alike 5 s ([.ref (ad 0), .int (iI y), .int (iI x), .ref ob] : List Value).toArray wsL_alike RL := S
  have hl : lv_has ls 5 [(0, .ref (ad 0)), (1, .int (iI y)), (2, .int (iI x)), (3, .ref ob)] := hl
  have hG : gW K A s.heap [gRLC K ad, gScn K (ad 3) (ad 14) (ad 15) (ad 16) (ad 17) ou mi bo ln LF sn SF, gArrL K 1 ob OB] s.heap [] := hG
  refine lv_aload_n S.1 S.2.1 dL_alike_0 rfl (lv_at hl 3 rfl) ?_
  refine g_iconst S dL_alike_1 ?_
  refine lv_aload_n S.1 S.2.1 dL_alike_2 rfl (lv_at hl 0 rfl) ?_
  refine lv_iload_n S.1 S.2.1 dL_alike_3 rfl (lv_at hl 1 rfl) ?_
  refine lv_iload_n S.1 S.2.1 dL_alike_4 rfl (lv_at hl 2 rfl) ?_
  refine g_xV (E := "java/lang/IndexOutOfBoundsException") (As := [.int (iI y), .int (iI x)]) (rest := [.int (iI 0), .ref ob]) (gs' := (fun u : Unit => [gRLC K ad, gScn K (ad 3) (ad 14) (ad 15) (ad 16) (ad 17) ou mi bo ln LF sn SF, gArrL K 1 ob OB])) S C hG [0, 1] (x1b_alike l K ad ou mi bo ln LF sn SF N y x hS hN hv hx hs ht hst) rfl rfl 0 rfl rfl (cwV 2 S.2.2.2.2 gL_alike_X8_alike rfl rfl rfl (by decide +kernel) ⟨Nat.le_of_ble_eq_true rfl, Nat.le_of_ble_eq_true rfl⟩) rfl hl.1 rfl (Nat.le_of_ble_eq_true rfl) dL_alike_5 ⟨Nat.le_of_ble_eq_true rfl, Nat.le_of_ble_eq_true rfl⟩ (fun _ => Nat.le_of_ble_eq_true rfl) (fun _ => rfl) (fun u q9 ce9 H locs hp hG hq9 hv9 hcl9 => ?_)
  refine g_catch (E := "java/lang/IndexOutOfBoundsException") (st := 0) (en := 10) (hpc := 13) (ct := 29) (suf' := [(0, 10, 17, 19)]) S C [] htab (List.mem_of_getElem? (l := exC) (i := 0) rfl) (fun _ h => absurd h List.not_mem_nil) ⟨by decide, by decide⟩ (by decide) (List.mem_of_getElem? (i := 1) rfl) hq9 hv9 hcl9 ?_
  refine lv_astore (lv' := [(4, .ref q9), (0, .ref (ad 0)), (1, .int (iI y)), (2, .int (iI x)), (3, .ref ob)]) S.1 S.2.1 dL_alike_13 hl (by decide) rfl (fun ls hl => ?_)
  refine g_iconst S dL_alike_15 ?_
  have hG : gW K A s.heap [gRLC K ad, gScn K (ad 3) (ad 14) (ad 15) (ad 16) (ad 17) ou mi bo ln LF sn SF, gArrL K 1 ob OB] _ _ := hG
  exact g_iretH S hr hlk hQ dL_alike_16 (Nat.le_of_ble_eq_true rfl) (Nat.le_of_ble_eq_true rfl) (() : Unit) rfl hG

set_option maxHeartbeats 1000000 in
set_option maxRecDepth 100000 in
theorem x2_L_alike (l : Launch) (K : KC) (ad : Nat → Nat) (ou : Int) (mi : Int) (bo : Int) (ln : Int) (LF : Int → Int) (sn : Int) (SF : Int → Int) (N : Int → Int) (y : Int) (x : Int) (ob : Nat) (OB : Int → Int) (hS : ScOk N ou mi bo ln LF sn SF) (hN : NOk0 N) (hv : -2147483648 ≤ y ∧ y < 2147483648) (hx : -2147483648 ≤ x ∧ x < 2147483648) (hs : 0 ≤ y ∧ y < N 4) (hne : y = x) (hst : l.stackTraces = false) : mH l yL_alike wsL_alike 8 126 K [.ref (ad 0), .int (iI y), .int (iI x), .ref ob] [gRLC K ad, gScn K (ad 3) (ad 14) (ad 15) (ad 16) (ad 17) ou mi bo ln LF sn SF, gArrL K 1 ob OB] (fun (v : Value) (u : Unit) => (v = .int (iI 2))) (fun (u : Unit) => [gRLC K ad, gScn K (ad 3) (ad 14) (ad 15) (ad 16) (ad 17) ou mi bo ln LF sn SF, gArrL K 1 ob OB]) 1 6 := by
  refine mH_of cL_alike 5 (by decide) rfl (Nat.le_of_ble_eq_true rfl) ?_
  intro p e s m below meth c A ls Q S C hG hl hr hlk hin htab hQ
  have S : CallFix p m c cL_alike 5 s ([.ref (ad 0), .int (iI y), .int (iI x), .ref ob] : List Value).toArray wsL_alike RL := S
  have hl : lv_has ls 5 [(0, .ref (ad 0)), (1, .int (iI y)), (2, .int (iI x)), (3, .ref ob)] := hl
  have hG : gW K A s.heap [gRLC K ad, gScn K (ad 3) (ad 14) (ad 15) (ad 16) (ad 17) ou mi bo ln LF sn SF, gArrL K 1 ob OB] s.heap [] := hG
  refine lv_aload_n S.1 S.2.1 dL_alike_0 rfl (lv_at hl 3 rfl) ?_
  refine g_iconst S dL_alike_1 ?_
  refine lv_aload_n S.1 S.2.1 dL_alike_2 rfl (lv_at hl 0 rfl) ?_
  refine lv_iload_n S.1 S.2.1 dL_alike_3 rfl (lv_at hl 1 rfl) ?_
  refine lv_iload_n S.1 S.2.1 dL_alike_4 rfl (lv_at hl 2 rfl) ?_
  refine g_xV (E := "java/lang/IllegalArgumentException") (As := [.int (iI y), .int (iI x)]) (rest := [.int (iI 0), .ref ob]) (gs' := (fun u : Unit => [gRLC K ad, gScn K (ad 3) (ad 14) (ad 15) (ad 16) (ad 17) ou mi bo ln LF sn SF, gArrL K 1 ob OB])) S C hG [0, 1] (x2_alike l K ad ou mi bo ln LF sn SF N y x hS hN hv hx hs hne hst) rfl rfl 0 rfl rfl (cwV 2 S.2.2.2.2 gL_alike_X8_alike rfl rfl rfl (by decide +kernel) ⟨Nat.le_of_ble_eq_true rfl, Nat.le_of_ble_eq_true rfl⟩) rfl hl.1 rfl (Nat.le_of_ble_eq_true rfl) dL_alike_5 ⟨Nat.le_of_ble_eq_true rfl, Nat.le_of_ble_eq_true rfl⟩ (fun _ => Nat.le_of_ble_eq_true rfl) (fun _ => rfl) (fun u q9 ce9 H locs hp hG hq9 hv9 hcl9 => ?_)
  refine g_catch (E := "java/lang/IllegalArgumentException") (st := 0) (en := 10) (hpc := 17) (ct := 19) (suf' := []) S C [(0, 10, 13, 29)] htab (List.mem_of_getElem? (l := exC) (i := 1) rfl) (List.forall_mem_cons.mpr ⟨⟨by decide, "java/lang/IndexOutOfBoundsException", (List.mem_of_getElem? (l := exC) (i := 0) rfl), by decide, (List.mem_of_getElem? (i := 1) rfl)⟩, fun _ h => absurd h List.not_mem_nil⟩) ⟨by decide, by decide⟩ (by decide) (List.mem_of_getElem? (i := 2) rfl) hq9 hv9 hcl9 ?_
  refine lv_astore (lv' := [(4, .ref q9), (0, .ref (ad 0)), (1, .int (iI y)), (2, .int (iI x)), (3, .ref ob)]) S.1 S.2.1 dL_alike_17 hl (by decide) rfl (fun ls hl => ?_)
  refine g_iconst S dL_alike_19 ?_
  have hG : gW K A s.heap [gRLC K ad, gScn K (ad 3) (ad 14) (ad 15) (ad 16) (ad 17) ou mi bo ln LF sn SF, gArrL K 1 ob OB] _ _ := hG
  exact g_iretH S hr hlk hQ dL_alike_20 (Nat.le_of_ble_eq_true rfl) (Nat.le_of_ble_eq_true rfl) (() : Unit) rfl hG

set_option maxHeartbeats 1000000 in
set_option maxRecDepth 100000 in
theorem c_L_together (l : Launch) (K : KC) (ad : Nat → Nat) (ou : Int) (mi : Int) (bo : Int) (ln : Int) (LF : Int → Int) (sn : Int) (SF : Int → Int) (N : Int → Int) (pv : PV) (ps : Nat) (pr : RU) (pX : Int → Int) (pw : PV) (ps_2 : Nat) (pr_2 : RU) (pX_2 : Int → Int) (y : Int) (x : Int) (ob : Nat) (OB : Int → Int) (hS : ScOk N ou mi bo ln LF sn SF) (hN : NOk0 N) (hv : -2147483648 ≤ y ∧ y < 2147483648) (hx : -2147483648 ≤ x ∧ x < 2147483648) (hs : 0 ≤ y ∧ y < N 4) (ht : 0 ≤ x ∧ x < N 4) (hne : y ≠ x) : mH l yL_together wsL_together 6 141 K [.ref (ad 0), .int (iI y), .int (iI x), .ref ob] [gRLC K ad, gPthV K (ad 8) (ad 27) (ad 35) (ad 28) (ad 29) (ad 30) (ad 31) (ad 32) (ad 33) (ad 34) pv, gRayU K (ad 35) (ad 36) (ad 37) (ad 38) (ad 39) ps pr pX, gPthV K (ad 9) (ad 40) (ad 48) (ad 41) (ad 42) (ad 43) (ad 44) (ad 45) (ad 46) (ad 47) pw, gRayU K (ad 48) (ad 49) (ad 50) (ad 51) (ad 52) ps_2 pr_2 pX_2, gScn K (ad 3) (ad 14) (ad 15) (ad 16) (ad 17) ou mi bo ln LF sn SF, gArrL K 1 ob OB] (fun (v : Value) (u : Int × PV × RU × (Int → Int) × PV × RU × (Int → Int)) => (v = .int (iI 0)) ∧ (PthR N (sP N y) (sY N y) (sD N y) u.2.1) ∧ (PthR N (sP N x) (sY N x) (sD N x) u.2.2.2.2.1) ∧ (tgR N y x u.1)) (fun (u : Int × PV × RU × (Int → Int) × PV × RU × (Int → Int)) => [gRLC K ad, gPthV K (ad 8) (ad 27) (ad 35) (ad 28) (ad 29) (ad 30) (ad 31) (ad 32) (ad 33) (ad 34) u.2.1, gRayU K (ad 35) (ad 36) (ad 37) (ad 38) (ad 39) (ad 3) u.2.2.1 u.2.2.2.1, gPthV K (ad 9) (ad 40) (ad 48) (ad 41) (ad 42) (ad 43) (ad 44) (ad 45) (ad 46) (ad 47) u.2.2.2.2.1, gRayU K (ad 48) (ad 49) (ad 50) (ad 51) (ad 52) (ad 3) u.2.2.2.2.2.1 u.2.2.2.2.2.2, gScn K (ad 3) (ad 14) (ad 15) (ad 16) (ad 17) ou mi bo ln LF sn SF, gArrL K 1 ob (upI OB 0 (iI u.1).toInt)]) 0 0 := by
  refine mH_of cL_together 5 (by decide) rfl (Nat.le_of_ble_eq_true rfl) ?_
  intro p e s m below meth c A ls Q S C hG hl hr hlk hin htab hQ
  have S : CallFix p m c cL_together 5 s ([.ref (ad 0), .int (iI y), .int (iI x), .ref ob] : List Value).toArray wsL_together RL := S
  have hl : lv_has ls 5 [(0, .ref (ad 0)), (1, .int (iI y)), (2, .int (iI x)), (3, .ref ob)] := hl
  have hG : gW K A s.heap [gRLC K ad, gPthV K (ad 8) (ad 27) (ad 35) (ad 28) (ad 29) (ad 30) (ad 31) (ad 32) (ad 33) (ad 34) pv, gRayU K (ad 35) (ad 36) (ad 37) (ad 38) (ad 39) ps pr pX, gPthV K (ad 9) (ad 40) (ad 48) (ad 41) (ad 42) (ad 43) (ad 44) (ad 45) (ad 46) (ad 47) pw, gRayU K (ad 48) (ad 49) (ad 50) (ad 51) (ad 52) ps_2 pr_2 pX_2, gScn K (ad 3) (ad 14) (ad 15) (ad 16) (ad 17) ou mi bo ln LF sn SF, gArrL K 1 ob OB] s.heap [] := hG
  refine lv_aload_n S.1 S.2.1 dL_together_0 rfl (lv_at hl 3 rfl) ?_
  refine g_iconst S dL_together_1 ?_
  refine lv_aload_n S.1 S.2.1 dL_together_2 rfl (lv_at hl 0 rfl) ?_
  refine lv_iload_n S.1 S.2.1 dL_together_3 rfl (lv_at hl 1 rfl) ?_
  refine lv_iload_n S.1 S.2.1 dL_together_4 rfl (lv_at hl 2 rfl) ?_
  refine g_invV (As := [.int (iI y), .int (iI x)]) (rest := [.int (iI 0), .ref ob]) (gs' := (fun u : Int × PV × RU × (Int → Int) × PV × RU × (Int → Int) => [gRLC K ad, gPthV K (ad 8) (ad 27) (ad 35) (ad 28) (ad 29) (ad 30) (ad 31) (ad 32) (ad 33) (ad 34) u.2.1, gRayU K (ad 35) (ad 36) (ad 37) (ad 38) (ad 39) (ad 3) u.2.2.1 u.2.2.2.1, gPthV K (ad 9) (ad 40) (ad 48) (ad 41) (ad 42) (ad 43) (ad 44) (ad 45) (ad 46) (ad 47) u.2.2.2.2.1, gRayU K (ad 48) (ad 49) (ad 50) (ad 51) (ad 52) (ad 3) u.2.2.2.2.2.1 u.2.2.2.2.2.2, gScn K (ad 3) (ad 14) (ad 15) (ad 16) (ad 17) ou mi bo ln LF sn SF, gArrL K 1 ob OB])) S C hG [0, 1, 2, 3, 4, 5] (c_X8_together l K ad ou mi bo ln LF sn SF N pv ps pr pX pw ps_2 pr_2 pX_2 y x hS hN hv hx hs ht hne) rfl rfl 0 rfl rfl (cwV 2 S.2.2.2.2 gL_together_X8_together rfl rfl rfl (by decide +kernel) ⟨Nat.le_of_ble_eq_true rfl, Nat.le_of_ble_eq_true rfl⟩) rfl hl.1 rfl (Nat.le_of_ble_eq_true rfl) dL_together_5 ⟨Nat.le_of_ble_eq_true rfl, Nat.le_of_ble_eq_true rfl⟩ (fun _ => Nat.le_of_ble_eq_true rfl) (fun _ => rfl) (fun v u H locs hp hG => ?_)
  obtain ⟨r_5, pv2_5, pr2_5, pX2_5, pw2_5, pr_22_5, pX_22_5⟩ := u
  obtain ⟨rfl, hp_5, hq_5, hm_5⟩ := hp
  have hp_5 : PthR N (sP N y) (sY N y) (sD N y) pv2_5 := hp_5
  have hq_5 : PthR N (sP N x) (sY N x) (sD N x) pw2_5 := hq_5
  have hm_5 : tgR N y x r_5 := hm_5
  have hG : gW K A s.heap [gRLC K ad, gPthV K (ad 8) (ad 27) (ad 35) (ad 28) (ad 29) (ad 30) (ad 31) (ad 32) (ad 33) (ad 34) pv2_5, gRayU K (ad 35) (ad 36) (ad 37) (ad 38) (ad 39) (ad 3) pr2_5 pX2_5, gPthV K (ad 9) (ad 40) (ad 48) (ad 41) (ad 42) (ad 43) (ad 44) (ad 45) (ad 46) (ad 47) pw2_5, gRayU K (ad 48) (ad 49) (ad 50) (ad 51) (ad 52) (ad 3) pr_22_5 pX_22_5, gScn K (ad 3) (ad 14) (ad 15) (ad 16) (ad 17) ou mi bo ln LF sn SF, gArrL K 1 ob OB] _ _ := hG
  refine g_i2lr S dL_together_8 ?_
  refine g_last (n := 1) (gs' := [gRLC K ad, gPthV K (ad 8) (ad 27) (ad 35) (ad 28) (ad 29) (ad 30) (ad 31) (ad 32) (ad 33) (ad 34) pv2_5, gRayU K (ad 35) (ad 36) (ad 37) (ad 38) (ad 39) (ad 3) pr2_5 pX2_5, gPthV K (ad 9) (ad 40) (ad 48) (ad 41) (ad 42) (ad 43) (ad 44) (ad 45) (ad 46) (ad 47) pw2_5, gRayU K (ad 48) (ad 49) (ad 50) (ad 51) (ad 52) (ad 3) pr_22_5 pX_22_5, gScn K (ad 3) (ad 14) (ad 15) (ad 16) (ad 17) ou mi bo ln LF sn SF, gArrL K 1 ob (upI OB 0 ((iI r_5).toInt))]) S C hG 34 rfl (by decide) (by decide) (by decide) rfl dL_together_9 (fun H locs hG => ?_)
  refine lv_goto (tgt := 21) S.1 S.2.1 dL_together_10 (by decide) ?_
  refine g_iconst S dL_together_21 ?_
  have hG : gW K A s.heap [gRLC K ad, gPthV K (ad 8) (ad 27) (ad 35) (ad 28) (ad 29) (ad 30) (ad 31) (ad 32) (ad 33) (ad 34) pv2_5, gRayU K (ad 35) (ad 36) (ad 37) (ad 38) (ad 39) (ad 3) pr2_5 pX2_5, gPthV K (ad 9) (ad 40) (ad 48) (ad 41) (ad 42) (ad 43) (ad 44) (ad 45) (ad 46) (ad 47) pw2_5, gRayU K (ad 48) (ad 49) (ad 50) (ad 51) (ad 52) (ad 3) pr_22_5 pX_22_5, gScn K (ad 3) (ad 14) (ad 15) (ad 16) (ad 17) ou mi bo ln LF sn SF, gArrL K 1 ob (upI OB 0 (iI r_5).toInt)] _ _ := hG
  exact g_iretH S hr hlk hQ dL_together_22 (Nat.le_of_ble_eq_true rfl) (Nat.le_of_ble_eq_true rfl) ((r_5, pv2_5, pr2_5, pX2_5, pw2_5, pr_22_5, pX_22_5) : Int × PV × RU × (Int → Int) × PV × RU × (Int → Int)) ⟨rfl, hp_5, hq_5, hm_5⟩ hG

set_option maxHeartbeats 1000000 in
set_option maxRecDepth 100000 in
theorem x1_L_together (l : Launch) (K : KC) (ad : Nat → Nat) (ou : Int) (mi : Int) (bo : Int) (ln : Int) (LF : Int → Int) (sn : Int) (SF : Int → Int) (N : Int → Int) (y : Int) (x : Int) (ob : Nat) (OB : Int → Int) (hS : ScOk N ou mi bo ln LF sn SF) (hN : NOk0 N) (hv : -2147483648 ≤ y ∧ y < 2147483648) (hx : -2147483648 ≤ x ∧ x < 2147483648) (hs : ¬ (0 ≤ y ∧ y < N 4)) (hst : l.stackTraces = false) : mH l yL_together wsL_together 9 147 K [.ref (ad 0), .int (iI y), .int (iI x), .ref ob] [gRLC K ad, gScn K (ad 3) (ad 14) (ad 15) (ad 16) (ad 17) ou mi bo ln LF sn SF, gArrL K 1 ob OB] (fun (v : Value) (u : Unit) => (v = .int (iI 1))) (fun (u : Unit) => [gRLC K ad, gScn K (ad 3) (ad 14) (ad 15) (ad 16) (ad 17) ou mi bo ln LF sn SF, gArrL K 1 ob OB]) 1 6 := by
  refine mH_of cL_together 5 (by decide) rfl (Nat.le_of_ble_eq_true rfl) ?_
  intro p e s m below meth c A ls Q S C hG hl hr hlk hin htab hQ
  have S : CallFix p m c cL_together 5 s ([.ref (ad 0), .int (iI y), .int (iI x), .ref ob] : List Value).toArray wsL_together RL := S
  have hl : lv_has ls 5 [(0, .ref (ad 0)), (1, .int (iI y)), (2, .int (iI x)), (3, .ref ob)] := hl
  have hG : gW K A s.heap [gRLC K ad, gScn K (ad 3) (ad 14) (ad 15) (ad 16) (ad 17) ou mi bo ln LF sn SF, gArrL K 1 ob OB] s.heap [] := hG
  refine lv_aload_n S.1 S.2.1 dL_together_0 rfl (lv_at hl 3 rfl) ?_
  refine g_iconst S dL_together_1 ?_
  refine lv_aload_n S.1 S.2.1 dL_together_2 rfl (lv_at hl 0 rfl) ?_
  refine lv_iload_n S.1 S.2.1 dL_together_3 rfl (lv_at hl 1 rfl) ?_
  refine lv_iload_n S.1 S.2.1 dL_together_4 rfl (lv_at hl 2 rfl) ?_
  refine g_xV (E := "java/lang/IndexOutOfBoundsException") (As := [.int (iI y), .int (iI x)]) (rest := [.int (iI 0), .ref ob]) (gs' := (fun u : Unit => [gRLC K ad, gScn K (ad 3) (ad 14) (ad 15) (ad 16) (ad 17) ou mi bo ln LF sn SF, gArrL K 1 ob OB])) S C hG [0, 1] (x1_together l K ad ou mi bo ln LF sn SF N y x hS hN hv hx hs hst) rfl rfl 0 rfl rfl (cwV 2 S.2.2.2.2 gL_together_X8_together rfl rfl rfl (by decide +kernel) ⟨Nat.le_of_ble_eq_true rfl, Nat.le_of_ble_eq_true rfl⟩) rfl hl.1 rfl (Nat.le_of_ble_eq_true rfl) dL_together_5 ⟨Nat.le_of_ble_eq_true rfl, Nat.le_of_ble_eq_true rfl⟩ (fun _ => Nat.le_of_ble_eq_true rfl) (fun _ => rfl) (fun u q9 ce9 H locs hp hG hq9 hv9 hcl9 => ?_)
  refine g_catch (E := "java/lang/IndexOutOfBoundsException") (st := 0) (en := 10) (hpc := 13) (ct := 29) (suf' := [(0, 10, 17, 19)]) S C [] htab (List.mem_of_getElem? (l := exC) (i := 0) rfl) (fun _ h => absurd h List.not_mem_nil) ⟨by decide, by decide⟩ (by decide) (List.mem_of_getElem? (i := 1) rfl) hq9 hv9 hcl9 ?_
  refine lv_astore (lv' := [(4, .ref q9), (0, .ref (ad 0)), (1, .int (iI y)), (2, .int (iI x)), (3, .ref ob)]) S.1 S.2.1 dL_together_13 hl (by decide) rfl (fun ls hl => ?_)
  refine g_iconst S dL_together_15 ?_
  have hG : gW K A s.heap [gRLC K ad, gScn K (ad 3) (ad 14) (ad 15) (ad 16) (ad 17) ou mi bo ln LF sn SF, gArrL K 1 ob OB] _ _ := hG
  exact g_iretH S hr hlk hQ dL_together_16 (Nat.le_of_ble_eq_true rfl) (Nat.le_of_ble_eq_true rfl) (() : Unit) rfl hG

set_option maxHeartbeats 1000000 in
set_option maxRecDepth 100000 in
theorem x1b_L_together (l : Launch) (K : KC) (ad : Nat → Nat) (ou : Int) (mi : Int) (bo : Int) (ln : Int) (LF : Int → Int) (sn : Int) (SF : Int → Int) (N : Int → Int) (y : Int) (x : Int) (ob : Nat) (OB : Int → Int) (hS : ScOk N ou mi bo ln LF sn SF) (hN : NOk0 N) (hv : -2147483648 ≤ y ∧ y < 2147483648) (hx : -2147483648 ≤ x ∧ x < 2147483648) (hs : 0 ≤ y ∧ y < N 4) (ht : ¬ (0 ≤ x ∧ x < N 4)) (hst : l.stackTraces = false) : mH l yL_together wsL_together 9 147 K [.ref (ad 0), .int (iI y), .int (iI x), .ref ob] [gRLC K ad, gScn K (ad 3) (ad 14) (ad 15) (ad 16) (ad 17) ou mi bo ln LF sn SF, gArrL K 1 ob OB] (fun (v : Value) (u : Unit) => (v = .int (iI 1))) (fun (u : Unit) => [gRLC K ad, gScn K (ad 3) (ad 14) (ad 15) (ad 16) (ad 17) ou mi bo ln LF sn SF, gArrL K 1 ob OB]) 1 6 := by
  refine mH_of cL_together 5 (by decide) rfl (Nat.le_of_ble_eq_true rfl) ?_
  intro p e s m below meth c A ls Q S C hG hl hr hlk hin htab hQ
  have S : CallFix p m c cL_together 5 s ([.ref (ad 0), .int (iI y), .int (iI x), .ref ob] : List Value).toArray wsL_together RL := S
  have hl : lv_has ls 5 [(0, .ref (ad 0)), (1, .int (iI y)), (2, .int (iI x)), (3, .ref ob)] := hl
  have hG : gW K A s.heap [gRLC K ad, gScn K (ad 3) (ad 14) (ad 15) (ad 16) (ad 17) ou mi bo ln LF sn SF, gArrL K 1 ob OB] s.heap [] := hG
  refine lv_aload_n S.1 S.2.1 dL_together_0 rfl (lv_at hl 3 rfl) ?_
  refine g_iconst S dL_together_1 ?_
  refine lv_aload_n S.1 S.2.1 dL_together_2 rfl (lv_at hl 0 rfl) ?_
  refine lv_iload_n S.1 S.2.1 dL_together_3 rfl (lv_at hl 1 rfl) ?_
  refine lv_iload_n S.1 S.2.1 dL_together_4 rfl (lv_at hl 2 rfl) ?_
  refine g_xV (E := "java/lang/IndexOutOfBoundsException") (As := [.int (iI y), .int (iI x)]) (rest := [.int (iI 0), .ref ob]) (gs' := (fun u : Unit => [gRLC K ad, gScn K (ad 3) (ad 14) (ad 15) (ad 16) (ad 17) ou mi bo ln LF sn SF, gArrL K 1 ob OB])) S C hG [0, 1] (x1b_together l K ad ou mi bo ln LF sn SF N y x hS hN hv hx hs ht hst) rfl rfl 0 rfl rfl (cwV 2 S.2.2.2.2 gL_together_X8_together rfl rfl rfl (by decide +kernel) ⟨Nat.le_of_ble_eq_true rfl, Nat.le_of_ble_eq_true rfl⟩) rfl hl.1 rfl (Nat.le_of_ble_eq_true rfl) dL_together_5 ⟨Nat.le_of_ble_eq_true rfl, Nat.le_of_ble_eq_true rfl⟩ (fun _ => Nat.le_of_ble_eq_true rfl) (fun _ => rfl) (fun u q9 ce9 H locs hp hG hq9 hv9 hcl9 => ?_)
  refine g_catch (E := "java/lang/IndexOutOfBoundsException") (st := 0) (en := 10) (hpc := 13) (ct := 29) (suf' := [(0, 10, 17, 19)]) S C [] htab (List.mem_of_getElem? (l := exC) (i := 0) rfl) (fun _ h => absurd h List.not_mem_nil) ⟨by decide, by decide⟩ (by decide) (List.mem_of_getElem? (i := 1) rfl) hq9 hv9 hcl9 ?_
  refine lv_astore (lv' := [(4, .ref q9), (0, .ref (ad 0)), (1, .int (iI y)), (2, .int (iI x)), (3, .ref ob)]) S.1 S.2.1 dL_together_13 hl (by decide) rfl (fun ls hl => ?_)
  refine g_iconst S dL_together_15 ?_
  have hG : gW K A s.heap [gRLC K ad, gScn K (ad 3) (ad 14) (ad 15) (ad 16) (ad 17) ou mi bo ln LF sn SF, gArrL K 1 ob OB] _ _ := hG
  exact g_iretH S hr hlk hQ dL_together_16 (Nat.le_of_ble_eq_true rfl) (Nat.le_of_ble_eq_true rfl) (() : Unit) rfl hG

set_option maxHeartbeats 1000000 in
set_option maxRecDepth 100000 in
theorem x2_L_together (l : Launch) (K : KC) (ad : Nat → Nat) (ou : Int) (mi : Int) (bo : Int) (ln : Int) (LF : Int → Int) (sn : Int) (SF : Int → Int) (N : Int → Int) (y : Int) (x : Int) (ob : Nat) (OB : Int → Int) (hS : ScOk N ou mi bo ln LF sn SF) (hN : NOk0 N) (hv : -2147483648 ≤ y ∧ y < 2147483648) (hx : -2147483648 ≤ x ∧ x < 2147483648) (hs : 0 ≤ y ∧ y < N 4) (hne : y = x) (hst : l.stackTraces = false) : mH l yL_together wsL_together 8 126 K [.ref (ad 0), .int (iI y), .int (iI x), .ref ob] [gRLC K ad, gScn K (ad 3) (ad 14) (ad 15) (ad 16) (ad 17) ou mi bo ln LF sn SF, gArrL K 1 ob OB] (fun (v : Value) (u : Unit) => (v = .int (iI 2))) (fun (u : Unit) => [gRLC K ad, gScn K (ad 3) (ad 14) (ad 15) (ad 16) (ad 17) ou mi bo ln LF sn SF, gArrL K 1 ob OB]) 1 6 := by
  refine mH_of cL_together 5 (by decide) rfl (Nat.le_of_ble_eq_true rfl) ?_
  intro p e s m below meth c A ls Q S C hG hl hr hlk hin htab hQ
  have S : CallFix p m c cL_together 5 s ([.ref (ad 0), .int (iI y), .int (iI x), .ref ob] : List Value).toArray wsL_together RL := S
  have hl : lv_has ls 5 [(0, .ref (ad 0)), (1, .int (iI y)), (2, .int (iI x)), (3, .ref ob)] := hl
  have hG : gW K A s.heap [gRLC K ad, gScn K (ad 3) (ad 14) (ad 15) (ad 16) (ad 17) ou mi bo ln LF sn SF, gArrL K 1 ob OB] s.heap [] := hG
  refine lv_aload_n S.1 S.2.1 dL_together_0 rfl (lv_at hl 3 rfl) ?_
  refine g_iconst S dL_together_1 ?_
  refine lv_aload_n S.1 S.2.1 dL_together_2 rfl (lv_at hl 0 rfl) ?_
  refine lv_iload_n S.1 S.2.1 dL_together_3 rfl (lv_at hl 1 rfl) ?_
  refine lv_iload_n S.1 S.2.1 dL_together_4 rfl (lv_at hl 2 rfl) ?_
  refine g_xV (E := "java/lang/IllegalArgumentException") (As := [.int (iI y), .int (iI x)]) (rest := [.int (iI 0), .ref ob]) (gs' := (fun u : Unit => [gRLC K ad, gScn K (ad 3) (ad 14) (ad 15) (ad 16) (ad 17) ou mi bo ln LF sn SF, gArrL K 1 ob OB])) S C hG [0, 1] (x2_together l K ad ou mi bo ln LF sn SF N y x hS hN hv hx hs hne hst) rfl rfl 0 rfl rfl (cwV 2 S.2.2.2.2 gL_together_X8_together rfl rfl rfl (by decide +kernel) ⟨Nat.le_of_ble_eq_true rfl, Nat.le_of_ble_eq_true rfl⟩) rfl hl.1 rfl (Nat.le_of_ble_eq_true rfl) dL_together_5 ⟨Nat.le_of_ble_eq_true rfl, Nat.le_of_ble_eq_true rfl⟩ (fun _ => Nat.le_of_ble_eq_true rfl) (fun _ => rfl) (fun u q9 ce9 H locs hp hG hq9 hv9 hcl9 => ?_)
  refine g_catch (E := "java/lang/IllegalArgumentException") (st := 0) (en := 10) (hpc := 17) (ct := 19) (suf' := []) S C [(0, 10, 13, 29)] htab (List.mem_of_getElem? (l := exC) (i := 1) rfl) (List.forall_mem_cons.mpr ⟨⟨by decide, "java/lang/IndexOutOfBoundsException", (List.mem_of_getElem? (l := exC) (i := 0) rfl), by decide, (List.mem_of_getElem? (i := 1) rfl)⟩, fun _ h => absurd h List.not_mem_nil⟩) ⟨by decide, by decide⟩ (by decide) (List.mem_of_getElem? (i := 2) rfl) hq9 hv9 hcl9 ?_
  refine lv_astore (lv' := [(4, .ref q9), (0, .ref (ad 0)), (1, .int (iI y)), (2, .int (iI x)), (3, .ref ob)]) S.1 S.2.1 dL_together_17 hl (by decide) rfl (fun ls hl => ?_)
  refine g_iconst S dL_together_19 ?_
  have hG : gW K A s.heap [gRLC K ad, gScn K (ad 3) (ad 14) (ad 15) (ad 16) (ad 17) ou mi bo ln LF sn SF, gArrL K 1 ob OB] _ _ := hG
  exact g_iretH S hr hlk hQ dL_together_20 (Nat.le_of_ble_eq_true rfl) (Nat.le_of_ble_eq_true rfl) (() : Unit) rfl hG

set_option maxHeartbeats 1000000 in
set_option maxRecDepth 100000 in
theorem c_L_legsIn (l : Launch) (K : KC) (ad : Nat → Nat) (ou : Int) (mi : Int) (bo : Int) (ln : Int) (LF : Int → Int) (sn : Int) (SF : Int → Int) (N : Int → Int) (pv : PV) (ps : Nat) (pr : RU) (pX : Int → Int) (y : Int) (ob : Nat) (OB : Int → Int) (hS : ScOk N ou mi bo ln LF sn SF) (hN : NOk0 N) (hv : -2147483648 ≤ y ∧ y < 2147483648) (hy : 0 ≤ y ∧ y < N 0) : mH l yL_legsIn wsL_legsIn 7 163 K [.ref (ad 0), .int (iI y), .ref ob] [gRLC K ad, gPthV K (ad 8) (ad 27) (ad 35) (ad 28) (ad 29) (ad 30) (ad 31) (ad 32) (ad 33) (ad 34) pv, gRayU K (ad 35) (ad 36) (ad 37) (ad 38) (ad 39) ps pr pX, gScn K (ad 3) (ad 14) (ad 15) (ad 16) (ad 17) ou mi bo ln LF sn SF, gArrL K 1 ob OB] (fun (v : Value) (u : PV × Nat × RU × (Int → Int)) => (v = .int (iI 0))) (fun (u : PV × Nat × RU × (Int → Int)) => [gRLC K ad, gPthV K (ad 8) (ad 27) (ad 35) (ad 28) (ad 29) (ad 30) (ad 31) (ad 32) (ad 33) (ad 34) u.1, gRayU K (ad 35) (ad 36) (ad 37) (ad 38) (ad 39) u.2.1 u.2.2.1 u.2.2.2, gScn K (ad 3) (ad 14) (ad 15) (ad 16) (ad 17) ou mi bo ln LF sn SF, gArrL K 1 ob (upI OB 0 (iI (lacN N y (N 4).toNat)).toInt)]) 0 0 := by
  refine mH_of cL_legsIn 4 (by decide) rfl (Nat.le_of_ble_eq_true rfl) ?_
  intro p e s m below meth c A ls Q S C hG hl hr hlk hin htab hQ
  have S : CallFix p m c cL_legsIn 4 s ([.ref (ad 0), .int (iI y), .ref ob] : List Value).toArray wsL_legsIn RL := S
  have hl : lv_has ls 4 [(0, .ref (ad 0)), (1, .int (iI y)), (2, .ref ob)] := hl
  have hG : gW K A s.heap [gRLC K ad, gPthV K (ad 8) (ad 27) (ad 35) (ad 28) (ad 29) (ad 30) (ad 31) (ad 32) (ad 33) (ad 34) pv, gRayU K (ad 35) (ad 36) (ad 37) (ad 38) (ad 39) ps pr pX, gScn K (ad 3) (ad 14) (ad 15) (ad 16) (ad 17) ou mi bo ln LF sn SF, gArrL K 1 ob OB] s.heap [] := hG
  refine lv_aload_n S.1 S.2.1 dL_legsIn_0 rfl (lv_at hl 2 rfl) ?_
  refine g_iconst S dL_legsIn_1 ?_
  refine lv_aload_n S.1 S.2.1 dL_legsIn_2 rfl (lv_at hl 0 rfl) ?_
  refine lv_iload_n S.1 S.2.1 dL_legsIn_3 rfl (lv_at hl 1 rfl) ?_
  refine g_invV (As := [.int (iI y)]) (rest := [.int (iI 0), .ref ob]) (gs' := (fun u : PV × Nat × RU × (Int → Int) => [gRLC K ad, gPthV K (ad 8) (ad 27) (ad 35) (ad 28) (ad 29) (ad 30) (ad 31) (ad 32) (ad 33) (ad 34) u.1, gRayU K (ad 35) (ad 36) (ad 37) (ad 38) (ad 39) u.2.1 u.2.2.1 u.2.2.2, gScn K (ad 3) (ad 14) (ad 15) (ad 16) (ad 17) ou mi bo ln LF sn SF, gArrL K 1 ob OB])) S C hG [0, 1, 2, 3] (c_X8_legsIn l K ad ou mi bo ln LF sn SF N pv ps pr pX y hS hN hv hy) rfl rfl 0 rfl rfl (cwV 1 S.2.2.2.2 gL_legsIn_X8_legsIn rfl rfl rfl (by decide +kernel) ⟨Nat.le_of_ble_eq_true rfl, Nat.le_of_ble_eq_true rfl⟩) rfl hl.1 rfl (Nat.le_of_ble_eq_true rfl) dL_legsIn_4 ⟨Nat.le_of_ble_eq_true rfl, Nat.le_of_ble_eq_true rfl⟩ (fun _ => Nat.le_of_ble_eq_true rfl) (fun _ => rfl) (fun v u H locs hp hG => ?_)
  obtain ⟨pv2_4, ps2_4, pr2_4, pX2_4⟩ := u
  subst hp
  have hG : gW K A s.heap [gRLC K ad, gPthV K (ad 8) (ad 27) (ad 35) (ad 28) (ad 29) (ad 30) (ad 31) (ad 32) (ad 33) (ad 34) pv2_4, gRayU K (ad 35) (ad 36) (ad 37) (ad 38) (ad 39) ps2_4 pr2_4 pX2_4, gScn K (ad 3) (ad 14) (ad 15) (ad 16) (ad 17) ou mi bo ln LF sn SF, gArrL K 1 ob OB] _ _ := hG
  refine g_i2lr S dL_legsIn_7 ?_
  refine g_last (n := 1) (gs' := [gRLC K ad, gPthV K (ad 8) (ad 27) (ad 35) (ad 28) (ad 29) (ad 30) (ad 31) (ad 32) (ad 33) (ad 34) pv2_4, gRayU K (ad 35) (ad 36) (ad 37) (ad 38) (ad 39) ps2_4 pr2_4 pX2_4, gScn K (ad 3) (ad 14) (ad 15) (ad 16) (ad 17) ou mi bo ln LF sn SF, gArrL K 1 ob (upI OB 0 ((iI (lacN N y (N 4).toNat)).toInt))]) S C hG 20 rfl (by decide) (by decide) (by decide) rfl dL_legsIn_8 (fun H locs hG => ?_)
  refine lv_goto (tgt := 15) S.1 S.2.1 dL_legsIn_9 (by decide) ?_
  refine g_iconst S dL_legsIn_15 ?_
  have hG : gW K A s.heap [gRLC K ad, gPthV K (ad 8) (ad 27) (ad 35) (ad 28) (ad 29) (ad 30) (ad 31) (ad 32) (ad 33) (ad 34) pv2_4, gRayU K (ad 35) (ad 36) (ad 37) (ad 38) (ad 39) ps2_4 pr2_4 pX2_4, gScn K (ad 3) (ad 14) (ad 15) (ad 16) (ad 17) ou mi bo ln LF sn SF, gArrL K 1 ob (upI OB 0 (iI (lacN N y (N 4).toNat)).toInt)] _ _ := hG
  exact g_iretH S hr hlk hQ dL_legsIn_16 (Nat.le_of_ble_eq_true rfl) (Nat.le_of_ble_eq_true rfl) ((pv2_4, ps2_4, pr2_4, pX2_4) : PV × Nat × RU × (Int → Int)) rfl hG

set_option maxHeartbeats 1000000 in
set_option maxRecDepth 100000 in
theorem x1_L_legsIn (l : Launch) (K : KC) (ad : Nat → Nat) (ou : Int) (mi : Int) (bo : Int) (ln : Int) (LF : Int → Int) (sn : Int) (SF : Int → Int) (N : Int → Int) (pv : PV) (ps : Nat) (pr : RU) (pX : Int → Int) (y : Int) (ob : Nat) (OB : Int → Int) (hS : ScOk N ou mi bo ln LF sn SF) (hN : NOk0 N) (hv : -2147483648 ≤ y ∧ y < 2147483648) (hy : ¬ (0 ≤ y ∧ y < N 0)) (hst : l.stackTraces = false) : mH l yL_legsIn wsL_legsIn 8 124 K [.ref (ad 0), .int (iI y), .ref ob] [gRLC K ad, gPthV K (ad 8) (ad 27) (ad 35) (ad 28) (ad 29) (ad 30) (ad 31) (ad 32) (ad 33) (ad 34) pv, gRayU K (ad 35) (ad 36) (ad 37) (ad 38) (ad 39) ps pr pX, gScn K (ad 3) (ad 14) (ad 15) (ad 16) (ad 17) ou mi bo ln LF sn SF, gArrL K 1 ob OB] (fun (v : Value) (u : Unit) => (v = .int (iI 1))) (fun (u : Unit) => [gRLC K ad, gPthV K (ad 8) (ad 27) (ad 35) (ad 28) (ad 29) (ad 30) (ad 31) (ad 32) (ad 33) (ad 34) pv, gRayU K (ad 35) (ad 36) (ad 37) (ad 38) (ad 39) ps pr pX, gScn K (ad 3) (ad 14) (ad 15) (ad 16) (ad 17) ou mi bo ln LF sn SF, gArrL K 1 ob OB]) 1 6 := by
  refine mH_of cL_legsIn 4 (by decide) rfl (Nat.le_of_ble_eq_true rfl) ?_
  intro p e s m below meth c A ls Q S C hG hl hr hlk hin htab hQ
  have S : CallFix p m c cL_legsIn 4 s ([.ref (ad 0), .int (iI y), .ref ob] : List Value).toArray wsL_legsIn RL := S
  have hl : lv_has ls 4 [(0, .ref (ad 0)), (1, .int (iI y)), (2, .ref ob)] := hl
  have hG : gW K A s.heap [gRLC K ad, gPthV K (ad 8) (ad 27) (ad 35) (ad 28) (ad 29) (ad 30) (ad 31) (ad 32) (ad 33) (ad 34) pv, gRayU K (ad 35) (ad 36) (ad 37) (ad 38) (ad 39) ps pr pX, gScn K (ad 3) (ad 14) (ad 15) (ad 16) (ad 17) ou mi bo ln LF sn SF, gArrL K 1 ob OB] s.heap [] := hG
  refine lv_aload_n S.1 S.2.1 dL_legsIn_0 rfl (lv_at hl 2 rfl) ?_
  refine g_iconst S dL_legsIn_1 ?_
  refine lv_aload_n S.1 S.2.1 dL_legsIn_2 rfl (lv_at hl 0 rfl) ?_
  refine lv_iload_n S.1 S.2.1 dL_legsIn_3 rfl (lv_at hl 1 rfl) ?_
  refine g_xV (E := "java/lang/IndexOutOfBoundsException") (As := [.int (iI y)]) (rest := [.int (iI 0), .ref ob]) (gs' := (fun u : Unit => [gRLC K ad, gPthV K (ad 8) (ad 27) (ad 35) (ad 28) (ad 29) (ad 30) (ad 31) (ad 32) (ad 33) (ad 34) pv, gRayU K (ad 35) (ad 36) (ad 37) (ad 38) (ad 39) ps pr pX, gScn K (ad 3) (ad 14) (ad 15) (ad 16) (ad 17) ou mi bo ln LF sn SF, gArrL K 1 ob OB])) S C hG [0, 1, 2, 3] (x1_legsIn l K ad ou mi bo ln LF sn SF N pv ps pr pX y hS hN hv hy hst) rfl rfl 0 rfl rfl (cwV 1 S.2.2.2.2 gL_legsIn_X8_legsIn rfl rfl rfl (by decide +kernel) ⟨Nat.le_of_ble_eq_true rfl, Nat.le_of_ble_eq_true rfl⟩) rfl hl.1 rfl (Nat.le_of_ble_eq_true rfl) dL_legsIn_4 ⟨Nat.le_of_ble_eq_true rfl, Nat.le_of_ble_eq_true rfl⟩ (fun _ => Nat.le_of_ble_eq_true rfl) (fun _ => rfl) (fun u q9 ce9 H locs hp hG hq9 hv9 hcl9 => ?_)
  refine g_catch (E := "java/lang/IndexOutOfBoundsException") (st := 0) (en := 9) (hpc := 12) (ct := 29) (suf' := []) S C [] htab (List.mem_of_getElem? (l := exC) (i := 0) rfl) (fun _ h => absurd h List.not_mem_nil) ⟨by decide, by decide⟩ (by decide) (List.mem_of_getElem? (i := 1) rfl) hq9 hv9 hcl9 ?_
  refine lv_astore_n (lv' := [(3, .ref q9), (0, .ref (ad 0)), (1, .int (iI y)), (2, .ref ob)]) S.1 S.2.1 dL_legsIn_12 rfl hl (by decide) rfl (fun ls hl => ?_)
  refine g_iconst S dL_legsIn_13 ?_
  have hG : gW K A s.heap [gRLC K ad, gPthV K (ad 8) (ad 27) (ad 35) (ad 28) (ad 29) (ad 30) (ad 31) (ad 32) (ad 33) (ad 34) pv, gRayU K (ad 35) (ad 36) (ad 37) (ad 38) (ad 39) ps pr pX, gScn K (ad 3) (ad 14) (ad 15) (ad 16) (ad 17) ou mi bo ln LF sn SF, gArrL K 1 ob OB] _ _ := hG
  exact g_iretH S hr hlk hQ dL_legsIn_14 (Nat.le_of_ble_eq_true rfl) (Nat.le_of_ble_eq_true rfl) (() : Unit) rfl hG

set_option maxHeartbeats 1000000 in
set_option maxRecDepth 100000 in
theorem c_L_share (l : Launch) (K : KC) (ad : Nat → Nat) (ou : Int) (mi : Int) (bo : Int) (ln : Int) (LF : Int → Int) (sn : Int) (SF : Int → Int) (N : Int → Int) (rs : Nat) (rv : RU) (XF : Int → Int) (y : Int) (ob : Nat) (OB : Nat → UInt64) (hS : ScOk N ou mi bo ln LF sn SF) (hN : NOk0 N) (hv : -2147483648 ≤ y ∧ y < 2147483648) (hs : 0 ≤ y ∧ y < N 4) : mH l yL_share wsL_share 6 138 K [.ref (ad 0), .int (iI y), .ref ob] [gRLC K ad, gScn K (ad 3) (ad 14) (ad 15) (ad 16) (ad 17) ou mi bo ln LF sn SF, gRayU K (ad 7) (ad 23) (ad 24) (ad 25) (ad 26) rs rv XF, gArrD K 1 ob OB] (fun (v : Value) (u : RU × (Int → Int)) => (v = .int (iI 0))) (fun (u : RU × (Int → Int)) => [gRLC K ad, gScn K (ad 3) (ad 14) (ad 15) (ad 16) (ad 17) ou mi bo ln LF sn SF, gRayU K (ad 7) (ad 23) (ad 24) (ad 25) (ad 26) (ad 3) u.1 u.2, gArrD K 1 ob (vf_upd OB 0 (FP.f2d (FP.fdiv (FP.i2f (iI (pS N y))) 1232348160)))]) 0 0 := by
  refine mH_of cL_share 4 (by decide) rfl (Nat.le_of_ble_eq_true rfl) ?_
  intro p e s m below meth c A ls Q S C hG hl hr hlk hin htab hQ
  have S : CallFix p m c cL_share 4 s ([.ref (ad 0), .int (iI y), .ref ob] : List Value).toArray wsL_share RL := S
  have hl : lv_has ls 4 [(0, .ref (ad 0)), (1, .int (iI y)), (2, .ref ob)] := hl
  have hG : gW K A s.heap [gRLC K ad, gScn K (ad 3) (ad 14) (ad 15) (ad 16) (ad 17) ou mi bo ln LF sn SF, gRayU K (ad 7) (ad 23) (ad 24) (ad 25) (ad 26) rs rv XF, gArrD K 1 ob OB] s.heap [] := hG
  refine lv_aload_n S.1 S.2.1 dL_share_0 rfl (lv_at hl 2 rfl) ?_
  refine g_iconst S dL_share_1 ?_
  refine lv_aload_n S.1 S.2.1 dL_share_2 rfl (lv_at hl 0 rfl) ?_
  refine lv_iload_n S.1 S.2.1 dL_share_3 rfl (lv_at hl 1 rfl) ?_
  refine g_invV (As := [.int (iI y)]) (rest := [.int (iI 0), .ref ob]) (gs' := (fun u : RU × (Int → Int) => [gRLC K ad, gScn K (ad 3) (ad 14) (ad 15) (ad 16) (ad 17) ou mi bo ln LF sn SF, gRayU K (ad 7) (ad 23) (ad 24) (ad 25) (ad 26) (ad 3) u.1 u.2, gArrD K 1 ob OB])) S C hG [0, 1, 2] (c_X8_share l K ad ou mi bo ln LF sn SF N rs rv XF y hS hN hv hs) rfl rfl 0 rfl rfl (cwV 1 S.2.2.2.2 gL_share_X8_share rfl rfl rfl (by decide +kernel) ⟨Nat.le_of_ble_eq_true rfl, Nat.le_of_ble_eq_true rfl⟩) rfl hl.1 rfl (Nat.le_of_ble_eq_true rfl) dL_share_4 ⟨Nat.le_of_ble_eq_true rfl, Nat.le_of_ble_eq_true rfl⟩ (fun _ => Nat.le_of_ble_eq_true rfl) (fun _ => rfl) (fun v u H locs hp hG => ?_)
  obtain ⟨rv2_4, X2_4⟩ := u
  subst hp
  have hG : gW K A s.heap [gRLC K ad, gScn K (ad 3) (ad 14) (ad 15) (ad 16) (ad 17) ou mi bo ln LF sn SF, gRayU K (ad 7) (ad 23) (ad 24) (ad 25) (ad 26) (ad 3) rv2_4 X2_4, gArrD K 1 ob OB] _ _ := hG
  refine lv_f2d S.1 S.2.1 dL_share_7 (nn64 (f2d_nn (shr_nn _))) ?_
  refine g_dast0 (n := 1) (gs' := [gRLC K ad, gScn K (ad 3) (ad 14) (ad 15) (ad 16) (ad 17) ou mi bo ln LF sn SF, gRayU K (ad 7) (ad 23) (ad 24) (ad 25) (ad 26) (ad 3) rv2_4 X2_4, gArrD K 1 ob (vf_upd OB 0 (FP.f2d (FP.fdiv (FP.i2f (iI (pS N y))) 1232348160)))]) S C hG 11 rfl (by decide) (by decide) rfl dL_share_8 (fun H locs hG => ?_)
  refine lv_goto (tgt := 15) S.1 S.2.1 dL_share_9 (by decide) ?_
  refine g_iconst S dL_share_15 ?_
  have hG : gW K A s.heap [gRLC K ad, gScn K (ad 3) (ad 14) (ad 15) (ad 16) (ad 17) ou mi bo ln LF sn SF, gRayU K (ad 7) (ad 23) (ad 24) (ad 25) (ad 26) (ad 3) rv2_4 X2_4, gArrD K 1 ob (vf_upd OB 0 (FP.f2d (FP.fdiv (FP.i2f (iI (pS N y))) 1232348160)))] _ _ := hG
  exact g_iretH S hr hlk hQ dL_share_16 (Nat.le_of_ble_eq_true rfl) (Nat.le_of_ble_eq_true rfl) ((rv2_4, X2_4) : RU × (Int → Int)) rfl hG

set_option maxHeartbeats 1000000 in
set_option maxRecDepth 100000 in
theorem x1_L_share (l : Launch) (K : KC) (ad : Nat → Nat) (ou : Int) (mi : Int) (bo : Int) (ln : Int) (LF : Int → Int) (sn : Int) (SF : Int → Int) (N : Int → Int) (y : Int) (ob : Nat) (OB : Nat → UInt64) (hS : ScOk N ou mi bo ln LF sn SF) (hN : NOk0 N) (hv : -2147483648 ≤ y ∧ y < 2147483648) (hs : ¬ (0 ≤ y ∧ y < N 4)) (hst : l.stackTraces = false) : mH l yL_share wsL_share 8 124 K [.ref (ad 0), .int (iI y), .ref ob] [gRLC K ad, gScn K (ad 3) (ad 14) (ad 15) (ad 16) (ad 17) ou mi bo ln LF sn SF, gArrD K 1 ob OB] (fun (v : Value) (u : Unit) => (v = .int (iI 1))) (fun (u : Unit) => [gRLC K ad, gScn K (ad 3) (ad 14) (ad 15) (ad 16) (ad 17) ou mi bo ln LF sn SF, gArrD K 1 ob OB]) 1 6 := by
  refine mH_of cL_share 4 (by decide) rfl (Nat.le_of_ble_eq_true rfl) ?_
  intro p e s m below meth c A ls Q S C hG hl hr hlk hin htab hQ
  have S : CallFix p m c cL_share 4 s ([.ref (ad 0), .int (iI y), .ref ob] : List Value).toArray wsL_share RL := S
  have hl : lv_has ls 4 [(0, .ref (ad 0)), (1, .int (iI y)), (2, .ref ob)] := hl
  have hG : gW K A s.heap [gRLC K ad, gScn K (ad 3) (ad 14) (ad 15) (ad 16) (ad 17) ou mi bo ln LF sn SF, gArrD K 1 ob OB] s.heap [] := hG
  refine lv_aload_n S.1 S.2.1 dL_share_0 rfl (lv_at hl 2 rfl) ?_
  refine g_iconst S dL_share_1 ?_
  refine lv_aload_n S.1 S.2.1 dL_share_2 rfl (lv_at hl 0 rfl) ?_
  refine lv_iload_n S.1 S.2.1 dL_share_3 rfl (lv_at hl 1 rfl) ?_
  refine g_xV (E := "java/lang/IndexOutOfBoundsException") (As := [.int (iI y)]) (rest := [.int (iI 0), .ref ob]) (gs' := (fun u : Unit => [gRLC K ad, gScn K (ad 3) (ad 14) (ad 15) (ad 16) (ad 17) ou mi bo ln LF sn SF, gArrD K 1 ob OB])) S C hG [0, 1] (x1_share l K ad ou mi bo ln LF sn SF N y hS hN hv hs hst) rfl rfl 0 rfl rfl (cwV 1 S.2.2.2.2 gL_share_X8_share rfl rfl rfl (by decide +kernel) ⟨Nat.le_of_ble_eq_true rfl, Nat.le_of_ble_eq_true rfl⟩) rfl hl.1 rfl (Nat.le_of_ble_eq_true rfl) dL_share_4 ⟨Nat.le_of_ble_eq_true rfl, Nat.le_of_ble_eq_true rfl⟩ (fun _ => Nat.le_of_ble_eq_true rfl) (fun _ => rfl) (fun u q9 ce9 H locs hp hG hq9 hv9 hcl9 => ?_)
  refine g_catch (E := "java/lang/IndexOutOfBoundsException") (st := 0) (en := 9) (hpc := 12) (ct := 29) (suf' := []) S C [] htab (List.mem_of_getElem? (l := exC) (i := 0) rfl) (fun _ h => absurd h List.not_mem_nil) ⟨by decide, by decide⟩ (by decide) (List.mem_of_getElem? (i := 1) rfl) hq9 hv9 hcl9 ?_
  refine lv_astore_n (lv' := [(3, .ref q9), (0, .ref (ad 0)), (1, .int (iI y)), (2, .ref ob)]) S.1 S.2.1 dL_share_12 rfl hl (by decide) rfl (fun ls hl => ?_)
  refine g_iconst S dL_share_13 ?_
  have hG : gW K A s.heap [gRLC K ad, gScn K (ad 3) (ad 14) (ad 15) (ad 16) (ad 17) ou mi bo ln LF sn SF, gArrD K 1 ob OB] _ _ := hG
  exact g_iretH S hr hlk hQ dL_share_14 (Nat.le_of_ble_eq_true rfl) (Nat.le_of_ble_eq_true rfl) (() : Unit) rfl hG

set_option maxHeartbeats 1000000 in
set_option maxRecDepth 100000 in
theorem c_L_endIf (l : Launch) (K : KC) (ad : Nat → Nat) (ou : Int) (mi : Int) (bo : Int) (ln : Int) (LF : Int → Int) (sn : Int) (SF : Int → Int) (N : Int → Int) (ou_t : Int) (mi_t : Int) (bo_t : Int) (ln_t : Int) (LF_t : Int → Int) (sn_t : Int) (SF_t : Int → Int) (rs : Nat) (rv : RU) (XF : Int → Int) (y : Int) (w : Int) (x : Int) (ob : Nat) (OB : Int → Int) (hS : ScOk N ou mi bo ln LF sn SF) (hN : NOk0 N) (hv : -2147483648 ≤ y ∧ y < 2147483648) (hw : -2147483648 ≤ w ∧ w < 2147483648) (hx : -2147483648 ≤ x ∧ x < 2147483648) (hs : 0 ≤ y ∧ y < N 4) (hy : 0 ≤ w ∧ w < N 0) (h1 : 1000 ≤ x ∧ x ≤ 4000) : mH l yL_endIf wsL_endIf 6 140 K [.ref (ad 0), .int (iI y), .int (iI w), .int (iI x), .ref ob] [gRLC K ad, gScn K (ad 3) (ad 14) (ad 15) (ad 16) (ad 17) ou mi bo ln LF sn SF, gScn K (ad 4) (ad 18) (ad 19) (ad 20) (ad 21) ou_t mi_t bo_t ln_t LF_t sn_t SF_t, gRayU K (ad 7) (ad 23) (ad 24) (ad 25) (ad 26) rs rv XF, gArrL K 1 ob OB] (fun (v : Value) (u : Int × Int × Int × Int × (Int → Int) × Int × (Int → Int) × RU × (Int → Int)) => (v = .int (iI 0))) (fun (u : Int × Int × Int × Int × (Int → Int) × Int × (Int → Int) × RU × (Int → Int)) => [gRLC K ad, gScn K (ad 3) (ad 14) (ad 15) (ad 16) (ad 17) ou mi bo ln LF sn SF, gScn K (ad 4) (ad 18) (ad 19) (ad 20) (ad 21) u.1 u.2.1 u.2.2.1 u.2.2.2.1 u.2.2.2.2.1 u.2.2.2.2.2.1 u.2.2.2.2.2.2.1, gRayU K (ad 7) (ad 23) (ad 24) (ad 25) (ad 26) (ad 4) u.2.2.2.2.2.2.2.1 u.2.2.2.2.2.2.2.2, gArrL K 1 ob (upI OB 0 (iI (eS (upI N (5 + 3 * w + 0) x) y)).toInt)]) 0 0 := by
  refine mH_of cL_endIf 6 (by decide) rfl (Nat.le_of_ble_eq_true rfl) ?_
  intro p e s m below meth c A ls Q S C hG hl hr hlk hin htab hQ
  have S : CallFix p m c cL_endIf 6 s ([.ref (ad 0), .int (iI y), .int (iI w), .int (iI x), .ref ob] : List Value).toArray wsL_endIf RL := S
  have hl : lv_has ls 6 [(0, .ref (ad 0)), (1, .int (iI y)), (2, .int (iI w)), (3, .int (iI x)), (4, .ref ob)] := hl
  have hG : gW K A s.heap [gRLC K ad, gScn K (ad 3) (ad 14) (ad 15) (ad 16) (ad 17) ou mi bo ln LF sn SF, gScn K (ad 4) (ad 18) (ad 19) (ad 20) (ad 21) ou_t mi_t bo_t ln_t LF_t sn_t SF_t, gRayU K (ad 7) (ad 23) (ad 24) (ad 25) (ad 26) rs rv XF, gArrL K 1 ob OB] s.heap [] := hG
  refine lv_aload S.1 S.2.1 dL_endIf_0 (lv_at hl 4 rfl) ?_
  refine g_iconst S dL_endIf_2 ?_
  refine lv_aload_n S.1 S.2.1 dL_endIf_3 rfl (lv_at hl 0 rfl) ?_
  refine lv_iload_n S.1 S.2.1 dL_endIf_4 rfl (lv_at hl 1 rfl) ?_
  refine lv_iload_n S.1 S.2.1 dL_endIf_5 rfl (lv_at hl 2 rfl) ?_
  refine lv_iload_n S.1 S.2.1 dL_endIf_6 rfl (lv_at hl 3 rfl) ?_
  refine g_invV (As := [.int (iI y), .int (iI w), .int (iI x)]) (rest := [.int (iI 0), .ref ob]) (gs' := (fun u : Int × Int × Int × Int × (Int → Int) × Int × (Int → Int) × RU × (Int → Int) => [gRLC K ad, gScn K (ad 3) (ad 14) (ad 15) (ad 16) (ad 17) ou mi bo ln LF sn SF, gScn K (ad 4) (ad 18) (ad 19) (ad 20) (ad 21) u.1 u.2.1 u.2.2.1 u.2.2.2.1 u.2.2.2.2.1 u.2.2.2.2.2.1 u.2.2.2.2.2.2.1, gRayU K (ad 7) (ad 23) (ad 24) (ad 25) (ad 26) (ad 4) u.2.2.2.2.2.2.2.1 u.2.2.2.2.2.2.2.2, gArrL K 1 ob OB])) S C hG [0, 1, 2, 3] (c_X8_endIf l K ad ou mi bo ln LF sn SF N ou_t mi_t bo_t ln_t LF_t sn_t SF_t rs rv XF y w x hS hN hv hw hx hs hy h1) rfl rfl 0 rfl rfl (cwV 3 S.2.2.2.2 gL_endIf_X8_endIf rfl rfl rfl (by decide +kernel) ⟨Nat.le_of_ble_eq_true rfl, Nat.le_of_ble_eq_true rfl⟩) rfl hl.1 rfl (Nat.le_of_ble_eq_true rfl) dL_endIf_7 ⟨Nat.le_of_ble_eq_true rfl, Nat.le_of_ble_eq_true rfl⟩ (fun _ => Nat.le_of_ble_eq_true rfl) (fun _ => rfl) (fun v u H locs hp hG => ?_)
  obtain ⟨ou_t2_7, mi_t2_7, bo_t2_7, ln_t2_7, LF_t2_7, sn_t2_7, SF_t2_7, rv2_7, X2_7⟩ := u
  subst hp
  have hG : gW K A s.heap [gRLC K ad, gScn K (ad 3) (ad 14) (ad 15) (ad 16) (ad 17) ou mi bo ln LF sn SF, gScn K (ad 4) (ad 18) (ad 19) (ad 20) (ad 21) ou_t2_7 mi_t2_7 bo_t2_7 ln_t2_7 LF_t2_7 sn_t2_7 SF_t2_7, gRayU K (ad 7) (ad 23) (ad 24) (ad 25) (ad 26) (ad 4) rv2_7 X2_7, gArrL K 1 ob OB] _ _ := hG
  refine g_i2lr S dL_endIf_10 ?_
  refine g_last (n := 1) (gs' := [gRLC K ad, gScn K (ad 3) (ad 14) (ad 15) (ad 16) (ad 17) ou mi bo ln LF sn SF, gScn K (ad 4) (ad 18) (ad 19) (ad 20) (ad 21) ou_t2_7 mi_t2_7 bo_t2_7 ln_t2_7 LF_t2_7 sn_t2_7 SF_t2_7, gRayU K (ad 7) (ad 23) (ad 24) (ad 25) (ad 26) (ad 4) rv2_7 X2_7, gArrL K 1 ob (upI OB 0 ((iI (eS (upI N (5 + 3 * w + 0) x) y)).toInt))]) S C hG 16 rfl (by decide) (by decide) (by decide) rfl dL_endIf_11 (fun H locs hG => ?_)
  refine lv_goto (tgt := 23) S.1 S.2.1 dL_endIf_12 (by decide) ?_
  refine g_iconst S dL_endIf_23 ?_
  have hG : gW K A s.heap [gRLC K ad, gScn K (ad 3) (ad 14) (ad 15) (ad 16) (ad 17) ou mi bo ln LF sn SF, gScn K (ad 4) (ad 18) (ad 19) (ad 20) (ad 21) ou_t2_7 mi_t2_7 bo_t2_7 ln_t2_7 LF_t2_7 sn_t2_7 SF_t2_7, gRayU K (ad 7) (ad 23) (ad 24) (ad 25) (ad 26) (ad 4) rv2_7 X2_7, gArrL K 1 ob (upI OB 0 (iI (eS (upI N (5 + 3 * w + 0) x) y)).toInt)] _ _ := hG
  exact g_iretH S hr hlk hQ dL_endIf_24 (Nat.le_of_ble_eq_true rfl) (Nat.le_of_ble_eq_true rfl) ((ou_t2_7, mi_t2_7, bo_t2_7, ln_t2_7, LF_t2_7, sn_t2_7, SF_t2_7, rv2_7, X2_7) : Int × Int × Int × Int × (Int → Int) × Int × (Int → Int) × RU × (Int → Int)) rfl hG

set_option maxHeartbeats 1000000 in
set_option maxRecDepth 100000 in
theorem x1_L_endIf (l : Launch) (K : KC) (ad : Nat → Nat) (ou : Int) (mi : Int) (bo : Int) (ln : Int) (LF : Int → Int) (sn : Int) (SF : Int → Int) (N : Int → Int) (y : Int) (w : Int) (x : Int) (ob : Nat) (OB : Int → Int) (hS : ScOk N ou mi bo ln LF sn SF) (hN : NOk0 N) (hv : -2147483648 ≤ y ∧ y < 2147483648) (hw : -2147483648 ≤ w ∧ w < 2147483648) (hx : -2147483648 ≤ x ∧ x < 2147483648) (hs : ¬ (0 ≤ y ∧ y < N 4)) (hst : l.stackTraces = false) : mH l yL_endIf wsL_endIf 8 126 K [.ref (ad 0), .int (iI y), .int (iI w), .int (iI x), .ref ob] [gRLC K ad, gScn K (ad 3) (ad 14) (ad 15) (ad 16) (ad 17) ou mi bo ln LF sn SF, gArrL K 1 ob OB] (fun (v : Value) (u : Unit) => (v = .int (iI 1))) (fun (u : Unit) => [gRLC K ad, gScn K (ad 3) (ad 14) (ad 15) (ad 16) (ad 17) ou mi bo ln LF sn SF, gArrL K 1 ob OB]) 1 6 := by
  refine mH_of cL_endIf 6 (by decide) rfl (Nat.le_of_ble_eq_true rfl) ?_
  intro p e s m below meth c A ls Q S C hG hl hr hlk hin htab hQ
  have S : CallFix p m c cL_endIf 6 s ([.ref (ad 0), .int (iI y), .int (iI w), .int (iI x), .ref ob] : List Value).toArray wsL_endIf RL := S
  have hl : lv_has ls 6 [(0, .ref (ad 0)), (1, .int (iI y)), (2, .int (iI w)), (3, .int (iI x)), (4, .ref ob)] := hl
  have hG : gW K A s.heap [gRLC K ad, gScn K (ad 3) (ad 14) (ad 15) (ad 16) (ad 17) ou mi bo ln LF sn SF, gArrL K 1 ob OB] s.heap [] := hG
  refine lv_aload S.1 S.2.1 dL_endIf_0 (lv_at hl 4 rfl) ?_
  refine g_iconst S dL_endIf_2 ?_
  refine lv_aload_n S.1 S.2.1 dL_endIf_3 rfl (lv_at hl 0 rfl) ?_
  refine lv_iload_n S.1 S.2.1 dL_endIf_4 rfl (lv_at hl 1 rfl) ?_
  refine lv_iload_n S.1 S.2.1 dL_endIf_5 rfl (lv_at hl 2 rfl) ?_
  refine lv_iload_n S.1 S.2.1 dL_endIf_6 rfl (lv_at hl 3 rfl) ?_
  refine g_xV (E := "java/lang/IndexOutOfBoundsException") (As := [.int (iI y), .int (iI w), .int (iI x)]) (rest := [.int (iI 0), .ref ob]) (gs' := (fun u : Unit => [gRLC K ad, gScn K (ad 3) (ad 14) (ad 15) (ad 16) (ad 17) ou mi bo ln LF sn SF, gArrL K 1 ob OB])) S C hG [0, 1] (x1_endIf l K ad ou mi bo ln LF sn SF N y w x hS hN hv hw hx hs hst) rfl rfl 0 rfl rfl (cwV 3 S.2.2.2.2 gL_endIf_X8_endIf rfl rfl rfl (by decide +kernel) ⟨Nat.le_of_ble_eq_true rfl, Nat.le_of_ble_eq_true rfl⟩) rfl hl.1 rfl (Nat.le_of_ble_eq_true rfl) dL_endIf_7 ⟨Nat.le_of_ble_eq_true rfl, Nat.le_of_ble_eq_true rfl⟩ (fun _ => Nat.le_of_ble_eq_true rfl) (fun _ => rfl) (fun u q9 ce9 H locs hp hG hq9 hv9 hcl9 => ?_)
  refine g_catch (E := "java/lang/IndexOutOfBoundsException") (st := 0) (en := 12) (hpc := 15) (ct := 29) (suf' := [(0, 12, 19, 19)]) S C [] htab (List.mem_of_getElem? (l := exC) (i := 0) rfl) (fun _ h => absurd h List.not_mem_nil) ⟨by decide, by decide⟩ (by decide) (List.mem_of_getElem? (i := 1) rfl) hq9 hv9 hcl9 ?_
  refine lv_astore (lv' := [(5, .ref q9), (0, .ref (ad 0)), (1, .int (iI y)), (2, .int (iI w)), (3, .int (iI x)), (4, .ref ob)]) S.1 S.2.1 dL_endIf_15 hl (by decide) rfl (fun ls hl => ?_)
  refine g_iconst S dL_endIf_17 ?_
  have hG : gW K A s.heap [gRLC K ad, gScn K (ad 3) (ad 14) (ad 15) (ad 16) (ad 17) ou mi bo ln LF sn SF, gArrL K 1 ob OB] _ _ := hG
  exact g_iretH S hr hlk hQ dL_endIf_18 (Nat.le_of_ble_eq_true rfl) (Nat.le_of_ble_eq_true rfl) (() : Unit) rfl hG

set_option maxHeartbeats 1000000 in
set_option maxRecDepth 100000 in
theorem x2_L_endIf (l : Launch) (K : KC) (ad : Nat → Nat) (ou : Int) (mi : Int) (bo : Int) (ln : Int) (LF : Int → Int) (sn : Int) (SF : Int → Int) (N : Int → Int) (y : Int) (w : Int) (x : Int) (ob : Nat) (OB : Int → Int) (hS : ScOk N ou mi bo ln LF sn SF) (hN : NOk0 N) (hv : -2147483648 ≤ y ∧ y < 2147483648) (hw : -2147483648 ≤ w ∧ w < 2147483648) (hx : -2147483648 ≤ x ∧ x < 2147483648) (hs : 0 ≤ y ∧ y < N 4) (hy : ¬ (0 ≤ w ∧ w < N 0)) (hst : l.stackTraces = false) : mH l yL_endIf wsL_endIf 8 126 K [.ref (ad 0), .int (iI y), .int (iI w), .int (iI x), .ref ob] [gRLC K ad, gScn K (ad 3) (ad 14) (ad 15) (ad 16) (ad 17) ou mi bo ln LF sn SF, gArrL K 1 ob OB] (fun (v : Value) (u : Unit) => (v = .int (iI 1))) (fun (u : Unit) => [gRLC K ad, gScn K (ad 3) (ad 14) (ad 15) (ad 16) (ad 17) ou mi bo ln LF sn SF, gArrL K 1 ob OB]) 1 6 := by
  refine mH_of cL_endIf 6 (by decide) rfl (Nat.le_of_ble_eq_true rfl) ?_
  intro p e s m below meth c A ls Q S C hG hl hr hlk hin htab hQ
  have S : CallFix p m c cL_endIf 6 s ([.ref (ad 0), .int (iI y), .int (iI w), .int (iI x), .ref ob] : List Value).toArray wsL_endIf RL := S
  have hl : lv_has ls 6 [(0, .ref (ad 0)), (1, .int (iI y)), (2, .int (iI w)), (3, .int (iI x)), (4, .ref ob)] := hl
  have hG : gW K A s.heap [gRLC K ad, gScn K (ad 3) (ad 14) (ad 15) (ad 16) (ad 17) ou mi bo ln LF sn SF, gArrL K 1 ob OB] s.heap [] := hG
  refine lv_aload S.1 S.2.1 dL_endIf_0 (lv_at hl 4 rfl) ?_
  refine g_iconst S dL_endIf_2 ?_
  refine lv_aload_n S.1 S.2.1 dL_endIf_3 rfl (lv_at hl 0 rfl) ?_
  refine lv_iload_n S.1 S.2.1 dL_endIf_4 rfl (lv_at hl 1 rfl) ?_
  refine lv_iload_n S.1 S.2.1 dL_endIf_5 rfl (lv_at hl 2 rfl) ?_
  refine lv_iload_n S.1 S.2.1 dL_endIf_6 rfl (lv_at hl 3 rfl) ?_
  refine g_xV (E := "java/lang/IndexOutOfBoundsException") (As := [.int (iI y), .int (iI w), .int (iI x)]) (rest := [.int (iI 0), .ref ob]) (gs' := (fun u : Unit => [gRLC K ad, gScn K (ad 3) (ad 14) (ad 15) (ad 16) (ad 17) ou mi bo ln LF sn SF, gArrL K 1 ob OB])) S C hG [0, 1] (x2_endIf l K ad ou mi bo ln LF sn SF N y w x hS hN hv hw hx hs hy hst) rfl rfl 0 rfl rfl (cwV 3 S.2.2.2.2 gL_endIf_X8_endIf rfl rfl rfl (by decide +kernel) ⟨Nat.le_of_ble_eq_true rfl, Nat.le_of_ble_eq_true rfl⟩) rfl hl.1 rfl (Nat.le_of_ble_eq_true rfl) dL_endIf_7 ⟨Nat.le_of_ble_eq_true rfl, Nat.le_of_ble_eq_true rfl⟩ (fun _ => Nat.le_of_ble_eq_true rfl) (fun _ => rfl) (fun u q9 ce9 H locs hp hG hq9 hv9 hcl9 => ?_)
  refine g_catch (E := "java/lang/IndexOutOfBoundsException") (st := 0) (en := 12) (hpc := 15) (ct := 29) (suf' := [(0, 12, 19, 19)]) S C [] htab (List.mem_of_getElem? (l := exC) (i := 0) rfl) (fun _ h => absurd h List.not_mem_nil) ⟨by decide, by decide⟩ (by decide) (List.mem_of_getElem? (i := 1) rfl) hq9 hv9 hcl9 ?_
  refine lv_astore (lv' := [(5, .ref q9), (0, .ref (ad 0)), (1, .int (iI y)), (2, .int (iI w)), (3, .int (iI x)), (4, .ref ob)]) S.1 S.2.1 dL_endIf_15 hl (by decide) rfl (fun ls hl => ?_)
  refine g_iconst S dL_endIf_17 ?_
  have hG : gW K A s.heap [gRLC K ad, gScn K (ad 3) (ad 14) (ad 15) (ad 16) (ad 17) ou mi bo ln LF sn SF, gArrL K 1 ob OB] _ _ := hG
  exact g_iretH S hr hlk hQ dL_endIf_18 (Nat.le_of_ble_eq_true rfl) (Nat.le_of_ble_eq_true rfl) (() : Unit) rfl hG

set_option maxHeartbeats 1000000 in
set_option maxRecDepth 100000 in
theorem x3_L_endIf (l : Launch) (K : KC) (ad : Nat → Nat) (ou : Int) (mi : Int) (bo : Int) (ln : Int) (LF : Int → Int) (sn : Int) (SF : Int → Int) (N : Int → Int) (y : Int) (w : Int) (x : Int) (ob : Nat) (OB : Int → Int) (hS : ScOk N ou mi bo ln LF sn SF) (hN : NOk0 N) (hv : -2147483648 ≤ y ∧ y < 2147483648) (hw : -2147483648 ≤ w ∧ w < 2147483648) (hx : -2147483648 ≤ x ∧ x < 2147483648) (hs : 0 ≤ y ∧ y < N 4) (hy : 0 ≤ w ∧ w < N 0) (h1 : ¬ (1000 ≤ x ∧ x ≤ 4000)) (hst : l.stackTraces = false) : mH l yL_endIf wsL_endIf 8 127 K [.ref (ad 0), .int (iI y), .int (iI w), .int (iI x), .ref ob] [gRLC K ad, gScn K (ad 3) (ad 14) (ad 15) (ad 16) (ad 17) ou mi bo ln LF sn SF, gArrL K 1 ob OB] (fun (v : Value) (u : Unit) => (v = .int (iI 2))) (fun (u : Unit) => [gRLC K ad, gScn K (ad 3) (ad 14) (ad 15) (ad 16) (ad 17) ou mi bo ln LF sn SF, gArrL K 1 ob OB]) 1 6 := by
  refine mH_of cL_endIf 6 (by decide) rfl (Nat.le_of_ble_eq_true rfl) ?_
  intro p e s m below meth c A ls Q S C hG hl hr hlk hin htab hQ
  have S : CallFix p m c cL_endIf 6 s ([.ref (ad 0), .int (iI y), .int (iI w), .int (iI x), .ref ob] : List Value).toArray wsL_endIf RL := S
  have hl : lv_has ls 6 [(0, .ref (ad 0)), (1, .int (iI y)), (2, .int (iI w)), (3, .int (iI x)), (4, .ref ob)] := hl
  have hG : gW K A s.heap [gRLC K ad, gScn K (ad 3) (ad 14) (ad 15) (ad 16) (ad 17) ou mi bo ln LF sn SF, gArrL K 1 ob OB] s.heap [] := hG
  refine lv_aload S.1 S.2.1 dL_endIf_0 (lv_at hl 4 rfl) ?_
  refine g_iconst S dL_endIf_2 ?_
  refine lv_aload_n S.1 S.2.1 dL_endIf_3 rfl (lv_at hl 0 rfl) ?_
  refine lv_iload_n S.1 S.2.1 dL_endIf_4 rfl (lv_at hl 1 rfl) ?_
  refine lv_iload_n S.1 S.2.1 dL_endIf_5 rfl (lv_at hl 2 rfl) ?_
  refine lv_iload_n S.1 S.2.1 dL_endIf_6 rfl (lv_at hl 3 rfl) ?_
  refine g_xV (E := "java/lang/IllegalArgumentException") (As := [.int (iI y), .int (iI w), .int (iI x)]) (rest := [.int (iI 0), .ref ob]) (gs' := (fun u : Unit => [gRLC K ad, gScn K (ad 3) (ad 14) (ad 15) (ad 16) (ad 17) ou mi bo ln LF sn SF, gArrL K 1 ob OB])) S C hG [0, 1] (x3_endIf l K ad ou mi bo ln LF sn SF N y w x hS hN hv hw hx hs hy h1 hst) rfl rfl 0 rfl rfl (cwV 3 S.2.2.2.2 gL_endIf_X8_endIf rfl rfl rfl (by decide +kernel) ⟨Nat.le_of_ble_eq_true rfl, Nat.le_of_ble_eq_true rfl⟩) rfl hl.1 rfl (Nat.le_of_ble_eq_true rfl) dL_endIf_7 ⟨Nat.le_of_ble_eq_true rfl, Nat.le_of_ble_eq_true rfl⟩ (fun _ => Nat.le_of_ble_eq_true rfl) (fun _ => rfl) (fun u q9 ce9 H locs hp hG hq9 hv9 hcl9 => ?_)
  refine g_catch (E := "java/lang/IllegalArgumentException") (st := 0) (en := 12) (hpc := 19) (ct := 19) (suf' := []) S C [(0, 12, 15, 29)] htab (List.mem_of_getElem? (l := exC) (i := 1) rfl) (List.forall_mem_cons.mpr ⟨⟨by decide, "java/lang/IndexOutOfBoundsException", (List.mem_of_getElem? (l := exC) (i := 0) rfl), by decide, (List.mem_of_getElem? (i := 1) rfl)⟩, fun _ h => absurd h List.not_mem_nil⟩) ⟨by decide, by decide⟩ (by decide) (List.mem_of_getElem? (i := 2) rfl) hq9 hv9 hcl9 ?_
  refine lv_astore (lv' := [(5, .ref q9), (0, .ref (ad 0)), (1, .int (iI y)), (2, .int (iI w)), (3, .int (iI x)), (4, .ref ob)]) S.1 S.2.1 dL_endIf_19 hl (by decide) rfl (fun ls hl => ?_)
  refine g_iconst S dL_endIf_21 ?_
  have hG : gW K A s.heap [gRLC K ad, gScn K (ad 3) (ad 14) (ad 15) (ad 16) (ad 17) ou mi bo ln LF sn SF, gArrL K 1 ob OB] _ _ := hG
  exact g_iretH S hr hlk hQ dL_endIf_22 (Nat.le_of_ble_eq_true rfl) (Nat.le_of_ble_eq_true rfl) (() : Unit) rfl hG

set_option maxHeartbeats 1000000 in
set_option maxRecDepth 100000 in
theorem c_L_bestWithout (l : Launch) (K : KC) (ad : Nat → Nat) (ou : Int) (mi : Int) (bo : Int) (ln : Int) (LF : Int → Int) (sn : Int) (SF : Int → Int) (N : Int → Int) (ou_t : Int) (mi_t : Int) (bo_t : Int) (ln_t : Int) (LF_t : Int → Int) (sn_t : Int) (SF_t : Int → Int) (rs : Nat) (rv : RU) (XF : Int → Int) (y : Int) (ob : Nat) (OB : Int → Int) (hS : ScOk N ou mi bo ln LF sn SF) (hN : NOk0 N) (hv : -2147483648 ≤ y ∧ y < 2147483648) (hs : 0 ≤ y ∧ y < N 4) : mH l yL_bestWithout wsL_bestWithout 6 142 K [.ref (ad 0), .int (iI y), .ref ob] [gRLC K ad, gScn K (ad 3) (ad 14) (ad 15) (ad 16) (ad 17) ou mi bo ln LF sn SF, gScn K (ad 4) (ad 18) (ad 19) (ad 20) (ad 21) ou_t mi_t bo_t ln_t LF_t sn_t SF_t, gRayU K (ad 7) (ad 23) (ad 24) (ad 25) (ad 26) rs rv XF, gArrL K 1 ob OB] (fun (v : Value) (u : Int × Int × Int × Int × (Int → Int) × Int × (Int → Int) × Nat × RU × (Int → Int)) => (v = .int (iI 0))) (fun (u : Int × Int × Int × Int × (Int → Int) × Int × (Int → Int) × Nat × RU × (Int → Int)) => [gRLC K ad, gScn K (ad 3) (ad 14) (ad 15) (ad 16) (ad 17) ou mi bo ln LF sn SF, gScn K (ad 4) (ad 18) (ad 19) (ad 20) (ad 21) u.1 u.2.1 u.2.2.1 u.2.2.2.1 u.2.2.2.2.1 u.2.2.2.2.2.1 u.2.2.2.2.2.2.1, gRayU K (ad 7) (ad 23) (ad 24) (ad 25) (ad 26) u.2.2.2.2.2.2.2.1 u.2.2.2.2.2.2.2.2.1 u.2.2.2.2.2.2.2.2.2, gArrL K 1 ob (upI OB 0 (iI (if N 0 < 2 then -1 else (bstN (fun _ : Nat => true) (fun i : Nat => pS (remLN N (i : Int)) y) (N 0).toNat).1)).toInt)]) 0 0 := by
  refine mH_of cL_bestWithout 4 (by decide) rfl (Nat.le_of_ble_eq_true rfl) ?_
  intro p e s m below meth c A ls Q S C hG hl hr hlk hin htab hQ
  have S : CallFix p m c cL_bestWithout 4 s ([.ref (ad 0), .int (iI y), .ref ob] : List Value).toArray wsL_bestWithout RL := S
  have hl : lv_has ls 4 [(0, .ref (ad 0)), (1, .int (iI y)), (2, .ref ob)] := hl
  have hG : gW K A s.heap [gRLC K ad, gScn K (ad 3) (ad 14) (ad 15) (ad 16) (ad 17) ou mi bo ln LF sn SF, gScn K (ad 4) (ad 18) (ad 19) (ad 20) (ad 21) ou_t mi_t bo_t ln_t LF_t sn_t SF_t, gRayU K (ad 7) (ad 23) (ad 24) (ad 25) (ad 26) rs rv XF, gArrL K 1 ob OB] s.heap [] := hG
  refine lv_aload_n S.1 S.2.1 dL_bestWithout_0 rfl (lv_at hl 2 rfl) ?_
  refine g_iconst S dL_bestWithout_1 ?_
  refine lv_aload_n S.1 S.2.1 dL_bestWithout_2 rfl (lv_at hl 0 rfl) ?_
  refine lv_iload_n S.1 S.2.1 dL_bestWithout_3 rfl (lv_at hl 1 rfl) ?_
  refine g_invV (As := [.int (iI y)]) (rest := [.int (iI 0), .ref ob]) (gs' := (fun u : Int × Int × Int × Int × (Int → Int) × Int × (Int → Int) × Nat × RU × (Int → Int) => [gRLC K ad, gScn K (ad 3) (ad 14) (ad 15) (ad 16) (ad 17) ou mi bo ln LF sn SF, gScn K (ad 4) (ad 18) (ad 19) (ad 20) (ad 21) u.1 u.2.1 u.2.2.1 u.2.2.2.1 u.2.2.2.2.1 u.2.2.2.2.2.1 u.2.2.2.2.2.2.1, gRayU K (ad 7) (ad 23) (ad 24) (ad 25) (ad 26) u.2.2.2.2.2.2.2.1 u.2.2.2.2.2.2.2.2.1 u.2.2.2.2.2.2.2.2.2, gArrL K 1 ob OB])) S C hG [0, 1, 2, 3] (c_X8_bestWithout l K ad ou mi bo ln LF sn SF N ou_t mi_t bo_t ln_t LF_t sn_t SF_t rs rv XF y hS hN hv hs) rfl rfl 0 rfl rfl (cwV 1 S.2.2.2.2 gL_bestWithout_X8_bestWithout rfl rfl rfl (by decide +kernel) ⟨Nat.le_of_ble_eq_true rfl, Nat.le_of_ble_eq_true rfl⟩) rfl hl.1 rfl (Nat.le_of_ble_eq_true rfl) dL_bestWithout_4 ⟨Nat.le_of_ble_eq_true rfl, Nat.le_of_ble_eq_true rfl⟩ (fun _ => Nat.le_of_ble_eq_true rfl) (fun _ => rfl) (fun v u H locs hp hG => ?_)
  obtain ⟨ou_t2_4, mi_t2_4, bo_t2_4, ln_t2_4, LF_t2_4, sn_t2_4, SF_t2_4, rs2_4, rv2_4, X2_4⟩ := u
  subst hp
  have hG : gW K A s.heap [gRLC K ad, gScn K (ad 3) (ad 14) (ad 15) (ad 16) (ad 17) ou mi bo ln LF sn SF, gScn K (ad 4) (ad 18) (ad 19) (ad 20) (ad 21) ou_t2_4 mi_t2_4 bo_t2_4 ln_t2_4 LF_t2_4 sn_t2_4 SF_t2_4, gRayU K (ad 7) (ad 23) (ad 24) (ad 25) (ad 26) rs2_4 rv2_4 X2_4, gArrL K 1 ob OB] _ _ := hG
  refine g_i2lr S dL_bestWithout_7 ?_
  refine g_last (n := 1) (gs' := [gRLC K ad, gScn K (ad 3) (ad 14) (ad 15) (ad 16) (ad 17) ou mi bo ln LF sn SF, gScn K (ad 4) (ad 18) (ad 19) (ad 20) (ad 21) ou_t2_4 mi_t2_4 bo_t2_4 ln_t2_4 LF_t2_4 sn_t2_4 SF_t2_4, gRayU K (ad 7) (ad 23) (ad 24) (ad 25) (ad 26) rs2_4 rv2_4 X2_4, gArrL K 1 ob (upI OB 0 ((iI (if N 0 < 2 then -1 else (bstN (fun _ : Nat => true) (fun i : Nat => pS (remLN N (i : Int)) y) (N 0).toNat).1)).toInt))]) S C hG 16 rfl (by decide) (by decide) (by decide) rfl dL_bestWithout_8 (fun H locs hG => ?_)
  refine lv_goto (tgt := 15) S.1 S.2.1 dL_bestWithout_9 (by decide) ?_
  refine g_iconst S dL_bestWithout_15 ?_
  have hG : gW K A s.heap [gRLC K ad, gScn K (ad 3) (ad 14) (ad 15) (ad 16) (ad 17) ou mi bo ln LF sn SF, gScn K (ad 4) (ad 18) (ad 19) (ad 20) (ad 21) ou_t2_4 mi_t2_4 bo_t2_4 ln_t2_4 LF_t2_4 sn_t2_4 SF_t2_4, gRayU K (ad 7) (ad 23) (ad 24) (ad 25) (ad 26) rs2_4 rv2_4 X2_4, gArrL K 1 ob (upI OB 0 (iI (if N 0 < 2 then -1 else (bstN (fun _ : Nat => true) (fun i : Nat => pS (remLN N (i : Int)) y) (N 0).toNat).1)).toInt)] _ _ := hG
  exact g_iretH S hr hlk hQ dL_bestWithout_16 (Nat.le_of_ble_eq_true rfl) (Nat.le_of_ble_eq_true rfl) ((ou_t2_4, mi_t2_4, bo_t2_4, ln_t2_4, LF_t2_4, sn_t2_4, SF_t2_4, rs2_4, rv2_4, X2_4) : Int × Int × Int × Int × (Int → Int) × Int × (Int → Int) × Nat × RU × (Int → Int)) rfl hG

set_option maxHeartbeats 1000000 in
set_option maxRecDepth 100000 in
theorem x1_L_bestWithout (l : Launch) (K : KC) (ad : Nat → Nat) (ou : Int) (mi : Int) (bo : Int) (ln : Int) (LF : Int → Int) (sn : Int) (SF : Int → Int) (N : Int → Int) (y : Int) (ob : Nat) (OB : Int → Int) (hS : ScOk N ou mi bo ln LF sn SF) (hN : NOk0 N) (hv : -2147483648 ≤ y ∧ y < 2147483648) (hs : ¬ (0 ≤ y ∧ y < N 4)) (hst : l.stackTraces = false) : mH l yL_bestWithout wsL_bestWithout 8 128 K [.ref (ad 0), .int (iI y), .ref ob] [gRLC K ad, gScn K (ad 3) (ad 14) (ad 15) (ad 16) (ad 17) ou mi bo ln LF sn SF, gArrL K 1 ob OB] (fun (v : Value) (u : Unit) => (v = .int (iI 1))) (fun (u : Unit) => [gRLC K ad, gScn K (ad 3) (ad 14) (ad 15) (ad 16) (ad 17) ou mi bo ln LF sn SF, gArrL K 1 ob OB]) 1 6 := by
  refine mH_of cL_bestWithout 4 (by decide) rfl (Nat.le_of_ble_eq_true rfl) ?_
  intro p e s m below meth c A ls Q S C hG hl hr hlk hin htab hQ
  have S : CallFix p m c cL_bestWithout 4 s ([.ref (ad 0), .int (iI y), .ref ob] : List Value).toArray wsL_bestWithout RL := S
  have hl : lv_has ls 4 [(0, .ref (ad 0)), (1, .int (iI y)), (2, .ref ob)] := hl
  have hG : gW K A s.heap [gRLC K ad, gScn K (ad 3) (ad 14) (ad 15) (ad 16) (ad 17) ou mi bo ln LF sn SF, gArrL K 1 ob OB] s.heap [] := hG
  refine lv_aload_n S.1 S.2.1 dL_bestWithout_0 rfl (lv_at hl 2 rfl) ?_
  refine g_iconst S dL_bestWithout_1 ?_
  refine lv_aload_n S.1 S.2.1 dL_bestWithout_2 rfl (lv_at hl 0 rfl) ?_
  refine lv_iload_n S.1 S.2.1 dL_bestWithout_3 rfl (lv_at hl 1 rfl) ?_
  refine g_xV (E := "java/lang/IndexOutOfBoundsException") (As := [.int (iI y)]) (rest := [.int (iI 0), .ref ob]) (gs' := (fun u : Unit => [gRLC K ad, gScn K (ad 3) (ad 14) (ad 15) (ad 16) (ad 17) ou mi bo ln LF sn SF, gArrL K 1 ob OB])) S C hG [0, 1] (x1_bestWithout l K ad ou mi bo ln LF sn SF N y hS hN hv hs hst) rfl rfl 0 rfl rfl (cwV 1 S.2.2.2.2 gL_bestWithout_X8_bestWithout rfl rfl rfl (by decide +kernel) ⟨Nat.le_of_ble_eq_true rfl, Nat.le_of_ble_eq_true rfl⟩) rfl hl.1 rfl (Nat.le_of_ble_eq_true rfl) dL_bestWithout_4 ⟨Nat.le_of_ble_eq_true rfl, Nat.le_of_ble_eq_true rfl⟩ (fun _ => Nat.le_of_ble_eq_true rfl) (fun _ => rfl) (fun u q9 ce9 H locs hp hG hq9 hv9 hcl9 => ?_)
  refine g_catch (E := "java/lang/IndexOutOfBoundsException") (st := 0) (en := 9) (hpc := 12) (ct := 29) (suf' := []) S C [] htab (List.mem_of_getElem? (l := exC) (i := 0) rfl) (fun _ h => absurd h List.not_mem_nil) ⟨by decide, by decide⟩ (by decide) (List.mem_of_getElem? (i := 1) rfl) hq9 hv9 hcl9 ?_
  refine lv_astore_n (lv' := [(3, .ref q9), (0, .ref (ad 0)), (1, .int (iI y)), (2, .ref ob)]) S.1 S.2.1 dL_bestWithout_12 rfl hl (by decide) rfl (fun ls hl => ?_)
  refine g_iconst S dL_bestWithout_13 ?_
  have hG : gW K A s.heap [gRLC K ad, gScn K (ad 3) (ad 14) (ad 15) (ad 16) (ad 17) ou mi bo ln LF sn SF, gArrL K 1 ob OB] _ _ := hG
  exact g_iretH S hr hlk hQ dL_bestWithout_14 (Nat.le_of_ble_eq_true rfl) (Nat.le_of_ble_eq_true rfl) (() : Unit) rfl hG

set_option maxHeartbeats 1000000 in
set_option maxRecDepth 100000 in
theorem c_L_addLayer (l : Launch) (K : KC) (ad : Nat → Nat) (ou : Int) (mi : Int) (bo : Int) (ln : Int) (LF : Int → Int) (sn : Int) (SF : Int → Int) (N : Int → Int) (nx : Int) (sz : Int) (o : Nat → Option SR) (y : Int) (a1 : Int) (a2 : Int) (a3 : Int) (ob : Nat) (OB : Int → Int) (hS : ScOk N ou mi bo ln LF sn SF) (hN : NOk0 N) (hnx : 0 ≤ nx ∧ nx < 6) (hsz : 0 ≤ sz ∧ sz ≤ 6) (hv : -2147483648 ≤ y ∧ y < 2147483648) (hv1 : -2147483648 ≤ a1 ∧ a1 < 2147483648) (hv2 : -2147483648 ≤ a2 ∧ a2 < 2147483648) (hv3 : -2147483648 ≤ a3 ∧ a3 < 2147483648) (hy : 0 ≤ y ∧ y ≤ N 0) (c1 : 1000 ≤ a1 ∧ a1 ≤ 4000) (c2 : 1 ≤ a2 ∧ a2 ≤ 999) (c3 : 0 ≤ a3 ∧ a3 ≤ 99) (h7 : N 0 < 10) : mH l yL_addLayer wsL_addLayer 5 148 K [.ref (ad 0), .int (iI y), .int (iI a1), .int (iI a2), .int (iI a3), .ref ob] [gRLC K ad, gScn K (ad 3) (ad 14) (ad 15) (ad 16) (ad 17) ou mi bo ln LF sn SF, gHisC K (ad 5) (ad 22) nx sz, gQS K (ad 22) 6 (oP o), gArrL K 1 ob OB, gSOs K o (List.range 6)] (fun (v : Value) (u : SR × (Int → Int)) => (v = .int (iI 0)) ∧ (ScR N u.1) ∧ (ScOk (insLN N y a1 a2 a3) ou mi bo (ln + 1) u.2 sn SF)) (fun (u : SR × (Int → Int)) => [gRLC K ad, gScn K (ad 3) (ad 14) (ad 15) (ad 16) (ad 17) ou mi bo (ln + 1) u.2 sn SF, gHisC K (ad 5) (ad 22) ((nx + 1) % 6) (min (sz + 1) 6), gQS K (ad 22) 6 (oP (oup o nx.toNat u.1)), gArrL K 1 ob (upI OB 0 (iI (N 0 + 1)).toInt), gSOs K (oup o nx.toNat u.1) (List.range 6)]) 5 129 := by
  refine mH_of cL_addLayer 7 (by decide) rfl (Nat.le_of_ble_eq_true rfl) ?_
  intro p e s m below meth c A ls Q S C hG hl hr hlk hin htab hQ
  have S : CallFix p m c cL_addLayer 7 s ([.ref (ad 0), .int (iI y), .int (iI a1), .int (iI a2), .int (iI a3), .ref ob] : List Value).toArray wsL_addLayer RL := S
  have hl : lv_has ls 7 [(0, .ref (ad 0)), (1, .int (iI y)), (2, .int (iI a1)), (3, .int (iI a2)), (4, .int (iI a3)), (5, .ref ob)] := hl
  have hG : gW K A s.heap [gRLC K ad, gScn K (ad 3) (ad 14) (ad 15) (ad 16) (ad 17) ou mi bo ln LF sn SF, gHisC K (ad 5) (ad 22) nx sz, gQS K (ad 22) 6 (oP o), gArrL K 1 ob OB, gSOs K o (List.range 6)] s.heap [] := hG
  refine lv_aload S.1 S.2.1 dL_addLayer_0 (lv_at hl 5 rfl) ?_
  refine g_iconst S dL_addLayer_2 ?_
  refine lv_aload_n S.1 S.2.1 dL_addLayer_3 rfl (lv_at hl 0 rfl) ?_
  refine lv_iload_n S.1 S.2.1 dL_addLayer_4 rfl (lv_at hl 1 rfl) ?_
  refine lv_iload_n S.1 S.2.1 dL_addLayer_5 rfl (lv_at hl 2 rfl) ?_
  refine lv_iload_n S.1 S.2.1 dL_addLayer_6 rfl (lv_at hl 3 rfl) ?_
  refine lv_iload S.1 S.2.1 dL_addLayer_7 (lv_at hl 4 rfl) ?_
  refine g_invV (As := [.int (iI y), .int (iI a1), .int (iI a2), .int (iI a3)]) (rest := [.int (iI 0), .ref ob]) (gs' := (fun u : SR × (Int → Int) => [gRLC K ad, gScn K (ad 3) (ad 14) (ad 15) (ad 16) (ad 17) ou mi bo (ln + 1) u.2 sn SF, gHisC K (ad 5) (ad 22) ((nx + 1) % 6) (min (sz + 1) 6), gQS K (ad 22) 6 (oP (oup o nx.toNat u.1)), gArrL K 1 ob OB, gSOs K (oup o nx.toNat u.1) (List.range 6)])) S C hG [0, 1, 2, 3, 5] (c_X8_addLayer l K ad ou mi bo ln LF sn SF N nx sz o y a1 a2 a3 hS hN hnx hsz hv hv1 hv2 hv3 hy c1 c2 c3 h7) rfl rfl 0 rfl rfl (cwV 4 S.2.2.2.2 gL_addLayer_X8_addLayer rfl rfl rfl (by decide +kernel) ⟨Nat.le_of_ble_eq_true rfl, Nat.le_of_ble_eq_true rfl⟩) rfl hl.1 rfl (Nat.le_of_ble_eq_true rfl) dL_addLayer_9 ⟨Nat.le_of_ble_eq_true rfl, Nat.le_of_ble_eq_true rfl⟩ (fun _ => Nat.le_of_ble_eq_true rfl) (fun _ => rfl) (fun v u H locs hp hG => ?_)
  obtain ⟨u9_9, LF2_9⟩ := u
  obtain ⟨rfl, hu_9, hS2_9⟩ := hp
  have hu_9 : ScR N u9_9 := hu_9
  have hS2_9 : ScOk (insLN N y a1 a2 a3) ou mi bo (ln + 1) LF2_9 sn SF := hS2_9
  have hG : gW K A s.heap [gRLC K ad, gScn K (ad 3) (ad 14) (ad 15) (ad 16) (ad 17) ou mi bo (ln + 1) LF2_9 sn SF, gHisC K (ad 5) (ad 22) ((nx + 1) % 6) (min (sz + 1) 6), gQS K (ad 22) 6 (oP (oup o nx.toNat u9_9)), gArrL K 1 ob OB, gSOs K (oup o nx.toNat u9_9) (List.range 6)] _ _ := hG
  refine g_i2lr S dL_addLayer_12 ?_
  refine g_last (n := 1) (gs' := [gRLC K ad, gScn K (ad 3) (ad 14) (ad 15) (ad 16) (ad 17) ou mi bo (ln + 1) LF2_9 sn SF, gHisC K (ad 5) (ad 22) ((nx + 1) % 6) (min (sz + 1) 6), gQS K (ad 22) 6 (oP (oup o nx.toNat u9_9)), gArrL K 1 ob (upI OB 0 ((iI (N 0 + 1)).toInt)), gSOs K (oup o nx.toNat u9_9) (List.range 6)]) S C hG 8 rfl (by decide) (by decide) (by decide) rfl dL_addLayer_13 (fun H locs hG => ?_)
  refine lv_goto (tgt := 29) S.1 S.2.1 dL_addLayer_14 (by decide) ?_
  refine g_iconst S dL_addLayer_29 ?_
  have hG : gW K A s.heap [gRLC K ad, gScn K (ad 3) (ad 14) (ad 15) (ad 16) (ad 17) ou mi bo (ln + 1) LF2_9 sn SF, gHisC K (ad 5) (ad 22) ((nx + 1) % 6) (min (sz + 1) 6), gQS K (ad 22) 6 (oP (oup o nx.toNat u9_9)), gArrL K 1 ob (upI OB 0 (iI (N 0 + 1)).toInt), gSOs K (oup o nx.toNat u9_9) (List.range 6)] _ _ := hG
  exact g_iretH S hr hlk hQ dL_addLayer_30 (Nat.le_of_ble_eq_true rfl) (Nat.le_of_ble_eq_true rfl) ((u9_9, LF2_9) : SR × (Int → Int)) ⟨rfl, hu_9, hS2_9⟩ hG

set_option maxHeartbeats 1000000 in
set_option maxRecDepth 100000 in
theorem x1_L_addLayer (l : Launch) (K : KC) (ad : Nat → Nat) (ou : Int) (mi : Int) (bo : Int) (ln : Int) (LF : Int → Int) (sn : Int) (SF : Int → Int) (N : Int → Int) (y : Int) (a1 : Int) (a2 : Int) (a3 : Int) (ob : Nat) (OB : Int → Int) (hS : ScOk N ou mi bo ln LF sn SF) (hN : NOk0 N) (hv : -2147483648 ≤ y ∧ y < 2147483648) (hv1 : -2147483648 ≤ a1 ∧ a1 < 2147483648) (hv2 : -2147483648 ≤ a2 ∧ a2 < 2147483648) (hv3 : -2147483648 ≤ a3 ∧ a3 < 2147483648) (hy : ¬ (0 ≤ y ∧ y ≤ N 0)) (hst : l.stackTraces = false) : mH l yL_addLayer wsL_addLayer 7 106 K [.ref (ad 0), .int (iI y), .int (iI a1), .int (iI a2), .int (iI a3), .ref ob] [gRLC K ad, gScn K (ad 3) (ad 14) (ad 15) (ad 16) (ad 17) ou mi bo ln LF sn SF, gArrL K 1 ob OB] (fun (v : Value) (u : Unit) => (v = .int (iI 1))) (fun (u : Unit) => [gRLC K ad, gScn K (ad 3) (ad 14) (ad 15) (ad 16) (ad 17) ou mi bo ln LF sn SF, gArrL K 1 ob OB]) 1 6 := by
  refine mH_of cL_addLayer 7 (by decide) rfl (Nat.le_of_ble_eq_true rfl) ?_
  intro p e s m below meth c A ls Q S C hG hl hr hlk hin htab hQ
  have S : CallFix p m c cL_addLayer 7 s ([.ref (ad 0), .int (iI y), .int (iI a1), .int (iI a2), .int (iI a3), .ref ob] : List Value).toArray wsL_addLayer RL := S
  have hl : lv_has ls 7 [(0, .ref (ad 0)), (1, .int (iI y)), (2, .int (iI a1)), (3, .int (iI a2)), (4, .int (iI a3)), (5, .ref ob)] := hl
  have hG : gW K A s.heap [gRLC K ad, gScn K (ad 3) (ad 14) (ad 15) (ad 16) (ad 17) ou mi bo ln LF sn SF, gArrL K 1 ob OB] s.heap [] := hG
  refine lv_aload S.1 S.2.1 dL_addLayer_0 (lv_at hl 5 rfl) ?_
  refine g_iconst S dL_addLayer_2 ?_
  refine lv_aload_n S.1 S.2.1 dL_addLayer_3 rfl (lv_at hl 0 rfl) ?_
  refine lv_iload_n S.1 S.2.1 dL_addLayer_4 rfl (lv_at hl 1 rfl) ?_
  refine lv_iload_n S.1 S.2.1 dL_addLayer_5 rfl (lv_at hl 2 rfl) ?_
  refine lv_iload_n S.1 S.2.1 dL_addLayer_6 rfl (lv_at hl 3 rfl) ?_
  refine lv_iload S.1 S.2.1 dL_addLayer_7 (lv_at hl 4 rfl) ?_
  refine g_xV (E := "java/lang/IndexOutOfBoundsException") (As := [.int (iI y), .int (iI a1), .int (iI a2), .int (iI a3)]) (rest := [.int (iI 0), .ref ob]) (gs' := (fun u : Unit => [gRLC K ad, gScn K (ad 3) (ad 14) (ad 15) (ad 16) (ad 17) ou mi bo ln LF sn SF, gArrL K 1 ob OB])) S C hG [0, 1] (x1_addLayer l K ad ou mi bo ln LF sn SF N y a1 a2 a3 hS hN hv hv1 hv2 hv3 hy hst) rfl rfl 0 rfl rfl (cwV 4 S.2.2.2.2 gL_addLayer_X8_addLayer rfl rfl rfl (by decide +kernel) ⟨Nat.le_of_ble_eq_true rfl, Nat.le_of_ble_eq_true rfl⟩) rfl hl.1 rfl (Nat.le_of_ble_eq_true rfl) dL_addLayer_9 ⟨Nat.le_of_ble_eq_true rfl, Nat.le_of_ble_eq_true rfl⟩ (fun _ => Nat.le_of_ble_eq_true rfl) (fun _ => rfl) (fun u q9 ce9 H locs hp hG hq9 hv9 hcl9 => ?_)
  refine g_catch (E := "java/lang/IndexOutOfBoundsException") (st := 0) (en := 14) (hpc := 17) (ct := 29) (suf' := [(0, 14, 21, 19), (0, 14, 25, 13)]) S C [] htab (List.mem_of_getElem? (l := exC) (i := 0) rfl) (fun _ h => absurd h List.not_mem_nil) ⟨by decide, by decide⟩ (by decide) (List.mem_of_getElem? (i := 1) rfl) hq9 hv9 hcl9 ?_
  refine lv_astore (lv' := [(6, .ref q9), (0, .ref (ad 0)), (1, .int (iI y)), (2, .int (iI a1)), (3, .int (iI a2)), (4, .int (iI a3)), (5, .ref ob)]) S.1 S.2.1 dL_addLayer_17 hl (by decide) rfl (fun ls hl => ?_)
  refine g_iconst S dL_addLayer_19 ?_
  have hG : gW K A s.heap [gRLC K ad, gScn K (ad 3) (ad 14) (ad 15) (ad 16) (ad 17) ou mi bo ln LF sn SF, gArrL K 1 ob OB] _ _ := hG
  exact g_iretH S hr hlk hQ dL_addLayer_20 (Nat.le_of_ble_eq_true rfl) (Nat.le_of_ble_eq_true rfl) (() : Unit) rfl hG

set_option maxHeartbeats 1000000 in
set_option maxRecDepth 100000 in
theorem x2a_L_addLayer (l : Launch) (K : KC) (ad : Nat → Nat) (ou : Int) (mi : Int) (bo : Int) (ln : Int) (LF : Int → Int) (sn : Int) (SF : Int → Int) (N : Int → Int) (y : Int) (a1 : Int) (a2 : Int) (a3 : Int) (ob : Nat) (OB : Int → Int) (hS : ScOk N ou mi bo ln LF sn SF) (hN : NOk0 N) (hv : -2147483648 ≤ y ∧ y < 2147483648) (hv1 : -2147483648 ≤ a1 ∧ a1 < 2147483648) (hv2 : -2147483648 ≤ a2 ∧ a2 < 2147483648) (hv3 : -2147483648 ≤ a3 ∧ a3 < 2147483648) (hy : 0 ≤ y ∧ y ≤ N 0) (c1 : ¬ (1000 ≤ a1 ∧ a1 ≤ 4000)) (hst : l.stackTraces = false) : mH l yL_addLayer wsL_addLayer 8 128 K [.ref (ad 0), .int (iI y), .int (iI a1), .int (iI a2), .int (iI a3), .ref ob] [gRLC K ad, gScn K (ad 3) (ad 14) (ad 15) (ad 16) (ad 17) ou mi bo ln LF sn SF, gArrL K 1 ob OB] (fun (v : Value) (u : Unit) => (v = .int (iI 2))) (fun (u : Unit) => [gRLC K ad, gScn K (ad 3) (ad 14) (ad 15) (ad 16) (ad 17) ou mi bo ln LF sn SF, gArrL K 1 ob OB]) 1 6 := by
  refine mH_of cL_addLayer 7 (by decide) rfl (Nat.le_of_ble_eq_true rfl) ?_
  intro p e s m below meth c A ls Q S C hG hl hr hlk hin htab hQ
  have S : CallFix p m c cL_addLayer 7 s ([.ref (ad 0), .int (iI y), .int (iI a1), .int (iI a2), .int (iI a3), .ref ob] : List Value).toArray wsL_addLayer RL := S
  have hl : lv_has ls 7 [(0, .ref (ad 0)), (1, .int (iI y)), (2, .int (iI a1)), (3, .int (iI a2)), (4, .int (iI a3)), (5, .ref ob)] := hl
  have hG : gW K A s.heap [gRLC K ad, gScn K (ad 3) (ad 14) (ad 15) (ad 16) (ad 17) ou mi bo ln LF sn SF, gArrL K 1 ob OB] s.heap [] := hG
  refine lv_aload S.1 S.2.1 dL_addLayer_0 (lv_at hl 5 rfl) ?_
  refine g_iconst S dL_addLayer_2 ?_
  refine lv_aload_n S.1 S.2.1 dL_addLayer_3 rfl (lv_at hl 0 rfl) ?_
  refine lv_iload_n S.1 S.2.1 dL_addLayer_4 rfl (lv_at hl 1 rfl) ?_
  refine lv_iload_n S.1 S.2.1 dL_addLayer_5 rfl (lv_at hl 2 rfl) ?_
  refine lv_iload_n S.1 S.2.1 dL_addLayer_6 rfl (lv_at hl 3 rfl) ?_
  refine lv_iload S.1 S.2.1 dL_addLayer_7 (lv_at hl 4 rfl) ?_
  refine g_xV (E := "java/lang/IllegalArgumentException") (As := [.int (iI y), .int (iI a1), .int (iI a2), .int (iI a3)]) (rest := [.int (iI 0), .ref ob]) (gs' := (fun u : Unit => [gRLC K ad, gScn K (ad 3) (ad 14) (ad 15) (ad 16) (ad 17) ou mi bo ln LF sn SF, gArrL K 1 ob OB])) S C hG [0, 1] (x2a_addLayer l K ad ou mi bo ln LF sn SF N y a1 a2 a3 hS hN hv hv1 hv2 hv3 hy c1 hst) rfl rfl 0 rfl rfl (cwV 4 S.2.2.2.2 gL_addLayer_X8_addLayer rfl rfl rfl (by decide +kernel) ⟨Nat.le_of_ble_eq_true rfl, Nat.le_of_ble_eq_true rfl⟩) rfl hl.1 rfl (Nat.le_of_ble_eq_true rfl) dL_addLayer_9 ⟨Nat.le_of_ble_eq_true rfl, Nat.le_of_ble_eq_true rfl⟩ (fun _ => Nat.le_of_ble_eq_true rfl) (fun _ => rfl) (fun u q9 ce9 H locs hp hG hq9 hv9 hcl9 => ?_)
  refine g_catch (E := "java/lang/IllegalArgumentException") (st := 0) (en := 14) (hpc := 21) (ct := 19) (suf' := [(0, 14, 25, 13)]) S C [(0, 14, 17, 29)] htab (List.mem_of_getElem? (l := exC) (i := 1) rfl) (List.forall_mem_cons.mpr ⟨⟨by decide, "java/lang/IndexOutOfBoundsException", (List.mem_of_getElem? (l := exC) (i := 0) rfl), by decide, (List.mem_of_getElem? (i := 1) rfl)⟩, fun _ h => absurd h List.not_mem_nil⟩) ⟨by decide, by decide⟩ (by decide) (List.mem_of_getElem? (i := 2) rfl) hq9 hv9 hcl9 ?_
  refine lv_astore (lv' := [(6, .ref q9), (0, .ref (ad 0)), (1, .int (iI y)), (2, .int (iI a1)), (3, .int (iI a2)), (4, .int (iI a3)), (5, .ref ob)]) S.1 S.2.1 dL_addLayer_21 hl (by decide) rfl (fun ls hl => ?_)
  refine g_iconst S dL_addLayer_23 ?_
  have hG : gW K A s.heap [gRLC K ad, gScn K (ad 3) (ad 14) (ad 15) (ad 16) (ad 17) ou mi bo ln LF sn SF, gArrL K 1 ob OB] _ _ := hG
  exact g_iretH S hr hlk hQ dL_addLayer_24 (Nat.le_of_ble_eq_true rfl) (Nat.le_of_ble_eq_true rfl) (() : Unit) rfl hG

set_option maxHeartbeats 1000000 in
set_option maxRecDepth 100000 in
theorem x2b_L_addLayer (l : Launch) (K : KC) (ad : Nat → Nat) (ou : Int) (mi : Int) (bo : Int) (ln : Int) (LF : Int → Int) (sn : Int) (SF : Int → Int) (N : Int → Int) (y : Int) (a1 : Int) (a2 : Int) (a3 : Int) (ob : Nat) (OB : Int → Int) (hS : ScOk N ou mi bo ln LF sn SF) (hN : NOk0 N) (hv : -2147483648 ≤ y ∧ y < 2147483648) (hv1 : -2147483648 ≤ a1 ∧ a1 < 2147483648) (hv2 : -2147483648 ≤ a2 ∧ a2 < 2147483648) (hv3 : -2147483648 ≤ a3 ∧ a3 < 2147483648) (hy : 0 ≤ y ∧ y ≤ N 0) (c1 : 1000 ≤ a1 ∧ a1 ≤ 4000) (c2 : ¬ (1 ≤ a2 ∧ a2 ≤ 999)) (hst : l.stackTraces = false) : mH l yL_addLayer wsL_addLayer 8 128 K [.ref (ad 0), .int (iI y), .int (iI a1), .int (iI a2), .int (iI a3), .ref ob] [gRLC K ad, gScn K (ad 3) (ad 14) (ad 15) (ad 16) (ad 17) ou mi bo ln LF sn SF, gArrL K 1 ob OB] (fun (v : Value) (u : Unit) => (v = .int (iI 2))) (fun (u : Unit) => [gRLC K ad, gScn K (ad 3) (ad 14) (ad 15) (ad 16) (ad 17) ou mi bo ln LF sn SF, gArrL K 1 ob OB]) 1 6 := by
  refine mH_of cL_addLayer 7 (by decide) rfl (Nat.le_of_ble_eq_true rfl) ?_
  intro p e s m below meth c A ls Q S C hG hl hr hlk hin htab hQ
  have S : CallFix p m c cL_addLayer 7 s ([.ref (ad 0), .int (iI y), .int (iI a1), .int (iI a2), .int (iI a3), .ref ob] : List Value).toArray wsL_addLayer RL := S
  have hl : lv_has ls 7 [(0, .ref (ad 0)), (1, .int (iI y)), (2, .int (iI a1)), (3, .int (iI a2)), (4, .int (iI a3)), (5, .ref ob)] := hl
  have hG : gW K A s.heap [gRLC K ad, gScn K (ad 3) (ad 14) (ad 15) (ad 16) (ad 17) ou mi bo ln LF sn SF, gArrL K 1 ob OB] s.heap [] := hG
  refine lv_aload S.1 S.2.1 dL_addLayer_0 (lv_at hl 5 rfl) ?_
  refine g_iconst S dL_addLayer_2 ?_
  refine lv_aload_n S.1 S.2.1 dL_addLayer_3 rfl (lv_at hl 0 rfl) ?_
  refine lv_iload_n S.1 S.2.1 dL_addLayer_4 rfl (lv_at hl 1 rfl) ?_
  refine lv_iload_n S.1 S.2.1 dL_addLayer_5 rfl (lv_at hl 2 rfl) ?_
  refine lv_iload_n S.1 S.2.1 dL_addLayer_6 rfl (lv_at hl 3 rfl) ?_
  refine lv_iload S.1 S.2.1 dL_addLayer_7 (lv_at hl 4 rfl) ?_
  refine g_xV (E := "java/lang/IllegalArgumentException") (As := [.int (iI y), .int (iI a1), .int (iI a2), .int (iI a3)]) (rest := [.int (iI 0), .ref ob]) (gs' := (fun u : Unit => [gRLC K ad, gScn K (ad 3) (ad 14) (ad 15) (ad 16) (ad 17) ou mi bo ln LF sn SF, gArrL K 1 ob OB])) S C hG [0, 1] (x2b_addLayer l K ad ou mi bo ln LF sn SF N y a1 a2 a3 hS hN hv hv1 hv2 hv3 hy c1 c2 hst) rfl rfl 0 rfl rfl (cwV 4 S.2.2.2.2 gL_addLayer_X8_addLayer rfl rfl rfl (by decide +kernel) ⟨Nat.le_of_ble_eq_true rfl, Nat.le_of_ble_eq_true rfl⟩) rfl hl.1 rfl (Nat.le_of_ble_eq_true rfl) dL_addLayer_9 ⟨Nat.le_of_ble_eq_true rfl, Nat.le_of_ble_eq_true rfl⟩ (fun _ => Nat.le_of_ble_eq_true rfl) (fun _ => rfl) (fun u q9 ce9 H locs hp hG hq9 hv9 hcl9 => ?_)
  refine g_catch (E := "java/lang/IllegalArgumentException") (st := 0) (en := 14) (hpc := 21) (ct := 19) (suf' := [(0, 14, 25, 13)]) S C [(0, 14, 17, 29)] htab (List.mem_of_getElem? (l := exC) (i := 1) rfl) (List.forall_mem_cons.mpr ⟨⟨by decide, "java/lang/IndexOutOfBoundsException", (List.mem_of_getElem? (l := exC) (i := 0) rfl), by decide, (List.mem_of_getElem? (i := 1) rfl)⟩, fun _ h => absurd h List.not_mem_nil⟩) ⟨by decide, by decide⟩ (by decide) (List.mem_of_getElem? (i := 2) rfl) hq9 hv9 hcl9 ?_
  refine lv_astore (lv' := [(6, .ref q9), (0, .ref (ad 0)), (1, .int (iI y)), (2, .int (iI a1)), (3, .int (iI a2)), (4, .int (iI a3)), (5, .ref ob)]) S.1 S.2.1 dL_addLayer_21 hl (by decide) rfl (fun ls hl => ?_)
  refine g_iconst S dL_addLayer_23 ?_
  have hG : gW K A s.heap [gRLC K ad, gScn K (ad 3) (ad 14) (ad 15) (ad 16) (ad 17) ou mi bo ln LF sn SF, gArrL K 1 ob OB] _ _ := hG
  exact g_iretH S hr hlk hQ dL_addLayer_24 (Nat.le_of_ble_eq_true rfl) (Nat.le_of_ble_eq_true rfl) (() : Unit) rfl hG

set_option maxHeartbeats 1000000 in
set_option maxRecDepth 100000 in
theorem x2c_L_addLayer (l : Launch) (K : KC) (ad : Nat → Nat) (ou : Int) (mi : Int) (bo : Int) (ln : Int) (LF : Int → Int) (sn : Int) (SF : Int → Int) (N : Int → Int) (y : Int) (a1 : Int) (a2 : Int) (a3 : Int) (ob : Nat) (OB : Int → Int) (hS : ScOk N ou mi bo ln LF sn SF) (hN : NOk0 N) (hv : -2147483648 ≤ y ∧ y < 2147483648) (hv1 : -2147483648 ≤ a1 ∧ a1 < 2147483648) (hv2 : -2147483648 ≤ a2 ∧ a2 < 2147483648) (hv3 : -2147483648 ≤ a3 ∧ a3 < 2147483648) (hy : 0 ≤ y ∧ y ≤ N 0) (c1 : 1000 ≤ a1 ∧ a1 ≤ 4000) (c2 : 1 ≤ a2 ∧ a2 ≤ 999) (c3 : ¬ (0 ≤ a3 ∧ a3 ≤ 99)) (hst : l.stackTraces = false) : mH l yL_addLayer wsL_addLayer 8 128 K [.ref (ad 0), .int (iI y), .int (iI a1), .int (iI a2), .int (iI a3), .ref ob] [gRLC K ad, gScn K (ad 3) (ad 14) (ad 15) (ad 16) (ad 17) ou mi bo ln LF sn SF, gArrL K 1 ob OB] (fun (v : Value) (u : Unit) => (v = .int (iI 2))) (fun (u : Unit) => [gRLC K ad, gScn K (ad 3) (ad 14) (ad 15) (ad 16) (ad 17) ou mi bo ln LF sn SF, gArrL K 1 ob OB]) 1 6 := by
  refine mH_of cL_addLayer 7 (by decide) rfl (Nat.le_of_ble_eq_true rfl) ?_
  intro p e s m below meth c A ls Q S C hG hl hr hlk hin htab hQ
  have S : CallFix p m c cL_addLayer 7 s ([.ref (ad 0), .int (iI y), .int (iI a1), .int (iI a2), .int (iI a3), .ref ob] : List Value).toArray wsL_addLayer RL := S
  have hl : lv_has ls 7 [(0, .ref (ad 0)), (1, .int (iI y)), (2, .int (iI a1)), (3, .int (iI a2)), (4, .int (iI a3)), (5, .ref ob)] := hl
  have hG : gW K A s.heap [gRLC K ad, gScn K (ad 3) (ad 14) (ad 15) (ad 16) (ad 17) ou mi bo ln LF sn SF, gArrL K 1 ob OB] s.heap [] := hG
  refine lv_aload S.1 S.2.1 dL_addLayer_0 (lv_at hl 5 rfl) ?_
  refine g_iconst S dL_addLayer_2 ?_
  refine lv_aload_n S.1 S.2.1 dL_addLayer_3 rfl (lv_at hl 0 rfl) ?_
  refine lv_iload_n S.1 S.2.1 dL_addLayer_4 rfl (lv_at hl 1 rfl) ?_
  refine lv_iload_n S.1 S.2.1 dL_addLayer_5 rfl (lv_at hl 2 rfl) ?_
  refine lv_iload_n S.1 S.2.1 dL_addLayer_6 rfl (lv_at hl 3 rfl) ?_
  refine lv_iload S.1 S.2.1 dL_addLayer_7 (lv_at hl 4 rfl) ?_
  refine g_xV (E := "java/lang/IllegalArgumentException") (As := [.int (iI y), .int (iI a1), .int (iI a2), .int (iI a3)]) (rest := [.int (iI 0), .ref ob]) (gs' := (fun u : Unit => [gRLC K ad, gScn K (ad 3) (ad 14) (ad 15) (ad 16) (ad 17) ou mi bo ln LF sn SF, gArrL K 1 ob OB])) S C hG [0, 1] (x2c_addLayer l K ad ou mi bo ln LF sn SF N y a1 a2 a3 hS hN hv hv1 hv2 hv3 hy c1 c2 c3 hst) rfl rfl 0 rfl rfl (cwV 4 S.2.2.2.2 gL_addLayer_X8_addLayer rfl rfl rfl (by decide +kernel) ⟨Nat.le_of_ble_eq_true rfl, Nat.le_of_ble_eq_true rfl⟩) rfl hl.1 rfl (Nat.le_of_ble_eq_true rfl) dL_addLayer_9 ⟨Nat.le_of_ble_eq_true rfl, Nat.le_of_ble_eq_true rfl⟩ (fun _ => Nat.le_of_ble_eq_true rfl) (fun _ => rfl) (fun u q9 ce9 H locs hp hG hq9 hv9 hcl9 => ?_)
  refine g_catch (E := "java/lang/IllegalArgumentException") (st := 0) (en := 14) (hpc := 21) (ct := 19) (suf' := [(0, 14, 25, 13)]) S C [(0, 14, 17, 29)] htab (List.mem_of_getElem? (l := exC) (i := 1) rfl) (List.forall_mem_cons.mpr ⟨⟨by decide, "java/lang/IndexOutOfBoundsException", (List.mem_of_getElem? (l := exC) (i := 0) rfl), by decide, (List.mem_of_getElem? (i := 1) rfl)⟩, fun _ h => absurd h List.not_mem_nil⟩) ⟨by decide, by decide⟩ (by decide) (List.mem_of_getElem? (i := 2) rfl) hq9 hv9 hcl9 ?_
  refine lv_astore (lv' := [(6, .ref q9), (0, .ref (ad 0)), (1, .int (iI y)), (2, .int (iI a1)), (3, .int (iI a2)), (4, .int (iI a3)), (5, .ref ob)]) S.1 S.2.1 dL_addLayer_21 hl (by decide) rfl (fun ls hl => ?_)
  refine g_iconst S dL_addLayer_23 ?_
  have hG : gW K A s.heap [gRLC K ad, gScn K (ad 3) (ad 14) (ad 15) (ad 16) (ad 17) ou mi bo ln LF sn SF, gArrL K 1 ob OB] _ _ := hG
  exact g_iretH S hr hlk hQ dL_addLayer_24 (Nat.le_of_ble_eq_true rfl) (Nat.le_of_ble_eq_true rfl) (() : Unit) rfl hG

set_option maxHeartbeats 1000000 in
set_option maxRecDepth 100000 in
theorem x3_L_addLayer (l : Launch) (K : KC) (ad : Nat → Nat) (ou : Int) (mi : Int) (bo : Int) (ln : Int) (LF : Int → Int) (sn : Int) (SF : Int → Int) (N : Int → Int) (y : Int) (a1 : Int) (a2 : Int) (a3 : Int) (ob : Nat) (OB : Int → Int) (hS : ScOk N ou mi bo ln LF sn SF) (hN : NOk0 N) (hv : -2147483648 ≤ y ∧ y < 2147483648) (hv1 : -2147483648 ≤ a1 ∧ a1 < 2147483648) (hv2 : -2147483648 ≤ a2 ∧ a2 < 2147483648) (hv3 : -2147483648 ≤ a3 ∧ a3 < 2147483648) (hy : 0 ≤ y ∧ y ≤ N 0) (c1 : 1000 ≤ a1 ∧ a1 ≤ 4000) (c2 : 1 ≤ a2 ∧ a2 ≤ 999) (c3 : 0 ≤ a3 ∧ a3 ≤ 99) (h7 : ¬ N 0 < 10) (hst : l.stackTraces = false) : mH l yL_addLayer wsL_addLayer 7 106 K [.ref (ad 0), .int (iI y), .int (iI a1), .int (iI a2), .int (iI a3), .ref ob] [gRLC K ad, gScn K (ad 3) (ad 14) (ad 15) (ad 16) (ad 17) ou mi bo ln LF sn SF, gArrL K 1 ob OB] (fun (v : Value) (u : Unit) => (v = .int (iI 3))) (fun (u : Unit) => [gRLC K ad, gScn K (ad 3) (ad 14) (ad 15) (ad 16) (ad 17) ou mi bo ln LF sn SF, gArrL K 1 ob OB]) 1 6 := by
  refine mH_of cL_addLayer 7 (by decide) rfl (Nat.le_of_ble_eq_true rfl) ?_
  intro p e s m below meth c A ls Q S C hG hl hr hlk hin htab hQ
  have S : CallFix p m c cL_addLayer 7 s ([.ref (ad 0), .int (iI y), .int (iI a1), .int (iI a2), .int (iI a3), .ref ob] : List Value).toArray wsL_addLayer RL := S
  have hl : lv_has ls 7 [(0, .ref (ad 0)), (1, .int (iI y)), (2, .int (iI a1)), (3, .int (iI a2)), (4, .int (iI a3)), (5, .ref ob)] := hl
  have hG : gW K A s.heap [gRLC K ad, gScn K (ad 3) (ad 14) (ad 15) (ad 16) (ad 17) ou mi bo ln LF sn SF, gArrL K 1 ob OB] s.heap [] := hG
  refine lv_aload S.1 S.2.1 dL_addLayer_0 (lv_at hl 5 rfl) ?_
  refine g_iconst S dL_addLayer_2 ?_
  refine lv_aload_n S.1 S.2.1 dL_addLayer_3 rfl (lv_at hl 0 rfl) ?_
  refine lv_iload_n S.1 S.2.1 dL_addLayer_4 rfl (lv_at hl 1 rfl) ?_
  refine lv_iload_n S.1 S.2.1 dL_addLayer_5 rfl (lv_at hl 2 rfl) ?_
  refine lv_iload_n S.1 S.2.1 dL_addLayer_6 rfl (lv_at hl 3 rfl) ?_
  refine lv_iload S.1 S.2.1 dL_addLayer_7 (lv_at hl 4 rfl) ?_
  refine g_xV (E := "java/lang/IllegalStateException") (As := [.int (iI y), .int (iI a1), .int (iI a2), .int (iI a3)]) (rest := [.int (iI 0), .ref ob]) (gs' := (fun u : Unit => [gRLC K ad, gScn K (ad 3) (ad 14) (ad 15) (ad 16) (ad 17) ou mi bo ln LF sn SF, gArrL K 1 ob OB])) S C hG [0, 1] (x3_addLayer l K ad ou mi bo ln LF sn SF N y a1 a2 a3 hS hN hv hv1 hv2 hv3 hy c1 c2 c3 h7 hst) rfl rfl 0 rfl rfl (cwV 4 S.2.2.2.2 gL_addLayer_X8_addLayer rfl rfl rfl (by decide +kernel) ⟨Nat.le_of_ble_eq_true rfl, Nat.le_of_ble_eq_true rfl⟩) rfl hl.1 rfl (Nat.le_of_ble_eq_true rfl) dL_addLayer_9 ⟨Nat.le_of_ble_eq_true rfl, Nat.le_of_ble_eq_true rfl⟩ (fun _ => Nat.le_of_ble_eq_true rfl) (fun _ => rfl) (fun u q9 ce9 H locs hp hG hq9 hv9 hcl9 => ?_)
  refine g_catch (E := "java/lang/IllegalStateException") (st := 0) (en := 14) (hpc := 25) (ct := 13) (suf' := []) S C [(0, 14, 17, 29), (0, 14, 21, 19)] htab (List.mem_of_getElem? (l := exC) (i := 2) rfl) (List.forall_mem_cons.mpr ⟨⟨by decide, "java/lang/IndexOutOfBoundsException", (List.mem_of_getElem? (l := exC) (i := 0) rfl), by decide, (List.mem_of_getElem? (i := 1) rfl)⟩, List.forall_mem_cons.mpr ⟨⟨by decide, "java/lang/IllegalArgumentException", (List.mem_of_getElem? (l := exC) (i := 1) rfl), by decide, (List.mem_of_getElem? (i := 2) rfl)⟩, fun _ h => absurd h List.not_mem_nil⟩⟩) ⟨by decide, by decide⟩ (by decide) (List.mem_of_getElem? (i := 3) rfl) hq9 hv9 hcl9 ?_
  refine lv_astore (lv' := [(6, .ref q9), (0, .ref (ad 0)), (1, .int (iI y)), (2, .int (iI a1)), (3, .int (iI a2)), (4, .int (iI a3)), (5, .ref ob)]) S.1 S.2.1 dL_addLayer_25 hl (by decide) rfl (fun ls hl => ?_)
  refine g_iconst S dL_addLayer_27 ?_
  have hG : gW K A s.heap [gRLC K ad, gScn K (ad 3) (ad 14) (ad 15) (ad 16) (ad 17) ou mi bo ln LF sn SF, gArrL K 1 ob OB] _ _ := hG
  exact g_iretH S hr hlk hQ dL_addLayer_28 (Nat.le_of_ble_eq_true rfl) (Nat.le_of_ble_eq_true rfl) (() : Unit) rfl hG

set_option maxHeartbeats 1000000 in
set_option maxRecDepth 100000 in
theorem c_L_removeLayer (l : Launch) (K : KC) (ad : Nat → Nat) (ou : Int) (mi : Int) (bo : Int) (ln : Int) (LF : Int → Int) (sn : Int) (SF : Int → Int) (N : Int → Int) (nx : Int) (sz : Int) (o : Nat → Option SR) (y : Int) (ob : Nat) (OB : Int → Int) (hS : ScOk N ou mi bo ln LF sn SF) (hN : NOk0 N) (hnx : 0 ≤ nx ∧ nx < 6) (hsz : 0 ≤ sz ∧ sz ≤ 6) (hv : -2147483648 ≤ y ∧ y < 2147483648) (hy : 0 ≤ y ∧ y < N 0) (h7 : 1 < N 0) : mH l yL_removeLayer wsL_removeLayer 5 145 K [.ref (ad 0), .int (iI y), .ref ob] [gRLC K ad, gScn K (ad 3) (ad 14) (ad 15) (ad 16) (ad 17) ou mi bo ln LF sn SF, gHisC K (ad 5) (ad 22) nx sz, gQS K (ad 22) 6 (oP o), gArrL K 1 ob OB, gSOs K o (List.range 6)] (fun (v : Value) (u : SR × (Int → Int)) => (v = .int (iI 0)) ∧ (ScR N u.1) ∧ (ScOk (remLN N y) ou mi bo (ln - 1) u.2 sn SF)) (fun (u : SR × (Int → Int)) => [gRLC K ad, gScn K (ad 3) (ad 14) (ad 15) (ad 16) (ad 17) ou mi bo (ln - 1) u.2 sn SF, gHisC K (ad 5) (ad 22) ((nx + 1) % 6) (min (sz + 1) 6), gQS K (ad 22) 6 (oP (oup o nx.toNat u.1)), gArrL K 1 ob (upI OB 0 (iI (N 0 - 1)).toInt), gSOs K (oup o nx.toNat u.1) (List.range 6)]) 5 129 := by
  refine mH_of cL_removeLayer 4 (by decide) rfl (Nat.le_of_ble_eq_true rfl) ?_
  intro p e s m below meth c A ls Q S C hG hl hr hlk hin htab hQ
  have S : CallFix p m c cL_removeLayer 4 s ([.ref (ad 0), .int (iI y), .ref ob] : List Value).toArray wsL_removeLayer RL := S
  have hl : lv_has ls 4 [(0, .ref (ad 0)), (1, .int (iI y)), (2, .ref ob)] := hl
  have hG : gW K A s.heap [gRLC K ad, gScn K (ad 3) (ad 14) (ad 15) (ad 16) (ad 17) ou mi bo ln LF sn SF, gHisC K (ad 5) (ad 22) nx sz, gQS K (ad 22) 6 (oP o), gArrL K 1 ob OB, gSOs K o (List.range 6)] s.heap [] := hG
  refine lv_aload_n S.1 S.2.1 dL_removeLayer_0 rfl (lv_at hl 2 rfl) ?_
  refine g_iconst S dL_removeLayer_1 ?_
  refine lv_aload_n S.1 S.2.1 dL_removeLayer_2 rfl (lv_at hl 0 rfl) ?_
  refine lv_iload_n S.1 S.2.1 dL_removeLayer_3 rfl (lv_at hl 1 rfl) ?_
  refine g_invV (As := [.int (iI y)]) (rest := [.int (iI 0), .ref ob]) (gs' := (fun u : SR × (Int → Int) => [gRLC K ad, gScn K (ad 3) (ad 14) (ad 15) (ad 16) (ad 17) ou mi bo (ln - 1) u.2 sn SF, gHisC K (ad 5) (ad 22) ((nx + 1) % 6) (min (sz + 1) 6), gQS K (ad 22) 6 (oP (oup o nx.toNat u.1)), gArrL K 1 ob OB, gSOs K (oup o nx.toNat u.1) (List.range 6)])) S C hG [0, 1, 2, 3, 5] (c_X8_removeLayer l K ad ou mi bo ln LF sn SF N nx sz o y hS hN hnx hsz hv hy h7) rfl rfl 0 rfl rfl (cwV 1 S.2.2.2.2 gL_removeLayer_X8_removeLayer rfl rfl rfl (by decide +kernel) ⟨Nat.le_of_ble_eq_true rfl, Nat.le_of_ble_eq_true rfl⟩) rfl hl.1 rfl (Nat.le_of_ble_eq_true rfl) dL_removeLayer_4 ⟨Nat.le_of_ble_eq_true rfl, Nat.le_of_ble_eq_true rfl⟩ (fun _ => Nat.le_of_ble_eq_true rfl) (fun _ => rfl) (fun v u H locs hp hG => ?_)
  obtain ⟨u9_4, LF2_4⟩ := u
  obtain ⟨rfl, hu_4, hS2_4⟩ := hp
  have hu_4 : ScR N u9_4 := hu_4
  have hS2_4 : ScOk (remLN N y) ou mi bo (ln - 1) LF2_4 sn SF := hS2_4
  have hG : gW K A s.heap [gRLC K ad, gScn K (ad 3) (ad 14) (ad 15) (ad 16) (ad 17) ou mi bo (ln - 1) LF2_4 sn SF, gHisC K (ad 5) (ad 22) ((nx + 1) % 6) (min (sz + 1) 6), gQS K (ad 22) 6 (oP (oup o nx.toNat u9_4)), gArrL K 1 ob OB, gSOs K (oup o nx.toNat u9_4) (List.range 6)] _ _ := hG
  refine g_i2lr S dL_removeLayer_7 ?_
  refine g_last (n := 1) (gs' := [gRLC K ad, gScn K (ad 3) (ad 14) (ad 15) (ad 16) (ad 17) ou mi bo (ln - 1) LF2_4 sn SF, gHisC K (ad 5) (ad 22) ((nx + 1) % 6) (min (sz + 1) 6), gQS K (ad 22) 6 (oP (oup o nx.toNat u9_4)), gArrL K 1 ob (upI OB 0 ((iI (N 0 - 1)).toInt)), gSOs K (oup o nx.toNat u9_4) (List.range 6)]) S C hG 8 rfl (by decide) (by decide) (by decide) rfl dL_removeLayer_8 (fun H locs hG => ?_)
  refine lv_goto (tgt := 18) S.1 S.2.1 dL_removeLayer_9 (by decide) ?_
  refine g_iconst S dL_removeLayer_18 ?_
  have hG : gW K A s.heap [gRLC K ad, gScn K (ad 3) (ad 14) (ad 15) (ad 16) (ad 17) ou mi bo (ln - 1) LF2_4 sn SF, gHisC K (ad 5) (ad 22) ((nx + 1) % 6) (min (sz + 1) 6), gQS K (ad 22) 6 (oP (oup o nx.toNat u9_4)), gArrL K 1 ob (upI OB 0 (iI (N 0 - 1)).toInt), gSOs K (oup o nx.toNat u9_4) (List.range 6)] _ _ := hG
  exact g_iretH S hr hlk hQ dL_removeLayer_19 (Nat.le_of_ble_eq_true rfl) (Nat.le_of_ble_eq_true rfl) ((u9_4, LF2_4) : SR × (Int → Int)) ⟨rfl, hu_4, hS2_4⟩ hG

set_option maxHeartbeats 1000000 in
set_option maxRecDepth 100000 in
theorem x1_L_removeLayer (l : Launch) (K : KC) (ad : Nat → Nat) (ou : Int) (mi : Int) (bo : Int) (ln : Int) (LF : Int → Int) (sn : Int) (SF : Int → Int) (N : Int → Int) (y : Int) (ob : Nat) (OB : Int → Int) (hS : ScOk N ou mi bo ln LF sn SF) (hN : NOk0 N) (hv : -2147483648 ≤ y ∧ y < 2147483648) (hy : ¬ (0 ≤ y ∧ y < N 0)) (hst : l.stackTraces = false) : mH l yL_removeLayer wsL_removeLayer 8 124 K [.ref (ad 0), .int (iI y), .ref ob] [gRLC K ad, gScn K (ad 3) (ad 14) (ad 15) (ad 16) (ad 17) ou mi bo ln LF sn SF, gArrL K 1 ob OB] (fun (v : Value) (u : Unit) => (v = .int (iI 1))) (fun (u : Unit) => [gRLC K ad, gScn K (ad 3) (ad 14) (ad 15) (ad 16) (ad 17) ou mi bo ln LF sn SF, gArrL K 1 ob OB]) 1 6 := by
  refine mH_of cL_removeLayer 4 (by decide) rfl (Nat.le_of_ble_eq_true rfl) ?_
  intro p e s m below meth c A ls Q S C hG hl hr hlk hin htab hQ
  have S : CallFix p m c cL_removeLayer 4 s ([.ref (ad 0), .int (iI y), .ref ob] : List Value).toArray wsL_removeLayer RL := S
  have hl : lv_has ls 4 [(0, .ref (ad 0)), (1, .int (iI y)), (2, .ref ob)] := hl
  have hG : gW K A s.heap [gRLC K ad, gScn K (ad 3) (ad 14) (ad 15) (ad 16) (ad 17) ou mi bo ln LF sn SF, gArrL K 1 ob OB] s.heap [] := hG
  refine lv_aload_n S.1 S.2.1 dL_removeLayer_0 rfl (lv_at hl 2 rfl) ?_
  refine g_iconst S dL_removeLayer_1 ?_
  refine lv_aload_n S.1 S.2.1 dL_removeLayer_2 rfl (lv_at hl 0 rfl) ?_
  refine lv_iload_n S.1 S.2.1 dL_removeLayer_3 rfl (lv_at hl 1 rfl) ?_
  refine g_xV (E := "java/lang/IndexOutOfBoundsException") (As := [.int (iI y)]) (rest := [.int (iI 0), .ref ob]) (gs' := (fun u : Unit => [gRLC K ad, gScn K (ad 3) (ad 14) (ad 15) (ad 16) (ad 17) ou mi bo ln LF sn SF, gArrL K 1 ob OB])) S C hG [0, 1] (x1_removeLayer l K ad ou mi bo ln LF sn SF N y hS hN hv hy hst) rfl rfl 0 rfl rfl (cwV 1 S.2.2.2.2 gL_removeLayer_X8_removeLayer rfl rfl rfl (by decide +kernel) ⟨Nat.le_of_ble_eq_true rfl, Nat.le_of_ble_eq_true rfl⟩) rfl hl.1 rfl (Nat.le_of_ble_eq_true rfl) dL_removeLayer_4 ⟨Nat.le_of_ble_eq_true rfl, Nat.le_of_ble_eq_true rfl⟩ (fun _ => Nat.le_of_ble_eq_true rfl) (fun _ => rfl) (fun u q9 ce9 H locs hp hG hq9 hv9 hcl9 => ?_)
  refine g_catch (E := "java/lang/IndexOutOfBoundsException") (st := 0) (en := 9) (hpc := 12) (ct := 29) (suf' := [(0, 9, 15, 13)]) S C [] htab (List.mem_of_getElem? (l := exC) (i := 0) rfl) (fun _ h => absurd h List.not_mem_nil) ⟨by decide, by decide⟩ (by decide) (List.mem_of_getElem? (i := 1) rfl) hq9 hv9 hcl9 ?_
  refine lv_astore_n (lv' := [(3, .ref q9), (0, .ref (ad 0)), (1, .int (iI y)), (2, .ref ob)]) S.1 S.2.1 dL_removeLayer_12 rfl hl (by decide) rfl (fun ls hl => ?_)
  refine g_iconst S dL_removeLayer_13 ?_
  have hG : gW K A s.heap [gRLC K ad, gScn K (ad 3) (ad 14) (ad 15) (ad 16) (ad 17) ou mi bo ln LF sn SF, gArrL K 1 ob OB] _ _ := hG
  exact g_iretH S hr hlk hQ dL_removeLayer_14 (Nat.le_of_ble_eq_true rfl) (Nat.le_of_ble_eq_true rfl) (() : Unit) rfl hG

set_option maxHeartbeats 1000000 in
set_option maxRecDepth 100000 in
theorem x2_L_removeLayer (l : Launch) (K : KC) (ad : Nat → Nat) (ou : Int) (mi : Int) (bo : Int) (ln : Int) (LF : Int → Int) (sn : Int) (SF : Int → Int) (N : Int → Int) (y : Int) (ob : Nat) (OB : Int → Int) (hS : ScOk N ou mi bo ln LF sn SF) (hN : NOk0 N) (hv : -2147483648 ≤ y ∧ y < 2147483648) (hy : 0 ≤ y ∧ y < N 0) (h7 : ¬ 1 < N 0) (hst : l.stackTraces = false) : mH l yL_removeLayer wsL_removeLayer 7 103 K [.ref (ad 0), .int (iI y), .ref ob] [gRLC K ad, gScn K (ad 3) (ad 14) (ad 15) (ad 16) (ad 17) ou mi bo ln LF sn SF, gArrL K 1 ob OB] (fun (v : Value) (u : Unit) => (v = .int (iI 2))) (fun (u : Unit) => [gRLC K ad, gScn K (ad 3) (ad 14) (ad 15) (ad 16) (ad 17) ou mi bo ln LF sn SF, gArrL K 1 ob OB]) 1 6 := by
  refine mH_of cL_removeLayer 4 (by decide) rfl (Nat.le_of_ble_eq_true rfl) ?_
  intro p e s m below meth c A ls Q S C hG hl hr hlk hin htab hQ
  have S : CallFix p m c cL_removeLayer 4 s ([.ref (ad 0), .int (iI y), .ref ob] : List Value).toArray wsL_removeLayer RL := S
  have hl : lv_has ls 4 [(0, .ref (ad 0)), (1, .int (iI y)), (2, .ref ob)] := hl
  have hG : gW K A s.heap [gRLC K ad, gScn K (ad 3) (ad 14) (ad 15) (ad 16) (ad 17) ou mi bo ln LF sn SF, gArrL K 1 ob OB] s.heap [] := hG
  refine lv_aload_n S.1 S.2.1 dL_removeLayer_0 rfl (lv_at hl 2 rfl) ?_
  refine g_iconst S dL_removeLayer_1 ?_
  refine lv_aload_n S.1 S.2.1 dL_removeLayer_2 rfl (lv_at hl 0 rfl) ?_
  refine lv_iload_n S.1 S.2.1 dL_removeLayer_3 rfl (lv_at hl 1 rfl) ?_
  refine g_xV (E := "java/lang/IllegalStateException") (As := [.int (iI y)]) (rest := [.int (iI 0), .ref ob]) (gs' := (fun u : Unit => [gRLC K ad, gScn K (ad 3) (ad 14) (ad 15) (ad 16) (ad 17) ou mi bo ln LF sn SF, gArrL K 1 ob OB])) S C hG [0, 1] (x2_removeLayer l K ad ou mi bo ln LF sn SF N y hS hN hv hy h7 hst) rfl rfl 0 rfl rfl (cwV 1 S.2.2.2.2 gL_removeLayer_X8_removeLayer rfl rfl rfl (by decide +kernel) ⟨Nat.le_of_ble_eq_true rfl, Nat.le_of_ble_eq_true rfl⟩) rfl hl.1 rfl (Nat.le_of_ble_eq_true rfl) dL_removeLayer_4 ⟨Nat.le_of_ble_eq_true rfl, Nat.le_of_ble_eq_true rfl⟩ (fun _ => Nat.le_of_ble_eq_true rfl) (fun _ => rfl) (fun u q9 ce9 H locs hp hG hq9 hv9 hcl9 => ?_)
  refine g_catch (E := "java/lang/IllegalStateException") (st := 0) (en := 9) (hpc := 15) (ct := 13) (suf' := []) S C [(0, 9, 12, 29)] htab (List.mem_of_getElem? (l := exC) (i := 2) rfl) (List.forall_mem_cons.mpr ⟨⟨by decide, "java/lang/IndexOutOfBoundsException", (List.mem_of_getElem? (l := exC) (i := 0) rfl), by decide, (List.mem_of_getElem? (i := 1) rfl)⟩, fun _ h => absurd h List.not_mem_nil⟩) ⟨by decide, by decide⟩ (by decide) (List.mem_of_getElem? (i := 2) rfl) hq9 hv9 hcl9 ?_
  refine lv_astore_n (lv' := [(3, .ref q9), (0, .ref (ad 0)), (1, .int (iI y)), (2, .ref ob)]) S.1 S.2.1 dL_removeLayer_15 rfl hl (by decide) rfl (fun ls hl => ?_)
  refine g_iconst S dL_removeLayer_16 ?_
  have hG : gW K A s.heap [gRLC K ad, gScn K (ad 3) (ad 14) (ad 15) (ad 16) (ad 17) ou mi bo ln LF sn SF, gArrL K 1 ob OB] _ _ := hG
  exact g_iretH S hr hlk hQ dL_removeLayer_17 (Nat.le_of_ble_eq_true rfl) (Nat.le_of_ble_eq_true rfl) (() : Unit) rfl hG
