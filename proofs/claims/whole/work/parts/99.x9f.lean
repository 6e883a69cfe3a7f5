set_option maxHeartbeats 1000000 in
set_option maxRecDepth 100000 in
theorem c_X9_hasLeg (l : Launch) (K : KC) (am : Nat → Nat) (th : Int) (rw : Nat) (lg : Int) (mr : Int) (en : Int) (pw : Int) (sl : Int) (ly : Int) (dn : Int) (iz : Int) (tz : Int) (nx : Int) (st : Int) (tk : Int) (vl : Int) (ef : Int) (ep : Int) (hO : Int) (hB : Int) (ol : Int) (rm : Int) (oz : Int) (NF : Int → Int) (A0 : Int → Int) (A1 : Int → Int) (A2 : Int → Int) (A3 : Int → Int) (A4 : Int → Int) (A5 : Int → Int) (A6 : Int → Int) (y : Int) (x : Int) (hN : NOk0 NF) (hv : -2147483648 ≤ y ∧ y < 2147483648) (hx : -2147483648 ≤ x ∧ x < 2147483648) : mG l yX9_hasLeg wsX9_hasLeg 6 135 K [.ref (am 0), .int (iI y), .int (iI x)] [gMdl K am th rw lg mr en pw sl ly dn iz tz nx st tk vl ef ep hO hB ol rm oz, gArr K 95 rw NF, gArr K 60 (am 3) A0, gArrZ K 60 (am 4) A1, gArr K 60 (am 5) A2, gArr K 60 (am 6) A3, gArr K 60 (am 7) A4, gArr K 60 (am 8) A5, gArr K 60 (am 9) A6] (fun (v : Value) (u : Int × Int × Int × Int × Int × Int × Int × (Int → Int) × (Int → Int) × (Int → Int) × (Int → Int) × (Int → Int) × (Int → Int) × (Int → Int)) => (v = .int (iI (bI ((0 ≤ y ∧ y < NF 4) ∧ 0 ≤ x ∧ x < (gS NF y : Int))))) ∧ (0 ≤ y ∧ y < NF 4 → FolS NF y u.1 u.2.1 u.2.2.1 u.2.2.2.1 u.2.2.2.2.2.2.2.1 u.2.2.2.2.2.2.2.2.1 u.2.2.2.2.2.2.2.2.2.1 u.2.2.2.2.2.2.2.2.2.2.1 u.2.2.2.2.2.2.2.2.2.2.2.1 u.2.2.2.2.2.2.2.2.2.2.2.2.1 u.2.2.2.2.2.2.2.2.2.2.2.2.2)) (fun (u : Int × Int × Int × Int × Int × Int × Int × (Int → Int) × (Int → Int) × (Int → Int) × (Int → Int) × (Int → Int) × (Int → Int) × (Int → Int)) => [gMdl K am th rw u.1 u.2.1 u.2.2.1 u.2.2.2.1 u.2.2.2.2.1 u.2.2.2.2.2.1 u.2.2.2.2.2.2.1 iz tz nx st tk vl ef ep hO hB ol rm oz, gArr K 95 rw NF, gArr K 60 (am 3) u.2.2.2.2.2.2.2.1, gArrZ K 60 (am 4) u.2.2.2.2.2.2.2.2.1, gArr K 60 (am 5) u.2.2.2.2.2.2.2.2.2.1, gArr K 60 (am 6) u.2.2.2.2.2.2.2.2.2.2.1, gArr K 60 (am 7) u.2.2.2.2.2.2.2.2.2.2.2.1, gArr K 60 (am 8) u.2.2.2.2.2.2.2.2.2.2.2.2.1, gArr K 60 (am 9) u.2.2.2.2.2.2.2.2.2.2.2.2.2]) 0 0 := by
  refine mG_of cX9_hasLeg 3 (by decide) rfl (Nat.le_of_ble_eq_true rfl) ?_
  intro p e s m below meth c A ls Q S C hG hl hr hlk hin hQ
  have S : CallFix p m c cX9_hasLeg 3 s ([.ref (am 0), .int (iI y), .int (iI x)] : List Value).toArray wsX9_hasLeg RX9 := S
  have iX90 : ∀ w ∈ wsX90, w ∈ wsX9_hasLeg := fun _ h => List.mem_cons_of_mem _ (List.mem_append_right _ (h))
  have hl : lv_has ls 3 [(0, .ref (am 0)), (1, .int (iI y)), (2, .int (iI x))] := hl
  have hG : gW K A s.heap [gMdl K am th rw lg mr en pw sl ly dn iz tz nx st tk vl ef ep hO hB ol rm oz, gArr K 95 rw NF, gArr K 60 (am 3) A0, gArrZ K 60 (am 4) A1, gArr K 60 (am 5) A2, gArr K 60 (am 6) A3, gArr K 60 (am 7) A4, gArr K 60 (am 8) A5, gArr K 60 (am 9) A6] s.heap [] := hG
  have n0 := hN.1
  have n3 := hN.2.2.2.1
  refine lv_aload_n S.1 S.2.1 dX9_hasLeg_0 rfl (lv_at hl 0 rfl) ?_
  refine lv_iload_n S.1 S.2.1 dX9_hasLeg_1 rfl (lv_at hl 1 rfl) ?_
  refine g_invV (As := [.int (iI y)]) (rest := []) (gs' := (fun u : Unit => [gMdl K am th rw lg mr en pw sl ly dn iz tz nx st tk vl ef ep hO hB ol rm oz, gArr K 95 rw NF, gArr K 60 (am 3) A0, gArrZ K 60 (am 4) A1, gArr K 60 (am 5) A2, gArr K 60 (am 6) A3, gArr K 60 (am 7) A4, gArr K 60 (am 8) A5, gArr K 60 (am 9) A6])) S C hG [0, 1] (c_X9_isShot l K am th rw lg mr en pw sl ly dn iz tz nx st tk vl ef ep hO hB ol rm oz NF y hN hv) rfl rfl 0 rfl rfl (cwV 1 S.2.2.2.2 gX9_hasLeg_X9_isShot rfl rfl rfl (by decide +kernel) ⟨Nat.le_of_ble_eq_true rfl, Nat.le_of_ble_eq_true rfl⟩) rfl hl.1 rfl (Nat.le_of_ble_eq_true rfl) dX9_hasLeg_2 ⟨Nat.le_of_ble_eq_true rfl, Nat.le_of_ble_eq_true rfl⟩ (fun _ => Nat.le_of_ble_eq_true rfl) (fun _ => rfl) (fun v u H locs hp hG => ?_)
  subst hp
  refine g_ifne_b (B := (0 ≤ y ∧ y < NF 4)) (tgt := 10) S dX9_hasLeg_5 (by decide) (fun q5 => ?_) (fun q5 => ?_)
  · skip
    refine lv_aload_n S.1 S.2.1 dX9_hasLeg_10 rfl (lv_at hl 0 rfl) ?_
    refine lv_iload_n S.1 S.2.1 dX9_hasLeg_11 rfl (lv_at hl 1 rfl) ?_
    refine g_invVv (As := [.int (iI y)]) (rest := []) (gs' := (fun u : Int × Int × Int × Int × Int × Int × Int × (Int → Int) × (Int → Int) × (Int → Int) × (Int → Int) × (Int → Int) × (Int → Int) × (Int → Int) => [gMdl K am th rw u.1 u.2.1 u.2.2.1 u.2.2.2.1 u.2.2.2.2.1 u.2.2.2.2.2.1 u.2.2.2.2.2.2.1 iz tz nx st tk vl ef ep hO hB ol rm oz, gArr K 95 rw NF, gArr K 60 (am 3) u.2.2.2.2.2.2.2.1, gArrZ K 60 (am 4) u.2.2.2.2.2.2.2.2.1, gArr K 60 (am 5) u.2.2.2.2.2.2.2.2.2.1, gArr K 60 (am 6) u.2.2.2.2.2.2.2.2.2.2.1, gArr K 60 (am 7) u.2.2.2.2.2.2.2.2.2.2.2.1, gArr K 60 (am 8) u.2.2.2.2.2.2.2.2.2.2.2.2.1, gArr K 60 (am 9) u.2.2.2.2.2.2.2.2.2.2.2.2.2])) S C hG [0, 1, 2, 3, 4, 5, 6, 7, 8] (c_X9_followShot l K am th rw lg mr en pw sl ly dn iz tz nx st tk vl ef ep hO hB ol rm oz NF A0 A1 A2 A3 A4 A5 A6 y hN q5) rfl rfl 0 rfl rfl (cwV 1 S.2.2.2.2 gX9_hasLeg_X9_followShot rfl rfl rfl (by decide +kernel) ⟨Nat.le_of_ble_eq_true rfl, Nat.le_of_ble_eq_true rfl⟩) rfl hl.1 rfl (Nat.le_of_ble_eq_true rfl) dX9_hasLeg_12 ⟨Nat.le_of_ble_eq_true rfl, Nat.le_of_ble_eq_true rfl⟩ (fun _ => Nat.le_of_ble_eq_true rfl) (fun _ => rfl) (fun u H locs hp hG => ?_)
    obtain ⟨lg2_12, mr2_12, en2_12, pw2_12, sl2_12, ly2_12, dn2_12, B0_12, B1_12, B2_12, B3_12, B4_12, B5_12, B6_12⟩ := u
    have hf_12 := hp
    have hf_12 : FolS NF y lg2_12 mr2_12 en2_12 pw2_12 B0_12 B1_12 B2_12 B3_12 B4_12 B5_12 B6_12 := hf_12
    have hG : gW K A s.heap [gMdl K am th rw lg2_12 mr2_12 en2_12 pw2_12 sl2_12 ly2_12 dn2_12 iz tz nx st tk vl ef ep hO hB ol rm oz, gArr K 95 rw NF, gArr K 60 (am 3) B0_12, gArrZ K 60 (am 4) B1_12, gArr K 60 (am 5) B2_12, gArr K 60 (am 6) B3_12, gArr K 60 (am 7) B4_12, gArr K 60 (am 8) B5_12, gArr K 60 (am 9) B6_12] _ _ := hG
    have sb := sho_bd hN q5.1 q5.2
    obtain ⟨f1, f2, f3, f4⟩ := hf_12.bd hN sb.2.2.1 sb.2.1
    have g9 : lg2_12 = (gS NF y : Int) := hf_12.1
    refine lv_iload_n S.1 S.2.1 dX9_hasLeg_15 rfl (lv_at hl 2 rfl) ?_
    refine g_i2l S dX9_hasLeg_16 (by omega) ?_
    refine g_lconst (z := 0) S dX9_hasLeg_17 rfl ?_
    refine lv_aload_n S.1 S.2.1 dX9_hasLeg_18 rfl (lv_at hl 0 rfl) ?_
    refine g_get S C hG iX90 0 rfl rfl 11 (by decide) (List.mem_of_getElem? (i := 1) rfl) rfl dX9_hasLeg_19 ?_
    refine g_iconst S dX9_hasLeg_22 ?_
    refine g_isub S dX9_hasLeg_23 rfl ?_
    refine g_i2l S dX9_hasLeg_24 (by omega) ?_
    refine g_invS (As := [.long (iL x), .long (iL 0), .long (iL (lg2_12 - 1))]) (rest := []) (gs' := (fun u : Unit => [gMdl K am th rw lg2_12 mr2_12 en2_12 pw2_12 sl2_12 ly2_12 dn2_12 iz tz nx st tk vl ef ep hO hB ol rm oz, gArr K 95 rw NF, gArr K 60 (am 3) B0_12, gArrZ K 60 (am 4) B1_12, gArr K 60 (am 5) B2_12, gArr K 60 (am 6) B3_12, gArr K 60 (am 7) B4_12, gArr K 60 (am 8) B5_12, gArr K 60 (am 9) B6_12])) S C hG [] (c_X9_in l K x 0 (lg2_12 - 1) (by omega) (by omega) (by omega)) rfl rfl (va_cwS 3 S.2.2.2.2 gX9_hasLeg_X9_in rfl rfl rfl (by decide +kernel) ⟨Nat.le_of_ble_eq_true rfl, Nat.le_of_ble_eq_true rfl⟩) rfl hl.1 rfl (Nat.le_of_ble_eq_true rfl) dX9_hasLeg_25 ⟨Nat.le_of_ble_eq_true rfl, Nat.le_of_ble_eq_true rfl⟩ (fun _ => Nat.le_of_ble_eq_true rfl) (fun _ => rfl) (fun v u H locs hp hG => ?_)
    subst hp
    have hG : gW K A s.heap [gMdl K am th rw lg2_12 mr2_12 en2_12 pw2_12 sl2_12 ly2_12 dn2_12 iz tz nx st tk vl ef ep hO hB ol rm oz, gArr K 95 rw NF, gArr K 60 (am 3) B0_12, gArrZ K 60 (am 4) B1_12, gArr K 60 (am 5) B2_12, gArr K 60 (am 6) B3_12, gArr K 60 (am 7) B4_12, gArr K 60 (am 8) B5_12, gArr K 60 (am 9) B6_12] _ _ := hG
    exact g_zret S hr hlk hQ (bI_01 _) dX9_hasLeg_28 (Nat.le_of_ble_eq_true rfl) (Nat.le_of_ble_eq_true rfl) ((lg2_12, mr2_12, en2_12, pw2_12, sl2_12, ly2_12, dn2_12, B0_12, B1_12, B2_12, B3_12, B4_12, B5_12, B6_12) : Int × Int × Int × Int × Int × Int × Int × (Int → Int) × (Int → Int) × (Int → Int) × (Int → Int) × (Int → Int) × (Int → Int) × (Int → Int)) ⟨(congrArg (fun z : Int => Value.int (iI z)) (bI_iff ⟨fun h => ⟨q5, by omega, by omega⟩, fun h => by omega⟩)), (fun _ => hf_12)⟩ hG
  · skip
    refine g_iconst S dX9_hasLeg_8 ?_
    have hG : gW K A s.heap [gMdl K am th rw lg mr en pw sl ly dn iz tz nx st tk vl ef ep hO hB ol rm oz, gArr K 95 rw NF, gArr K 60 (am 3) A0, gArrZ K 60 (am 4) A1, gArr K 60 (am 5) A2, gArr K 60 (am 6) A3, gArr K 60 (am 7) A4, gArr K 60 (am 8) A5, gArr K 60 (am 9) A6] _ _ := hG
    exact g_zret S hr hlk hQ (Or.inl rfl) dX9_hasLeg_9 (Nat.le_of_ble_eq_true rfl) (Nat.le_of_ble_eq_true rfl) ((lg, mr, en, pw, sl, ly, dn, A0, A1, A2, A3, A4, A5, A6) : Int × Int × Int × Int × Int × Int × Int × (Int → Int) × (Int → Int) × (Int → Int) × (Int → Int) × (Int → Int) × (Int → Int) × (Int → Int)) ⟨(congrArg (fun z : Int => Value.int (iI z)) (bI_f (fun h => q5 h.1)).symm), (fun h => absurd h q5)⟩ hG

set_option maxHeartbeats 1000000 in
set_option maxRecDepth 100000 in
theorem c_X9_leg (l : Launch) (K : KC) (am : Nat → Nat) (th : Int) (rw : Nat) (lg : Int) (mr : Int) (en : Int) (pw : Int) (sl : Int) (ly : Int) (dn : Int) (iz : Int) (tz : Int) (nx : Int) (st : Int) (tk : Int) (vl : Int) (ef : Int) (ep : Int) (hO : Int) (hB : Int) (ol : Int) (rm : Int) (oz : Int) (NF : Int → Int) (A0 : Int → Int) (A1 : Int → Int) (A2 : Int → Int) (A3 : Int → Int) (A4 : Int → Int) (A5 : Int → Int) (A6 : Int → Int) (y : Int) (x : Int) (z : Int) (hN : NOk0 NF) (hv : -2147483648 ≤ y ∧ y < 2147483648) (hx : -2147483648 ≤ x ∧ x < 2147483648) (hz : -2147483648 ≤ z ∧ z < 2147483648) : mG l yX9_leg wsX9_leg 7 157 K [.ref (am 0), .int (iI y), .int (iI x), .int (iI z)] [gMdl K am th rw lg mr en pw sl ly dn iz tz nx st tk vl ef ep hO hB ol rm oz, gArr K 95 rw NF, gArr K 60 (am 3) A0, gArrZ K 60 (am 4) A1, gArr K 60 (am 5) A2, gArr K 60 (am 6) A3, gArr K 60 (am 7) A4, gArr K 60 (am 8) A5, gArr K 60 (am 9) A6] (fun (v : Value) (u : Int × Int × Int × Int × Int × Int × Int × Int × (Int → Int) × (Int → Int) × (Int → Int) × (Int → Int) × (Int → Int) × (Int → Int) × (Int → Int)) => (v = .int (iI u.1)) ∧ (((0 ≤ y ∧ y < NF 4) ∧ 0 ≤ x ∧ x < (gS NF y : Int)) ∧ (0 ≤ z ∧ z ≤ 6) → u.1 = legA NF y x z)) (fun (u : Int × Int × Int × Int × Int × Int × Int × Int × (Int → Int) × (Int → Int) × (Int → Int) × (Int → Int) × (Int → Int) × (Int → Int) × (Int → Int)) => [gMdl K am (thr (bI ((0 ≤ y ∧ y < NF 4) ∧ 0 ≤ x ∧ x < (gS NF y : Int))) (bI (0 ≤ z ∧ z ≤ 6)) 1) rw u.2.1 u.2.2.1 u.2.2.2.1 u.2.2.2.2.1 u.2.2.2.2.2.1 u.2.2.2.2.2.2.1 u.2.2.2.2.2.2.2.1 iz tz nx st tk vl ef ep hO hB ol rm oz, gArr K 95 rw NF, gArr K 60 (am 3) u.2.2.2.2.2.2.2.2.1, gArrZ K 60 (am 4) u.2.2.2.2.2.2.2.2.2.1, gArr K 60 (am 5) u.2.2.2.2.2.2.2.2.2.2.1, gArr K 60 (am 6) u.2.2.2.2.2.2.2.2.2.2.2.1, gArr K 60 (am 7) u.2.2.2.2.2.2.2.2.2.2.2.2.1, gArr K 60 (am 8) u.2.2.2.2.2.2.2.2.2.2.2.2.2.1, gArr K 60 (am 9) u.2.2.2.2.2.2.2.2.2.2.2.2.2.2]) 0 0 := by
  refine mG_of cX9_leg 4 (by decide) rfl (Nat.le_of_ble_eq_true rfl) ?_
  intro p e s m below meth c A ls Q S C hG hl hr hlk hin hQ
  have S : CallFix p m c cX9_leg 4 s ([.ref (am 0), .int (iI y), .int (iI x), .int (iI z)] : List Value).toArray wsX9_leg RX9 := S
  have iX90 : ∀ w ∈ wsX90, w ∈ wsX9_leg := fun _ h => List.mem_cons_of_mem _ (List.mem_append_right _ (h))
  have hl : lv_has ls 4 [(0, .ref (am 0)), (1, .int (iI y)), (2, .int (iI x)), (3, .int (iI z))] := hl
  have hG : gW K A s.heap [gMdl K am th rw lg mr en pw sl ly dn iz tz nx st tk vl ef ep hO hB ol rm oz, gArr K 95 rw NF, gArr K 60 (am 3) A0, gArrZ K 60 (am 4) A1, gArr K 60 (am 5) A2, gArr K 60 (am 6) A3, gArr K 60 (am 7) A4, gArr K 60 (am 8) A5, gArr K 60 (am 9) A6] s.heap [] := hG
  have n0 := hN.1
  have n3 := hN.2.2.2.1
  refine lv_aload_n S.1 S.2.1 dX9_leg_0 rfl (lv_at hl 0 rfl) ?_
  refine lv_aload_n S.1 S.2.1 dX9_leg_1 rfl (lv_at hl 0 rfl) ?_
  refine lv_iload_n S.1 S.2.1 dX9_leg_2 rfl (lv_at hl 1 rfl) ?_
  refine lv_iload_n S.1 S.2.1 dX9_leg_3 rfl (lv_at hl 2 rfl) ?_
  refine g_invV (As := [.int (iI y), .int (iI x)]) (rest := [.ref (am 0)]) (gs' := (fun u : Int × Int × Int × Int × Int × Int × Int × (Int → Int) × (Int → Int) × (Int → Int) × (Int → Int) × (Int → Int) × (Int → Int) × (Int → Int) => [gMdl K am th rw u.1 u.2.1 u.2.2.1 u.2.2.2.1 u.2.2.2.2.1 u.2.2.2.2.2.1 u.2.2.2.2.2.2.1 iz tz nx st tk vl ef ep hO hB ol rm oz, gArr K 95 rw NF, gArr K 60 (am 3) u.2.2.2.2.2.2.2.1, gArrZ K 60 (am 4) u.2.2.2.2.2.2.2.2.1, gArr K 60 (am 5) u.2.2.2.2.2.2.2.2.2.1, gArr K 60 (am 6) u.2.2.2.2.2.2.2.2.2.2.1, gArr K 60 (am 7) u.2.2.2.2.2.2.2.2.2.2.2.1, gArr K 60 (am 8) u.2.2.2.2.2.2.2.2.2.2.2.2.1, gArr K 60 (am 9) u.2.2.2.2.2.2.2.2.2.2.2.2.2])) S C hG [0, 1, 2, 3, 4, 5, 6, 7, 8] (c_X9_hasLeg l K am th rw lg mr en pw sl ly dn iz tz nx st tk vl ef ep hO hB ol rm oz NF A0 A1 A2 A3 A4 A5 A6 y x hN hv hx) rfl rfl 0 rfl rfl (cwV 2 S.2.2.2.2 gX9_leg_X9_hasLeg rfl rfl rfl (by decide +kernel) ⟨Nat.le_of_ble_eq_true rfl, Nat.le_of_ble_eq_true rfl⟩) rfl hl.1 rfl (Nat.le_of_ble_eq_true rfl) dX9_leg_4 ⟨Nat.le_of_ble_eq_true rfl, Nat.le_of_ble_eq_true rfl⟩ (fun _ => Nat.le_of_ble_eq_true rfl) (fun _ => rfl) (fun v u H locs hp hG => ?_)
  obtain ⟨lg2_4, mr2_4, en2_4, pw2_4, sl2_4, ly2_4, dn2_4, B0_4, B1_4, B2_4, B3_4, B4_4, B5_4, B6_4⟩ := u
  obtain ⟨rfl, hf_4⟩ := hp
  have hf_4 : 0 ≤ y ∧ y < NF 4 → FolS NF y lg2_4 mr2_4 en2_4 pw2_4 B0_4 B1_4 B2_4 B3_4 B4_4 B5_4 B6_4 := hf_4
  have hG : gW K A s.heap [gMdl K am th rw lg2_4 mr2_4 en2_4 pw2_4 sl2_4 ly2_4 dn2_4 iz tz nx st tk vl ef ep hO hB ol rm oz, gArr K 95 rw NF, gArr K 60 (am 3) B0_4, gArrZ K 60 (am 4) B1_4, gArr K 60 (am 5) B2_4, gArr K 60 (am 6) B3_4, gArr K 60 (am 7) B4_4, gArr K 60 (am 8) B5_4, gArr K 60 (am 9) B6_4] _ _ := hG
  refine lv_iload_n S.1 S.2.1 dX9_leg_7 rfl (lv_at hl 3 rfl) ?_
  refine g_i2l S dX9_leg_8 (by omega) ?_
  refine g_lconst (z := 0) S dX9_leg_9 rfl ?_
  refine g_ldc2 (z := 6) S dX9_leg_10 (List.mem_of_getElem? (i := 1) rfl) rfl ?_
  refine g_invS (As := [.long (iL z), .long (iL 0), .long (iL 6)]) (rest := [.int (iI (bI ((0 ≤ y ∧ y < NF 4) ∧ 0 ≤ x ∧ x < (gS NF y : Int)))), .ref (am 0)]) (gs' := (fun u : Unit => [gMdl K am th rw lg2_4 mr2_4 en2_4 pw2_4 sl2_4 ly2_4 dn2_4 iz tz nx st tk vl ef ep hO hB ol rm oz, gArr K 95 rw NF, gArr K 60 (am 3) B0_4, gArrZ K 60 (am 4) B1_4, gArr K 60 (am 5) B2_4, gArr K 60 (am 6) B3_4, gArr K 60 (am 7) B4_4, gArr K 60 (am 8) B5_4, gArr K 60 (am 9) B6_4])) S C hG [] (c_X9_in l K z 0 6 (by omega) (by omega) (by omega)) rfl rfl (va_cwS 3 S.2.2.2.2 gX9_leg_X9_in rfl rfl rfl (by decide +kernel) ⟨Nat.le_of_ble_eq_true rfl, Nat.le_of_ble_eq_true rfl⟩) rfl hl.1 rfl (Nat.le_of_ble_eq_true rfl) dX9_leg_13 ⟨Nat.le_of_ble_eq_true rfl, Nat.le_of_ble_eq_true rfl⟩ (fun _ => Nat.le_of_ble_eq_true rfl) (fun _ => rfl) (fun v u H locs hp hG => ?_)
  subst hp
  refine g_invV (As := [.int (iI (bI ((0 ≤ y ∧ y < NF 4) ∧ 0 ≤ x ∧ x < (gS NF y : Int)))), .int (iI (bI (0 ≤ z ∧ z ≤ 6)))]) (rest := []) (gs' := (fun u : Unit => [gMdl K am (thr (bI ((0 ≤ y ∧ y < NF 4) ∧ 0 ≤ x ∧ x < (gS NF y : Int))) (bI (0 ≤ z ∧ z ≤ 6)) 1) rw lg2_4 mr2_4 en2_4 pw2_4 sl2_4 ly2_4 dn2_4 iz tz nx st tk vl ef ep hO hB ol rm oz, gArr K 95 rw NF, gArr K 60 (am 3) B0_4, gArrZ K 60 (am 4) B1_4, gArr K 60 (am 5) B2_4, gArr K 60 (am 6) B3_4, gArr K 60 (am 7) B4_4, gArr K 60 (am 8) B5_4, gArr K 60 (am 9) B6_4])) S C hG [0] (c_X9_passes2 l K am th rw lg2_4 mr2_4 en2_4 pw2_4 sl2_4 ly2_4 dn2_4 iz tz nx st tk vl ef ep hO hB ol rm oz (bI ((0 ≤ y ∧ y < NF 4) ∧ 0 ≤ x ∧ x < (gS NF y : Int))) (bI (0 ≤ z ∧ z ≤ 6)) (bI_01 _) (bI_01 _)) rfl rfl 0 rfl rfl (cwV 2 S.2.2.2.2 gX9_leg_X9_passes2 rfl rfl rfl (by decide +kernel) ⟨Nat.le_of_ble_eq_true rfl, Nat.le_of_ble_eq_true rfl⟩) rfl hl.1 rfl (Nat.le_of_ble_eq_true rfl) dX9_leg_16 ⟨Nat.le_of_ble_eq_true rfl, Nat.le_of_ble_eq_true rfl⟩ (fun _ => Nat.le_of_ble_eq_true rfl) (fun _ => rfl) (fun v u H locs hp hG => ?_)
  subst hp
  refine g_ifne_b (B := ((bI ((0 ≤ y ∧ y < NF 4) ∧ 0 ≤ x ∧ x < (gS NF y : Int))) = 1 ∧ (bI (0 ≤ z ∧ z ≤ 6)) = 1)) (tgt := 24) S dX9_leg_19 (by decide) (fun q19 => ?_) (fun q19 => ?_)
  · skip
    have qa := bI1 q19.1
    have qb := bI1 q19.2
    have fl := hf_4 qa.1
    have z9 := fl.2.2.2.2 x.toNat (by have g9 : lg2_4 = (gS NF y : Int) := fl.1 <;> (unfold gS at qa <;> omega))
    rw [Int.toNat_of_nonneg qa.2.1] at z9
    obtain ⟨z0, z1, z2, z3, z4, z5, z6⟩ := z9
    have gb := lgF_bd NF (sP NF y) (sY NF y) (sD NF y)
    have qx : x < 60 := by (unfold gS at qa <;> omega)
    have sb := sho_bd hN qa.1.1 qa.1.2
    have e01 : B1_4 x = 0 ∨ B1_4 x = 1 := by have z8 := (fl.bd hN sb.2.2.1 sb.2.1).2.2.2 x qa.2.1 (by have g9 : lg2_4 = (gS NF y : Int) := fl.1 <;> omega) <;> omega
    refine lv_iload_n S.1 S.2.1 dX9_leg_24 rfl (lv_at hl 3 rfl) ?_
    rcases (show z = 0 ∨ z = 1 ∨ z = 2 ∨ z = 3 ∨ z = 4 ∨ z = 5 ∨ z = 6 by omega) with hw9 | hw9 | hw9 | hw9 | hw9 | hw9 | hw9
    · skip
      refine lv_tableIn (off := 39) (tgt := 64) S.1 S.2.1 dX9_leg_25 (by rw [hw9] <;> decide) (by rw [hw9] <;> decide) (by rw [hw9] <;> rfl) (by decide) ?_
      refine lv_aload_n S.1 S.2.1 dX9_leg_64 rfl (lv_at hl 0 rfl) ?_
      refine g_get S C hG iX90 0 rfl rfl 4 (by decide) (List.mem_of_getElem? (i := 2) rfl) rfl dX9_leg_65 ?_
      refine lv_iload_n S.1 S.2.1 dX9_leg_68 rfl (lv_at hl 2 rfl) ?_
      refine g_iald S C hG 2 rfl (by omega) (by omega) (by omega) dX9_leg_69 ?_
      have hG : gW K A s.heap [gMdl K am (thr (bI ((0 ≤ y ∧ y < NF 4) ∧ 0 ≤ x ∧ x < (gS NF y : Int))) (bI (0 ≤ z ∧ z ≤ 6)) 1) rw lg2_4 mr2_4 en2_4 pw2_4 sl2_4 ly2_4 dn2_4 iz tz nx st tk vl ef ep hO hB ol rm oz, gArr K 95 rw NF, gArr K 60 (am 3) B0_4, gArrZ K 60 (am 4) B1_4, gArr K 60 (am 5) B2_4, gArr K 60 (am 6) B3_4, gArr K 60 (am 7) B4_4, gArr K 60 (am 8) B5_4, gArr K 60 (am 9) B6_4] _ _ := hG
      exact g_iret S hr hlk hQ dX9_leg_70 (Nat.le_of_ble_eq_true rfl) (Nat.le_of_ble_eq_true rfl) ((B0_4 x, lg2_4, mr2_4, en2_4, pw2_4, sl2_4, ly2_4, dn2_4, B0_4, B1_4, B2_4, B3_4, B4_4, B5_4, B6_4) : Int × Int × Int × Int × Int × Int × Int × Int × (Int → Int) × (Int → Int) × (Int → Int) × (Int → Int) × (Int → Int) × (Int → Int) × (Int → Int)) ⟨rfl, (fun _ => by rw [hw9] <;> exact z0)⟩ hG
    · skip
      refine lv_tableIn (off := 46) (tgt := 71) S.1 S.2.1 dX9_leg_25 (by rw [hw9] <;> decide) (by rw [hw9] <;> decide) (by rw [hw9] <;> rfl) (by decide) ?_
      refine lv_aload_n S.1 S.2.1 dX9_leg_71 rfl (lv_at hl 0 rfl) ?_
      refine g_get S C hG iX90 0 rfl rfl 5 (by decide) (List.mem_of_getElem? (i := 3) rfl) rfl dX9_leg_72 ?_
      refine lv_iload_n S.1 S.2.1 dX9_leg_75 rfl (lv_at hl 2 rfl) ?_
      refine g_zald S C hG 3 rfl (by omega) (by omega) (by omega) dX9_leg_76 ?_
      refine g_if_eq (tgt := 84) S dX9_leg_77 (by decide) (by omega) (fun q77 => ?_) (fun q77 => ?_)
      · skip
        refine g_iconst S dX9_leg_84 ?_
        have hG : gW K A s.heap [gMdl K am (thr (bI ((0 ≤ y ∧ y < NF 4) ∧ 0 ≤ x ∧ x < (gS NF y : Int))) (bI (0 ≤ z ∧ z ≤ 6)) 1) rw lg2_4 mr2_4 en2_4 pw2_4 sl2_4 ly2_4 dn2_4 iz tz nx st tk vl ef ep hO hB ol rm oz, gArr K 95 rw NF, gArr K 60 (am 3) B0_4, gArrZ K 60 (am 4) B1_4, gArr K 60 (am 5) B2_4, gArr K 60 (am 6) B3_4, gArr K 60 (am 7) B4_4, gArr K 60 (am 8) B5_4, gArr K 60 (am 9) B6_4] _ _ := hG
        exact g_iret S hr hlk hQ dX9_leg_85 (Nat.le_of_ble_eq_true rfl) (Nat.le_of_ble_eq_true rfl) ((0, lg2_4, mr2_4, en2_4, pw2_4, sl2_4, ly2_4, dn2_4, B0_4, B1_4, B2_4, B3_4, B4_4, B5_4, B6_4) : Int × Int × Int × Int × Int × Int × Int × Int × (Int → Int) × (Int → Int) × (Int → Int) × (Int → Int) × (Int → Int) × (Int → Int) × (Int → Int)) ⟨rfl, (fun _ => by rw [hw9] <;> exact (show (0 : Int) = B1_4 x by omega).trans z1)⟩ hG
      · skip
        refine g_iconst S dX9_leg_80 ?_
        refine lv_goto (tgt := 85) S.1 S.2.1 dX9_leg_81 (by decide) ?_
        have hG : gW K A s.heap [gMdl K am (thr (bI ((0 ≤ y ∧ y < NF 4) ∧ 0 ≤ x ∧ x < (gS NF y : Int))) (bI (0 ≤ z ∧ z ≤ 6)) 1) rw lg2_4 mr2_4 en2_4 pw2_4 sl2_4 ly2_4 dn2_4 iz tz nx st tk vl ef ep hO hB ol rm oz, gArr K 95 rw NF, gArr K 60 (am 3) B0_4, gArrZ K 60 (am 4) B1_4, gArr K 60 (am 5) B2_4, gArr K 60 (am 6) B3_4, gArr K 60 (am 7) B4_4, gArr K 60 (am 8) B5_4, gArr K 60 (am 9) B6_4] _ _ := hG
        exact g_iret S hr hlk hQ dX9_leg_85 (Nat.le_of_ble_eq_true rfl) (Nat.le_of_ble_eq_true rfl) ((1, lg2_4, mr2_4, en2_4, pw2_4, sl2_4, ly2_4, dn2_4, B0_4, B1_4, B2_4, B3_4, B4_4, B5_4, B6_4) : Int × Int × Int × Int × Int × Int × Int × Int × (Int → Int) × (Int → Int) × (Int → Int) × (Int → Int) × (Int → Int) × (Int → Int) × (Int → Int)) ⟨rfl, (fun _ => by rw [hw9] <;> exact (show (1 : Int) = B1_4 x by omega).trans z1)⟩ hG
    · skip
      refine lv_tableIn (off := 61) (tgt := 86) S.1 S.2.1 dX9_leg_25 (by rw [hw9] <;> decide) (by rw [hw9] <;> decide) (by rw [hw9] <;> rfl) (by decide) ?_
      refine lv_aload_n S.1 S.2.1 dX9_leg_86 rfl (lv_at hl 0 rfl) ?_
      refine g_get S C hG iX90 0 rfl rfl 6 (by decide) (List.mem_of_getElem? (i := 4) rfl) rfl dX9_leg_87 ?_
      refine lv_iload_n S.1 S.2.1 dX9_leg_90 rfl (lv_at hl 2 rfl) ?_
      refine g_iald S C hG 4 rfl (by omega) (by omega) (by omega) dX9_leg_91 ?_
      have hG : gW K A s.heap [gMdl K am (thr (bI ((0 ≤ y ∧ y < NF 4) ∧ 0 ≤ x ∧ x < (gS NF y : Int))) (bI (0 ≤ z ∧ z ≤ 6)) 1) rw lg2_4 mr2_4 en2_4 pw2_4 sl2_4 ly2_4 dn2_4 iz tz nx st tk vl ef ep hO hB ol rm oz, gArr K 95 rw NF, gArr K 60 (am 3) B0_4, gArrZ K 60 (am 4) B1_4, gArr K 60 (am 5) B2_4, gArr K 60 (am 6) B3_4, gArr K 60 (am 7) B4_4, gArr K 60 (am 8) B5_4, gArr K 60 (am 9) B6_4] _ _ := hG
      exact g_iret S hr hlk hQ dX9_leg_92 (Nat.le_of_ble_eq_true rfl) (Nat.le_of_ble_eq_true rfl) ((B2_4 x, lg2_4, mr2_4, en2_4, pw2_4, sl2_4, ly2_4, dn2_4, B0_4, B1_4, B2_4, B3_4, B4_4, B5_4, B6_4) : Int × Int × Int × Int × Int × Int × Int × Int × (Int → Int) × (Int → Int) × (Int → Int) × (Int → Int) × (Int → Int) × (Int → Int) × (Int → Int)) ⟨rfl, (fun _ => by rw [hw9] <;> exact z2)⟩ hG
    · skip
      refine lv_tableIn (off := 68) (tgt := 93) S.1 S.2.1 dX9_leg_25 (by rw [hw9] <;> decide) (by rw [hw9] <;> decide) (by rw [hw9] <;> rfl) (by decide) ?_
      refine lv_aload_n S.1 S.2.1 dX9_leg_93 rfl (lv_at hl 0 rfl) ?_
      refine g_get S C hG iX90 0 rfl rfl 7 (by decide) (List.mem_of_getElem? (i := 5) rfl) rfl dX9_leg_94 ?_
      refine lv_iload_n S.1 S.2.1 dX9_leg_97 rfl (lv_at hl 2 rfl) ?_
      refine g_iald S C hG 5 rfl (by omega) (by omega) (by omega) dX9_leg_98 ?_
      have hG : gW K A s.heap [gMdl K am (thr (bI ((0 ≤ y ∧ y < NF 4) ∧ 0 ≤ x ∧ x < (gS NF y : Int))) (bI (0 ≤ z ∧ z ≤ 6)) 1) rw lg2_4 mr2_4 en2_4 pw2_4 sl2_4 ly2_4 dn2_4 iz tz nx st tk vl ef ep hO hB ol rm oz, gArr K 95 rw NF, gArr K 60 (am 3) B0_4, gArrZ K 60 (am 4) B1_4, gArr K 60 (am 5) B2_4, gArr K 60 (am 6) B3_4, gArr K 60 (am 7) B4_4, gArr K 60 (am 8) B5_4, gArr K 60 (am 9) B6_4] _ _ := hG
      exact g_iret S hr hlk hQ dX9_leg_99 (Nat.le_of_ble_eq_true rfl) (Nat.le_of_ble_eq_true rfl) ((B3_4 x, lg2_4, mr2_4, en2_4, pw2_4, sl2_4, ly2_4, dn2_4, B0_4, B1_4, B2_4, B3_4, B4_4, B5_4, B6_4) : Int × Int × Int × Int × Int × Int × Int × Int × (Int → Int) × (Int → Int) × (Int → Int) × (Int → Int) × (Int → Int) × (Int → Int) × (Int → Int)) ⟨rfl, (fun _ => by rw [hw9] <;> exact z3)⟩ hG
    · skip
      refine lv_tableIn (off := 75) (tgt := 100) S.1 S.2.1 dX9_leg_25 (by rw [hw9] <;> decide) (by rw [hw9] <;> decide) (by rw [hw9] <;> rfl) (by decide) ?_
      refine lv_aload_n S.1 S.2.1 dX9_leg_100 rfl (lv_at hl 0 rfl) ?_
      refine g_get S C hG iX90 0 rfl rfl 8 (by decide) (List.mem_of_getElem? (i := 6) rfl) rfl dX9_leg_101 ?_
      refine lv_iload_n S.1 S.2.1 dX9_leg_104 rfl (lv_at hl 2 rfl) ?_
      refine g_iald S C hG 6 rfl (by omega) (by omega) (by omega) dX9_leg_105 ?_
      have hG : gW K A s.heap [gMdl K am (thr (bI ((0 ≤ y ∧ y < NF 4) ∧ 0 ≤ x ∧ x < (gS NF y : Int))) (bI (0 ≤ z ∧ z ≤ 6)) 1) rw lg2_4 mr2_4 en2_4 pw2_4 sl2_4 ly2_4 dn2_4 iz tz nx st tk vl ef ep hO hB ol rm oz, gArr K 95 rw NF, gArr K 60 (am 3) B0_4, gArrZ K 60 (am 4) B1_4, gArr K 60 (am 5) B2_4, gArr K 60 (am 6) B3_4, gArr K 60 (am 7) B4_4, gArr K 60 (am 8) B5_4, gArr K 60 (am 9) B6_4] _ _ := hG
      exact g_iret S hr hlk hQ dX9_leg_106 (Nat.le_of_ble_eq_true rfl) (Nat.le_of_ble_eq_true rfl) ((B4_4 x, lg2_4, mr2_4, en2_4, pw2_4, sl2_4, ly2_4, dn2_4, B0_4, B1_4, B2_4, B3_4, B4_4, B5_4, B6_4) : Int × Int × Int × Int × Int × Int × Int × Int × (Int → Int) × (Int → Int) × (Int → Int) × (Int → Int) × (Int → Int) × (Int → Int) × (Int → Int)) ⟨rfl, (fun _ => by rw [hw9] <;> exact z4)⟩ hG
    · skip
      refine lv_tableIn (off := 82) (tgt := 107) S.1 S.2.1 dX9_leg_25 (by rw [hw9] <;> decide) (by rw [hw9] <;> decide) (by rw [hw9] <;> rfl) (by decide) ?_
      refine lv_aload_n S.1 S.2.1 dX9_leg_107 rfl (lv_at hl 0 rfl) ?_
      refine g_get S C hG iX90 0 rfl rfl 9 (by decide) (List.mem_of_getElem? (i := 7) rfl) rfl dX9_leg_108 ?_
      refine lv_iload_n S.1 S.2.1 dX9_leg_111 rfl (lv_at hl 2 rfl) ?_
      refine g_iald S C hG 7 rfl (by omega) (by omega) (by omega) dX9_leg_112 ?_
      have hG : gW K A s.heap [gMdl K am (thr (bI ((0 ≤ y ∧ y < NF 4) ∧ 0 ≤ x ∧ x < (gS NF y : Int))) (bI (0 ≤ z ∧ z ≤ 6)) 1) rw lg2_4 mr2_4 en2_4 pw2_4 sl2_4 ly2_4 dn2_4 iz tz nx st tk vl ef ep hO hB ol rm oz, gArr K 95 rw NF, gArr K 60 (am 3) B0_4, gArrZ K 60 (am 4) B1_4, gArr K 60 (am 5) B2_4, gArr K 60 (am 6) B3_4, gArr K 60 (am 7) B4_4, gArr K 60 (am 8) B5_4, gArr K 60 (am 9) B6_4] _ _ := hG
      exact g_iret S hr hlk hQ dX9_leg_113 (Nat.le_of_ble_eq_true rfl) (Nat.le_of_ble_eq_true rfl) ((B5_4 x, lg2_4, mr2_4, en2_4, pw2_4, sl2_4, ly2_4, dn2_4, B0_4, B1_4, B2_4, B3_4, B4_4, B5_4, B6_4) : Int × Int × Int × Int × Int × Int × Int × Int × (Int → Int) × (Int → Int) × (Int → Int) × (Int → Int) × (Int → Int) × (Int → Int) × (Int → Int)) ⟨rfl, (fun _ => by rw [hw9] <;> exact z5)⟩ hG
    · skip
      refine lv_tableOut (tgt := 114) S.1 S.2.1 dX9_leg_25 (by rw [hw9] <;> decide) (by decide) ?_
      refine lv_aload_n S.1 S.2.1 dX9_leg_114 rfl (lv_at hl 0 rfl) ?_
      refine g_get S C hG iX90 0 rfl rfl 10 (by decide) (List.mem_of_getElem? (i := 8) rfl) rfl dX9_leg_115 ?_
      refine lv_iload_n S.1 S.2.1 dX9_leg_118 rfl (lv_at hl 2 rfl) ?_
      refine g_iald S C hG 8 rfl (by omega) (by omega) (by omega) dX9_leg_119 ?_
      have hG : gW K A s.heap [gMdl K am (thr (bI ((0 ≤ y ∧ y < NF 4) ∧ 0 ≤ x ∧ x < (gS NF y : Int))) (bI (0 ≤ z ∧ z ≤ 6)) 1) rw lg2_4 mr2_4 en2_4 pw2_4 sl2_4 ly2_4 dn2_4 iz tz nx st tk vl ef ep hO hB ol rm oz, gArr K 95 rw NF, gArr K 60 (am 3) B0_4, gArrZ K 60 (am 4) B1_4, gArr K 60 (am 5) B2_4, gArr K 60 (am 6) B3_4, gArr K 60 (am 7) B4_4, gArr K 60 (am 8) B5_4, gArr K 60 (am 9) B6_4] _ _ := hG
      exact g_iret S hr hlk hQ dX9_leg_120 (Nat.le_of_ble_eq_true rfl) (Nat.le_of_ble_eq_true rfl) ((B6_4 x, lg2_4, mr2_4, en2_4, pw2_4, sl2_4, ly2_4, dn2_4, B0_4, B1_4, B2_4, B3_4, B4_4, B5_4, B6_4) : Int × Int × Int × Int × Int × Int × Int × Int × (Int → Int) × (Int → Int) × (Int → Int) × (Int → Int) × (Int → Int) × (Int → Int) × (Int → Int)) ⟨rfl, (fun _ => by rw [hw9] <;> exact z6)⟩ hG
  · skip
    refine g_iconst S dX9_leg_22 ?_
    have hG : gW K A s.heap [gMdl K am (thr (bI ((0 ≤ y ∧ y < NF 4) ∧ 0 ≤ x ∧ x < (gS NF y : Int))) (bI (0 ≤ z ∧ z ≤ 6)) 1) rw lg2_4 mr2_4 en2_4 pw2_4 sl2_4 ly2_4 dn2_4 iz tz nx st tk vl ef ep hO hB ol rm oz, gArr K 95 rw NF, gArr K 60 (am 3) B0_4, gArrZ K 60 (am 4) B1_4, gArr K 60 (am 5) B2_4, gArr K 60 (am 6) B3_4, gArr K 60 (am 7) B4_4, gArr K 60 (am 8) B5_4, gArr K 60 (am 9) B6_4] _ _ := hG
    exact g_iret S hr hlk hQ dX9_leg_23 (Nat.le_of_ble_eq_true rfl) (Nat.le_of_ble_eq_true rfl) ((0, lg2_4, mr2_4, en2_4, pw2_4, sl2_4, ly2_4, dn2_4, B0_4, B1_4, B2_4, B3_4, B4_4, B5_4, B6_4) : Int × Int × Int × Int × Int × Int × Int × Int × (Int → Int) × (Int → Int) × (Int → Int) × (Int → Int) × (Int → Int) × (Int → Int) × (Int → Int)) ⟨rfl, (fun h => absurd ⟨bI_t h.1, bI_t h.2⟩ q19)⟩ hG

set_option maxHeartbeats 1000000 in
set_option maxRecDepth 100000 in
theorem c_X9_legAt (l : Launch) (K : KC) (am : Nat → Nat) (th : Int) (rw : Nat) (lg : Int) (mr : Int) (en : Int) (pw : Int) (sl : Int) (ly : Int) (dn : Int) (iz : Int) (tz : Int) (nx : Int) (st : Int) (tk : Int) (vl : Int) (ef : Int) (ep : Int) (hO : Int) (hB : Int) (ol : Int) (rm : Int) (oz : Int) (NF : Int → Int) (A0 : Int → Int) (A1 : Int → Int) (A2 : Int → Int) (A3 : Int → Int) (A4 : Int → Int) (A5 : Int → Int) (A6 : Int → Int) (y : Int) (x : Int) (hN : NOk0 NF) (hv : -2147483648 ≤ y ∧ y < 2147483648) (hx : -2147483648 ≤ x ∧ x < 2147483648) : mG l yX9_legAt wsX9_legAt 6 135 K [.ref (am 0), .int (iI y), .int (iI x)] [gMdl K am th rw lg mr en pw sl ly dn iz tz nx st tk vl ef ep hO hB ol rm oz, gArr K 95 rw NF, gArr K 60 (am 3) A0, gArrZ K 60 (am 4) A1, gArr K 60 (am 5) A2, gArr K 60 (am 6) A3, gArr K 60 (am 7) A4, gArr K 60 (am 8) A5, gArr K 60 (am 9) A6] (fun (v : Value) (u : Int × Int × Int × Int × Int × Int × Int × Int × (Int → Int) × (Int → Int) × (Int → Int) × (Int → Int) × (Int → Int) × (Int → Int) × (Int → Int)) => (v = .int (iI u.1)) ∧ ((0 ≤ y ∧ y < NF 4) ∧ (0 ≤ x) → u.1 = legN NF y x)) (fun (u : Int × Int × Int × Int × Int × Int × Int × Int × (Int → Int) × (Int → Int) × (Int → Int) × (Int → Int) × (Int → Int) × (Int → Int) × (Int → Int)) => [gMdl K am (thr (bI (0 ≤ y ∧ y < NF 4)) (bI (0 ≤ x)) 1) rw u.2.1 u.2.2.1 u.2.2.2.1 u.2.2.2.2.1 u.2.2.2.2.2.1 u.2.2.2.2.2.2.1 u.2.2.2.2.2.2.2.1 iz tz nx st tk vl ef ep hO hB ol rm oz, gArr K 95 rw NF, gArr K 60 (am 3) u.2.2.2.2.2.2.2.2.1, gArrZ K 60 (am 4) u.2.2.2.2.2.2.2.2.2.1, gArr K 60 (am 5) u.2.2.2.2.2.2.2.2.2.2.1, gArr K 60 (am 6) u.2.2.2.2.2.2.2.2.2.2.2.1, gArr K 60 (am 7) u.2.2.2.2.2.2.2.2.2.2.2.2.1, gArr K 60 (am 8) u.2.2.2.2.2.2.2.2.2.2.2.2.2.1, gArr K 60 (am 9) u.2.2.2.2.2.2.2.2.2.2.2.2.2.2]) 0 0 := by
  refine mG_of cX9_legAt 3 (by decide) rfl (Nat.le_of_ble_eq_true rfl) ?_
  intro p e s m below meth c A ls Q S C hG hl hr hlk hin hQ
  have S : CallFix p m c cX9_legAt 3 s ([.ref (am 0), .int (iI y), .int (iI x)] : List Value).toArray wsX9_legAt RX9 := S
  have iX90 : ∀ w ∈ wsX90, w ∈ wsX9_legAt := fun _ h => List.mem_cons_of_mem _ (List.mem_append_right _ (h))
  have hl : lv_has ls 3 [(0, .ref (am 0)), (1, .int (iI y)), (2, .int (iI x))] := hl
  have hG : gW K A s.heap [gMdl K am th rw lg mr en pw sl ly dn iz tz nx st tk vl ef ep hO hB ol rm oz, gArr K 95 rw NF, gArr K 60 (am 3) A0, gArrZ K 60 (am 4) A1, gArr K 60 (am 5) A2, gArr K 60 (am 6) A3, gArr K 60 (am 7) A4, gArr K 60 (am 8) A5, gArr K 60 (am 9) A6] s.heap [] := hG
  have n0 := hN.1
  have n3 := hN.2.2.2.1
  refine lv_aload_n S.1 S.2.1 dX9_legAt_0 rfl (lv_at hl 0 rfl) ?_
  refine lv_aload_n S.1 S.2.1 dX9_legAt_1 rfl (lv_at hl 0 rfl) ?_
  refine lv_iload_n S.1 S.2.1 dX9_legAt_2 rfl (lv_at hl 1 rfl) ?_
  refine g_invV (As := [.int (iI y)]) (rest := [.ref (am 0)]) (gs' := (fun u : Unit => [gMdl K am th rw lg mr en pw sl ly dn iz tz nx st tk vl ef ep hO hB ol rm oz, gArr K 95 rw NF, gArr K 60 (am 3) A0, gArrZ K 60 (am 4) A1, gArr K 60 (am 5) A2, gArr K 60 (am 6) A3, gArr K 60 (am 7) A4, gArr K 60 (am 8) A5, gArr K 60 (am 9) A6])) S C hG [0, 1] (c_X9_isShot l K am th rw lg mr en pw sl ly dn iz tz nx st tk vl ef ep hO hB ol rm oz NF y hN hv) rfl rfl 0 rfl rfl (cwV 1 S.2.2.2.2 gX9_legAt_X9_isShot rfl rfl rfl (by decide +kernel) ⟨Nat.le_of_ble_eq_true rfl, Nat.le_of_ble_eq_true rfl⟩) rfl hl.1 rfl (Nat.le_of_ble_eq_true rfl) dX9_legAt_3 ⟨Nat.le_of_ble_eq_true rfl, Nat.le_of_ble_eq_true rfl⟩ (fun _ => Nat.le_of_ble_eq_true rfl) (fun _ => rfl) (fun v u H locs hp hG => ?_)
  subst hp
  refine lv_iload_n S.1 S.2.1 dX9_legAt_6 rfl (lv_at hl 2 rfl) ?_
  refine g_if_lt (tgt := 14) S dX9_legAt_7 (by decide) (by omega) (fun q7 => ?_) (fun q7 => ?_)
  · skip
    refine g_iconst S dX9_legAt_14 ?_
    refine g_top (w := .int (iI (bI (0 ≤ x)))) (congrArg (fun z : Int => Value.int (iI z)) ((bI_f (by omega)).symm)) ?_
    refine g_invV (As := [.int (iI (bI (0 ≤ y ∧ y < NF 4))), .int (iI (bI (0 ≤ x)))]) (rest := []) (gs' := (fun u : Unit => [gMdl K am (thr (bI (0 ≤ y ∧ y < NF 4)) (bI (0 ≤ x)) 1) rw lg mr en pw sl ly dn iz tz nx st tk vl ef ep hO hB ol rm oz, gArr K 95 rw NF, gArr K 60 (am 3) A0, gArrZ K 60 (am 4) A1, gArr K 60 (am 5) A2, gArr K 60 (am 6) A3, gArr K 60 (am 7) A4, gArr K 60 (am 8) A5, gArr K 60 (am 9) A6])) S C hG [0] (c_X9_passes2 l K am th rw lg mr en pw sl ly dn iz tz nx st tk vl ef ep hO hB ol rm oz (bI (0 ≤ y ∧ y < NF 4)) (bI (0 ≤ x)) (bI_01 _) (bI_01 _)) rfl rfl 0 rfl rfl (cwV 2 S.2.2.2.2 gX9_legAt_X9_passes2 rfl rfl rfl (by decide +kernel) ⟨Nat.le_of_ble_eq_true rfl, Nat.le_of_ble_eq_true rfl⟩) rfl hl.1 rfl (Nat.le_of_ble_eq_true rfl) dX9_legAt_15 ⟨Nat.le_of_ble_eq_true rfl, Nat.le_of_ble_eq_true rfl⟩ (fun _ => Nat.le_of_ble_eq_true rfl) (fun _ => rfl) (fun v u H locs hp hG => ?_)
    subst hp
    refine g_ifne_b (B := ((bI (0 ≤ y ∧ y < NF 4)) = 1 ∧ (bI (0 ≤ x)) = 1)) (tgt := 23) S dX9_legAt_18 (by decide) (fun q18 => ?_) (fun q18 => ?_)
    · skip
      have qa := bI1 q18.1
      have qb := bI1 q18.2
      refine lv_aload_n S.1 S.2.1 dX9_legAt_23 rfl (lv_at hl 0 rfl) ?_
      refine lv_iload_n S.1 S.2.1 dX9_legAt_24 rfl (lv_at hl 1 rfl) ?_
      refine g_invVv (As := [.int (iI y)]) (rest := []) (gs' := (fun u : Int × Int × Int × Int × Int × Int × Int × (Int → Int) × (Int → Int) × (Int → Int) × (Int → Int) × (Int → Int) × (Int → Int) × (Int → Int) => [gMdl K am (thr (bI (0 ≤ y ∧ y < NF 4)) (bI (0 ≤ x)) 1) rw u.1 u.2.1 u.2.2.1 u.2.2.2.1 u.2.2.2.2.1 u.2.2.2.2.2.1 u.2.2.2.2.2.2.1 iz tz nx st tk vl ef ep hO hB ol rm oz, gArr K 95 rw NF, gArr K 60 (am 3) u.2.2.2.2.2.2.2.1, gArrZ K 60 (am 4) u.2.2.2.2.2.2.2.2.1, gArr K 60 (am 5) u.2.2.2.2.2.2.2.2.2.1, gArr K 60 (am 6) u.2.2.2.2.2.2.2.2.2.2.1, gArr K 60 (am 7) u.2.2.2.2.2.2.2.2.2.2.2.1, gArr K 60 (am 8) u.2.2.2.2.2.2.2.2.2.2.2.2.1, gArr K 60 (am 9) u.2.2.2.2.2.2.2.2.2.2.2.2.2])) S C hG [0, 1, 2, 3, 4, 5, 6, 7, 8] (c_X9_followShot l K am (thr (bI (0 ≤ y ∧ y < NF 4)) (bI (0 ≤ x)) 1) rw lg mr en pw sl ly dn iz tz nx st tk vl ef ep hO hB ol rm oz NF A0 A1 A2 A3 A4 A5 A6 y hN qa) rfl rfl 0 rfl rfl (cwV 1 S.2.2.2.2 gX9_legAt_X9_followShot rfl rfl rfl (by decide +kernel) ⟨Nat.le_of_ble_eq_true rfl, Nat.le_of_ble_eq_true rfl⟩) rfl hl.1 rfl (Nat.le_of_ble_eq_true rfl) dX9_legAt_25 ⟨Nat.le_of_ble_eq_true rfl, Nat.le_of_ble_eq_true rfl⟩ (fun _ => Nat.le_of_ble_eq_true rfl) (fun _ => rfl) (fun u H locs hp hG => ?_)
      obtain ⟨lg2_25, mr2_25, en2_25, pw2_25, sl2_25, ly2_25, dn2_25, B0_25, B1_25, B2_25, B3_25, B4_25, B5_25, B6_25⟩ := u
      have hf_25 := hp
      have hf_25 : FolS NF y lg2_25 mr2_25 en2_25 pw2_25 B0_25 B1_25 B2_25 B3_25 B4_25 B5_25 B6_25 := hf_25
      have hG : gW K A s.heap [gMdl K am (thr (bI (0 ≤ y ∧ y < NF 4)) (bI (0 ≤ x)) 1) rw lg2_25 mr2_25 en2_25 pw2_25 sl2_25 ly2_25 dn2_25 iz tz nx st tk vl ef ep hO hB ol rm oz, gArr K 95 rw NF, gArr K 60 (am 3) B0_25, gArrZ K 60 (am 4) B1_25, gArr K 60 (am 5) B2_25, gArr K 60 (am 6) B3_25, gArr K 60 (am 7) B4_25, gArr K 60 (am 8) B5_25, gArr K 60 (am 9) B6_25] _ _ := hG
      have sb := sho_bd hN qa.1 qa.2
      obtain ⟨f1, f2, f3, f4⟩ := hf_25.bd hN sb.2.2.1 sb.2.1
      have g9 : lg2_25 = (gS NF y : Int) := hf_25.1
      refine lv_aload_n S.1 S.2.1 dX9_legAt_28 rfl (lv_at hl 0 rfl) ?_
      refine lv_iload_n S.1 S.2.1 dX9_legAt_29 rfl (lv_at hl 2 rfl) ?_
      refine g_invV (As := [.int (iI x)]) (rest := []) (gs' := (fun u : Unit => [gMdl K am (thr (bI (0 ≤ y ∧ y < NF 4)) (bI (0 ≤ x)) 1) rw lg2_25 mr2_25 en2_25 pw2_25 sl2_25 ly2_25 dn2_25 iz tz nx st tk vl ef ep hO hB ol rm oz, gArr K 95 rw NF, gArr K 60 (am 3) B0_25, gArrZ K 60 (am 4) B1_25, gArr K 60 (am 5) B2_25, gArr K 60 (am 6) B3_25, gArr K 60 (am 7) B4_25, gArr K 60 (am 8) B5_25, gArr K 60 (am 9) B6_25])) S C hG [0, 6] (c_X9_legNow l K am (thr (bI (0 ≤ y ∧ y < NF 4)) (bI (0 ≤ x)) 1) rw lg2_25 mr2_25 en2_25 pw2_25 sl2_25 ly2_25 dn2_25 iz tz nx st tk vl ef ep hO hB ol rm oz B4_25 x f1 (fun i a b => ⟨by have z := (f4 i a b).2.2.2.2 <;> omega, (f4 i a b).2.2.2.2.2⟩) hx) rfl rfl 0 rfl rfl (cwV 1 S.2.2.2.2 gX9_legAt_X9_legNow rfl rfl rfl (by decide +kernel) ⟨Nat.le_of_ble_eq_true rfl, Nat.le_of_ble_eq_true rfl⟩) rfl hl.1 rfl (Nat.le_of_ble_eq_true rfl) dX9_legAt_30 ⟨Nat.le_of_ble_eq_true rfl, Nat.le_of_ble_eq_true rfl⟩ (fun _ => Nat.le_of_ble_eq_true rfl) (fun _ => rfl) (fun v u H locs hp hG => ?_)
      subst hp
      have hG : gW K A s.heap [gMdl K am (thr (bI (0 ≤ y ∧ y < NF 4)) (bI (0 ≤ x)) 1) rw lg2_25 mr2_25 en2_25 pw2_25 sl2_25 ly2_25 dn2_25 iz tz nx st tk vl ef ep hO hB ol rm oz, gArr K 95 rw NF, gArr K 60 (am 3) B0_25, gArrZ K 60 (am 4) B1_25, gArr K 60 (am 5) B2_25, gArr K 60 (am 6) B3_25, gArr K 60 (am 7) B4_25, gArr K 60 (am 8) B5_25, gArr K 60 (am 9) B6_25] _ _ := hG
      exact g_iret S hr hlk hQ dX9_legAt_33 (Nat.le_of_ble_eq_true rfl) (Nat.le_of_ble_eq_true rfl) ((nowN B4_25 lg2_25.toNat x, lg2_25, mr2_25, en2_25, pw2_25, sl2_25, ly2_25, dn2_25, B0_25, B1_25, B2_25, B3_25, B4_25, B5_25, B6_25) : Int × Int × Int × Int × Int × Int × Int × Int × (Int → Int) × (Int → Int) × (Int → Int) × (Int → Int) × (Int → Int) × (Int → Int) × (Int → Int)) ⟨rfl, (fun _ => hf_25.now x)⟩ hG
    · skip
      refine g_iconst S dX9_legAt_21 ?_
      have hG : gW K A s.heap [gMdl K am (thr (bI (0 ≤ y ∧ y < NF 4)) (bI (0 ≤ x)) 1) rw lg mr en pw sl ly dn iz tz nx st tk vl ef ep hO hB ol rm oz, gArr K 95 rw NF, gArr K 60 (am 3) A0, gArrZ K 60 (am 4) A1, gArr K 60 (am 5) A2, gArr K 60 (am 6) A3, gArr K 60 (am 7) A4, gArr K 60 (am 8) A5, gArr K 60 (am 9) A6] _ _ := hG
      exact g_iret S hr hlk hQ dX9_legAt_22 (Nat.le_of_ble_eq_true rfl) (Nat.le_of_ble_eq_true rfl) ((0, lg, mr, en, pw, sl, ly, dn, A0, A1, A2, A3, A4, A5, A6) : Int × Int × Int × Int × Int × Int × Int × Int × (Int → Int) × (Int → Int) × (Int → Int) × (Int → Int) × (Int → Int) × (Int → Int) × (Int → Int)) ⟨rfl, (fun h => absurd ⟨bI_t h.1, bI_t h.2⟩ q18)⟩ hG
  · skip
    refine g_iconst S dX9_legAt_10 ?_
    refine g_top (w := .int (iI (bI (0 ≤ x)))) (congrArg (fun z : Int => Value.int (iI z)) ((bI_t (by omega)).symm)) ?_
    refine lv_goto (tgt := 15) S.1 S.2.1 dX9_legAt_11 (by decide) ?_
    refine g_invV (As := [.int (iI (bI (0 ≤ y ∧ y < NF 4))), .int (iI (bI (0 ≤ x)))]) (rest := []) (gs' := (fun u : Unit => [gMdl K am (thr (bI (0 ≤ y ∧ y < NF 4)) (bI (0 ≤ x)) 1) rw lg mr en pw sl ly dn iz tz nx st tk vl ef ep hO hB ol rm oz, gArr K 95 rw NF, gArr K 60 (am 3) A0, gArrZ K 60 (am 4) A1, gArr K 60 (am 5) A2, gArr K 60 (am 6) A3, gArr K 60 (am 7) A4, gArr K 60 (am 8) A5, gArr K 60 (am 9) A6])) S C hG [0] (c_X9_passes2 l K am th rw lg mr en pw sl ly dn iz tz nx st tk vl ef ep hO hB ol rm oz (bI (0 ≤ y ∧ y < NF 4)) (bI (0 ≤ x)) (bI_01 _) (bI_01 _)) rfl rfl 0 rfl rfl (cwV 2 S.2.2.2.2 gX9_legAt_X9_passes2 rfl rfl rfl (by decide +kernel) ⟨Nat.le_of_ble_eq_true rfl, Nat.le_of_ble_eq_true rfl⟩) rfl hl.1 rfl (Nat.le_of_ble_eq_true rfl) dX9_legAt_15 ⟨Nat.le_of_ble_eq_true rfl, Nat.le_of_ble_eq_true rfl⟩ (fun _ => Nat.le_of_ble_eq_true rfl) (fun _ => rfl) (fun v u H locs hp hG => ?_)
    subst hp
    refine g_ifne_b (B := ((bI (0 ≤ y ∧ y < NF 4)) = 1 ∧ (bI (0 ≤ x)) = 1)) (tgt := 23) S dX9_legAt_18 (by decide) (fun q18 => ?_) (fun q18 => ?_)
    · skip
      have qa := bI1 q18.1
      have qb := bI1 q18.2
      refine lv_aload_n S.1 S.2.1 dX9_legAt_23 rfl (lv_at hl 0 rfl) ?_
      refine lv_iload_n S.1 S.2.1 dX9_legAt_24 rfl (lv_at hl 1 rfl) ?_
      refine g_invVv (As := [.int (iI y)]) (rest := []) (gs' := (fun u : Int × Int × Int × Int × Int × Int × Int × (Int → Int) × (Int → Int) × (Int → Int) × (Int → Int) × (Int → Int) × (Int → Int) × (Int → Int) => [gMdl K am (thr (bI (0 ≤ y ∧ y < NF 4)) (bI (0 ≤ x)) 1) rw u.1 u.2.1 u.2.2.1 u.2.2.2.1 u.2.2.2.2.1 u.2.2.2.2.2.1 u.2.2.2.2.2.2.1 iz tz nx st tk vl ef ep hO hB ol rm oz, gArr K 95 rw NF, gArr K 60 (am 3) u.2.2.2.2.2.2.2.1, gArrZ K 60 (am 4) u.2.2.2.2.2.2.2.2.1, gArr K 60 (am 5) u.2.2.2.2.2.2.2.2.2.1, gArr K 60 (am 6) u.2.2.2.2.2.2.2.2.2.2.1, gArr K 60 (am 7) u.2.2.2.2.2.2.2.2.2.2.2.1, gArr K 60 (am 8) u.2.2.2.2.2.2.2.2.2.2.2.2.1, gArr K 60 (am 9) u.2.2.2.2.2.2.2.2.2.2.2.2.2])) S C hG [0, 1, 2, 3, 4, 5, 6, 7, 8] (c_X9_followShot l K am (thr (bI (0 ≤ y ∧ y < NF 4)) (bI (0 ≤ x)) 1) rw lg mr en pw sl ly dn iz tz nx st tk vl ef ep hO hB ol rm oz NF A0 A1 A2 A3 A4 A5 A6 y hN qa) rfl rfl 0 rfl rfl (cwV 1 S.2.2.2.2 gX9_legAt_X9_followShot rfl rfl rfl (by decide +kernel) ⟨Nat.le_of_ble_eq_true rfl, Nat.le_of_ble_eq_true rfl⟩) rfl hl.1 rfl (Nat.le_of_ble_eq_true rfl) dX9_legAt_25 ⟨Nat.le_of_ble_eq_true rfl, Nat.le_of_ble_eq_true rfl⟩ (fun _ => Nat.le_of_ble_eq_true rfl) (fun _ => rfl) (fun u H locs hp hG => ?_)
      obtain ⟨lg2_25, mr2_25, en2_25, pw2_25, sl2_25, ly2_25, dn2_25, B0_25, B1_25, B2_25, B3_25, B4_25, B5_25, B6_25⟩ := u
      have hf_25 := hp
      have hf_25 : FolS NF y lg2_25 mr2_25 en2_25 pw2_25 B0_25 B1_25 B2_25 B3_25 B4_25 B5_25 B6_25 := hf_25
      have hG : gW K A s.heap [gMdl K am (thr (bI (0 ≤ y ∧ y < NF 4)) (bI (0 ≤ x)) 1) rw lg2_25 mr2_25 en2_25 pw2_25 sl2_25 ly2_25 dn2_25 iz tz nx st tk vl ef ep hO hB ol rm oz, gArr K 95 rw NF, gArr K 60 (am 3) B0_25, gArrZ K 60 (am 4) B1_25, gArr K 60 (am 5) B2_25, gArr K 60 (am 6) B3_25, gArr K 60 (am 7) B4_25, gArr K 60 (am 8) B5_25, gArr K 60 (am 9) B6_25] _ _ := hG
      have sb := sho_bd hN qa.1 qa.2
      obtain ⟨f1, f2, f3, f4⟩ := hf_25.bd hN sb.2.2.1 sb.2.1
      have g9 : lg2_25 = (gS NF y : Int) := hf_25.1
      refine lv_aload_n S.1 S.2.1 dX9_legAt_28 rfl (lv_at hl 0 rfl) ?_
      refine lv_iload_n S.1 S.2.1 dX9_legAt_29 rfl (lv_at hl 2 rfl) ?_
      refine g_invV (As := [.int (iI x)]) (rest := []) (gs' := (fun u : Unit => [gMdl K am (thr (bI (0 ≤ y ∧ y < NF 4)) (bI (0 ≤ x)) 1) rw lg2_25 mr2_25 en2_25 pw2_25 sl2_25 ly2_25 dn2_25 iz tz nx st tk vl ef ep hO hB ol rm oz, gArr K 95 rw NF, gArr K 60 (am 3) B0_25, gArrZ K 60 (am 4) B1_25, gArr K 60 (am 5) B2_25, gArr K 60 (am 6) B3_25, gArr K 60 (am 7) B4_25, gArr K 60 (am 8) B5_25, gArr K 60 (am 9) B6_25])) S C hG [0, 6] (c_X9_legNow l K am (thr (bI (0 ≤ y ∧ y < NF 4)) (bI (0 ≤ x)) 1) rw lg2_25 mr2_25 en2_25 pw2_25 sl2_25 ly2_25 dn2_25 iz tz nx st tk vl ef ep hO hB ol rm oz B4_25 x f1 (fun i a b => ⟨by have z := (f4 i a b).2.2.2.2 <;> omega, (f4 i a b).2.2.2.2.2⟩) hx) rfl rfl 0 rfl rfl (cwV 1 S.2.2.2.2 gX9_legAt_X9_legNow rfl rfl rfl (by decide +kernel) ⟨Nat.le_of_ble_eq_true rfl, Nat.le_of_ble_eq_true rfl⟩) rfl hl.1 rfl (Nat.le_of_ble_eq_true rfl) dX9_legAt_30 ⟨Nat.le_of_ble_eq_true rfl, Nat.le_of_ble_eq_true rfl⟩ (fun _ => Nat.le_of_ble_eq_true rfl) (fun _ => rfl) (fun v u H locs hp hG => ?_)
      subst hp
      have hG : gW K A s.heap [gMdl K am (thr (bI (0 ≤ y ∧ y < NF 4)) (bI (0 ≤ x)) 1) rw lg2_25 mr2_25 en2_25 pw2_25 sl2_25 ly2_25 dn2_25 iz tz nx st tk vl ef ep hO hB ol rm oz, gArr K 95 rw NF, gArr K 60 (am 3) B0_25, gArrZ K 60 (am 4) B1_25, gArr K 60 (am 5) B2_25, gArr K 60 (am 6) B3_25, gArr K 60 (am 7) B4_25, gArr K 60 (am 8) B5_25, gArr K 60 (am 9) B6_25] _ _ := hG
      exact g_iret S hr hlk hQ dX9_legAt_33 (Nat.le_of_ble_eq_true rfl) (Nat.le_of_ble_eq_true rfl) ((nowN B4_25 lg2_25.toNat x, lg2_25, mr2_25, en2_25, pw2_25, sl2_25, ly2_25, dn2_25, B0_25, B1_25, B2_25, B3_25, B4_25, B5_25, B6_25) : Int × Int × Int × Int × Int × Int × Int × Int × (Int → Int) × (Int → Int) × (Int → Int) × (Int → Int) × (Int → Int) × (Int → Int) × (Int → Int)) ⟨rfl, (fun _ => hf_25.now x)⟩ hG
    · skip
      refine g_iconst S dX9_legAt_21 ?_
      have hG : gW K A s.heap [gMdl K am (thr (bI (0 ≤ y ∧ y < NF 4)) (bI (0 ≤ x)) 1) rw lg mr en pw sl ly dn iz tz nx st tk vl ef ep hO hB ol rm oz, gArr K 95 rw NF, gArr K 60 (am 3) A0, gArrZ K 60 (am 4) A1, gArr K 60 (am 5) A2, gArr K 60 (am 6) A3, gArr K 60 (am 7) A4, gArr K 60 (am 8) A5, gArr K 60 (am 9) A6] _ _ := hG
      exact g_iret S hr hlk hQ dX9_legAt_22 (Nat.le_of_ble_eq_true rfl) (Nat.le_of_ble_eq_true rfl) ((0, lg, mr, en, pw, sl, ly, dn, A0, A1, A2, A3, A4, A5, A6) : Int × Int × Int × Int × Int × Int × Int × Int × (Int → Int) × (Int → Int) × (Int → Int) × (Int → Int) × (Int → Int) × (Int → Int) × (Int → Int)) ⟨rfl, (fun h => absurd ⟨bI_t h.1, bI_t h.2⟩ q18)⟩ hG

set_option maxHeartbeats 1000000 in
set_option maxRecDepth 100000 in
theorem c_X9_shiftAt (l : Launch) (K : KC) (am : Nat → Nat) (th : Int) (rw : Nat) (lg : Int) (mr : Int) (en : Int) (pw : Int) (sl : Int) (ly : Int) (dn : Int) (iz : Int) (tz : Int) (nx : Int) (st : Int) (tk : Int) (vl : Int) (ef : Int) (ep : Int) (hO : Int) (hB : Int) (ol : Int) (rm : Int) (oz : Int) (NF : Int → Int) (A0 : Int → Int) (A1 : Int → Int) (A2 : Int → Int) (A3 : Int → Int) (A4 : Int → Int) (A5 : Int → Int) (A6 : Int → Int) (y : Int) (x : Int) (hN : NOk0 NF) (hv : -2147483648 ≤ y ∧ y < 2147483648) (hx : -2147483648 ≤ x ∧ x < 2147483648) : mG l yX9_shiftAt wsX9_shiftAt 6 135 K [.ref (am 0), .int (iI y), .int (iI x)] [gMdl K am th rw lg mr en pw sl ly dn iz tz nx st tk vl ef ep hO hB ol rm oz, gArr K 95 rw NF, gArr K 60 (am 3) A0, gArrZ K 60 (am 4) A1, gArr K 60 (am 5) A2, gArr K 60 (am 6) A3, gArr K 60 (am 7) A4, gArr K 60 (am 8) A5, gArr K 60 (am 9) A6] (fun (v : Value) (u : Int × Int × Int × Int × Int × Int × Int × Int × (Int → Int) × (Int → Int) × (Int → Int) × (Int → Int) × (Int → Int) × (Int → Int) × (Int → Int)) => (v = .int (iI u.1)) ∧ ((0 ≤ y ∧ y < NF 4) ∧ (0 ≤ x) → u.1 = shtN NF y x)) (fun (u : Int × Int × Int × Int × Int × Int × Int × Int × (Int → Int) × (Int → Int) × (Int → Int) × (Int → Int) × (Int → Int) × (Int → Int) × (Int → Int)) => [gMdl K am (thr (bI (0 ≤ y ∧ y < NF 4)) (bI (0 ≤ x)) 1) rw u.2.1 u.2.2.1 u.2.2.2.1 u.2.2.2.2.1 u.2.2.2.2.2.1 u.2.2.2.2.2.2.1 u.2.2.2.2.2.2.2.1 iz tz nx st tk vl ef ep hO hB ol rm oz, gArr K 95 rw NF, gArr K 60 (am 3) u.2.2.2.2.2.2.2.2.1, gArrZ K 60 (am 4) u.2.2.2.2.2.2.2.2.2.1, gArr K 60 (am 5) u.2.2.2.2.2.2.2.2.2.2.1, gArr K 60 (am 6) u.2.2.2.2.2.2.2.2.2.2.2.1, gArr K 60 (am 7) u.2.2.2.2.2.2.2.2.2.2.2.2.1, gArr K 60 (am 8) u.2.2.2.2.2.2.2.2.2.2.2.2.2.1, gArr K 60 (am 9) u.2.2.2.2.2.2.2.2.2.2.2.2.2.2]) 0 0 := by
  refine mG_of cX9_shiftAt 4 (by decide) rfl (Nat.le_of_ble_eq_true rfl) ?_
  intro p e s m below meth c A ls Q S C hG hl hr hlk hin hQ
  have S : CallFix p m c cX9_shiftAt 4 s ([.ref (am 0), .int (iI y), .int (iI x)] : List Value).toArray wsX9_shiftAt RX9 := S
  have iX90 : ∀ w ∈ wsX90, w ∈ wsX9_shiftAt := fun _ h => List.mem_cons_of_mem _ (List.mem_append_right _ (h))
  have hl : lv_has ls 4 [(0, .ref (am 0)), (1, .int (iI y)), (2, .int (iI x))] := hl
  have hG : gW K A s.heap [gMdl K am th rw lg mr en pw sl ly dn iz tz nx st tk vl ef ep hO hB ol rm oz, gArr K 95 rw NF, gArr K 60 (am 3) A0, gArrZ K 60 (am 4) A1, gArr K 60 (am 5) A2, gArr K 60 (am 6) A3, gArr K 60 (am 7) A4, gArr K 60 (am 8) A5, gArr K 60 (am 9) A6] s.heap [] := hG
  have n0 := hN.1
  have n3 := hN.2.2.2.1
  refine lv_aload_n S.1 S.2.1 dX9_shiftAt_0 rfl (lv_at hl 0 rfl) ?_
  refine lv_aload_n S.1 S.2.1 dX9_shiftAt_1 rfl (lv_at hl 0 rfl) ?_
  refine lv_iload_n S.1 S.2.1 dX9_shiftAt_2 rfl (lv_at hl 1 rfl) ?_
  refine g_invV (As := [.int (iI y)]) (rest := [.ref (am 0)]) (gs' := (fun u : Unit => [gMdl K am th rw lg mr en pw sl ly dn iz tz nx st tk vl ef ep hO hB ol rm oz, gArr K 95 rw NF, gArr K 60 (am 3) A0, gArrZ K 60 (am 4) A1, gArr K 60 (am 5) A2, gArr K 60 (am 6) A3, gArr K 60 (am 7) A4, gArr K 60 (am 8) A5, gArr K 60 (am 9) A6])) S C hG [0, 1] (c_X9_isShot l K am th rw lg mr en pw sl ly dn iz tz nx st tk vl ef ep hO hB ol rm oz NF y hN hv) rfl rfl 0 rfl rfl (cwV 1 S.2.2.2.2 gX9_shiftAt_X9_isShot rfl rfl rfl (by decide +kernel) ⟨Nat.le_of_ble_eq_true rfl, Nat.le_of_ble_eq_true rfl⟩) rfl hl.1 rfl (Nat.le_of_ble_eq_true rfl) dX9_shiftAt_3 ⟨Nat.le_of_ble_eq_true rfl, Nat.le_of_ble_eq_true rfl⟩ (fun _ => Nat.le_of_ble_eq_true rfl) (fun _ => rfl) (fun v u H locs hp hG => ?_)
  subst hp
  refine lv_iload_n S.1 S.2.1 dX9_shiftAt_6 rfl (lv_at hl 2 rfl) ?_
  refine g_if_lt (tgt := 14) S dX9_shiftAt_7 (by decide) (by omega) (fun q7 => ?_) (fun q7 => ?_)
  · skip
    refine g_iconst S dX9_shiftAt_14 ?_
    refine g_top (w := .int (iI (bI (0 ≤ x)))) (congrArg (fun z : Int => Value.int (iI z)) ((bI_f (by omega)).symm)) ?_
    refine g_invV (As := [.int (iI (bI (0 ≤ y ∧ y < NF 4))), .int (iI (bI (0 ≤ x)))]) (rest := []) (gs' := (fun u : Unit => [gMdl K am (thr (bI (0 ≤ y ∧ y < NF 4)) (bI (0 ≤ x)) 1) rw lg mr en pw sl ly dn iz tz nx st tk vl ef ep hO hB ol rm oz, gArr K 95 rw NF, gArr K 60 (am 3) A0, gArrZ K 60 (am 4) A1, gArr K 60 (am 5) A2, gArr K 60 (am 6) A3, gArr K 60 (am 7) A4, gArr K 60 (am 8) A5, gArr K 60 (am 9) A6])) S C hG [0] (c_X9_passes2 l K am th rw lg mr en pw sl ly dn iz tz nx st tk vl ef ep hO hB ol rm oz (bI (0 ≤ y ∧ y < NF 4)) (bI (0 ≤ x)) (bI_01 _) (bI_01 _)) rfl rfl 0 rfl rfl (cwV 2 S.2.2.2.2 gX9_shiftAt_X9_passes2 rfl rfl rfl (by decide +kernel) ⟨Nat.le_of_ble_eq_true rfl, Nat.le_of_ble_eq_true rfl⟩) rfl hl.1 rfl (Nat.le_of_ble_eq_true rfl) dX9_shiftAt_15 ⟨Nat.le_of_ble_eq_true rfl, Nat.le_of_ble_eq_true rfl⟩ (fun _ => Nat.le_of_ble_eq_true rfl) (fun _ => rfl) (fun v u H locs hp hG => ?_)
    subst hp
    refine g_ifne_b (B := ((bI (0 ≤ y ∧ y < NF 4)) = 1 ∧ (bI (0 ≤ x)) = 1)) (tgt := 23) S dX9_shiftAt_18 (by decide) (fun q18 => ?_) (fun q18 => ?_)
    · skip
      have qa := bI1 q18.1
      have qb := bI1 q18.2
      refine lv_aload_n S.1 S.2.1 dX9_shiftAt_23 rfl (lv_at hl 0 rfl) ?_
      refine lv_iload_n S.1 S.2.1 dX9_shiftAt_24 rfl (lv_at hl 1 rfl) ?_
      refine g_invVv (As := [.int (iI y)]) (rest := []) (gs' := (fun u : Int × Int × Int × Int × Int × Int × Int × (Int → Int) × (Int → Int) × (Int → Int) × (Int → Int) × (Int → Int) × (Int → Int) × (Int → Int) => [gMdl K am (thr (bI (0 ≤ y ∧ y < NF 4)) (bI (0 ≤ x)) 1) rw u.1 u.2.1 u.2.2.1 u.2.2.2.1 u.2.2.2.2.1 u.2.2.2.2.2.1 u.2.2.2.2.2.2.1 iz tz nx st tk vl ef ep hO hB ol rm oz, gArr K 95 rw NF, gArr K 60 (am 3) u.2.2.2.2.2.2.2.1, gArrZ K 60 (am 4) u.2.2.2.2.2.2.2.2.1, gArr K 60 (am 5) u.2.2.2.2.2.2.2.2.2.1, gArr K 60 (am 6) u.2.2.2.2.2.2.2.2.2.2.1, gArr K 60 (am 7) u.2.2.2.2.2.2.2.2.2.2.2.1, gArr K 60 (am 8) u.2.2.2.2.2.2.2.2.2.2.2.2.1, gArr K 60 (am 9) u.2.2.2.2.2.2.2.2.2.2.2.2.2])) S C hG [0, 1, 2, 3, 4, 5, 6, 7, 8] (c_X9_followShot l K am (thr (bI (0 ≤ y ∧ y < NF 4)) (bI (0 ≤ x)) 1) rw lg mr en pw sl ly dn iz tz nx st tk vl ef ep hO hB ol rm oz NF A0 A1 A2 A3 A4 A5 A6 y hN qa) rfl rfl 0 rfl rfl (cwV 1 S.2.2.2.2 gX9_shiftAt_X9_followShot rfl rfl rfl (by decide +kernel) ⟨Nat.le_of_ble_eq_true rfl, Nat.le_of_ble_eq_true rfl⟩) rfl hl.1 rfl (Nat.le_of_ble_eq_true rfl) dX9_shiftAt_25 ⟨Nat.le_of_ble_eq_true rfl, Nat.le_of_ble_eq_true rfl⟩ (fun _ => Nat.le_of_ble_eq_true rfl) (fun _ => rfl) (fun u H locs hp hG => ?_)
      obtain ⟨lg2_25, mr2_25, en2_25, pw2_25, sl2_25, ly2_25, dn2_25, B0_25, B1_25, B2_25, B3_25, B4_25, B5_25, B6_25⟩ := u
      have hf_25 := hp
      have hf_25 : FolS NF y lg2_25 mr2_25 en2_25 pw2_25 B0_25 B1_25 B2_25 B3_25 B4_25 B5_25 B6_25 := hf_25
      have hG : gW K A s.heap [gMdl K am (thr (bI (0 ≤ y ∧ y < NF 4)) (bI (0 ≤ x)) 1) rw lg2_25 mr2_25 en2_25 pw2_25 sl2_25 ly2_25 dn2_25 iz tz nx st tk vl ef ep hO hB ol rm oz, gArr K 95 rw NF, gArr K 60 (am 3) B0_25, gArrZ K 60 (am 4) B1_25, gArr K 60 (am 5) B2_25, gArr K 60 (am 6) B3_25, gArr K 60 (am 7) B4_25, gArr K 60 (am 8) B5_25, gArr K 60 (am 9) B6_25] _ _ := hG
      have sb := sho_bd hN qa.1 qa.2
      obtain ⟨f1, f2, f3, f4⟩ := hf_25.bd hN sb.2.2.1 sb.2.1
      have g9 : lg2_25 = (gS NF y : Int) := hf_25.1
      refine lv_aload_n S.1 S.2.1 dX9_shiftAt_28 rfl (lv_at hl 0 rfl) ?_
      refine lv_iload_n S.1 S.2.1 dX9_shiftAt_29 rfl (lv_at hl 2 rfl) ?_
      refine g_invV (As := [.int (iI x)]) (rest := []) (gs' := (fun u : Unit => [gMdl K am (thr (bI (0 ≤ y ∧ y < NF 4)) (bI (0 ≤ x)) 1) rw lg2_25 mr2_25 en2_25 pw2_25 sl2_25 ly2_25 dn2_25 iz tz nx st tk vl ef ep hO hB ol rm oz, gArr K 95 rw NF, gArr K 60 (am 3) B0_25, gArrZ K 60 (am 4) B1_25, gArr K 60 (am 5) B2_25, gArr K 60 (am 6) B3_25, gArr K 60 (am 7) B4_25, gArr K 60 (am 8) B5_25, gArr K 60 (am 9) B6_25])) S C hG [0, 6] (c_X9_legNow l K am (thr (bI (0 ≤ y ∧ y < NF 4)) (bI (0 ≤ x)) 1) rw lg2_25 mr2_25 en2_25 pw2_25 sl2_25 ly2_25 dn2_25 iz tz nx st tk vl ef ep hO hB ol rm oz B4_25 x f1 (fun i a b => ⟨by have z := (f4 i a b).2.2.2.2 <;> omega, (f4 i a b).2.2.2.2.2⟩) hx) rfl rfl 0 rfl rfl (cwV 1 S.2.2.2.2 gX9_shiftAt_X9_legNow rfl rfl rfl (by decide +kernel) ⟨Nat.le_of_ble_eq_true rfl, Nat.le_of_ble_eq_true rfl⟩) rfl hl.1 rfl (Nat.le_of_ble_eq_true rfl) dX9_shiftAt_30 ⟨Nat.le_of_ble_eq_true rfl, Nat.le_of_ble_eq_true rfl⟩ (fun _ => Nat.le_of_ble_eq_true rfl) (fun _ => rfl) (fun v u H locs hp hG => ?_)
      subst hp
      refine g_top (w := .int (iI (legN NF y x))) (congrArg (fun z : Int => Value.int (iI z)) ((hf_25.now x))) ?_
      refine lv_istore_n (lv' := [(3, .int (iI (legN NF y x))), (0, .ref (am 0)), (1, .int (iI y)), (2, .int (iI x))]) S.1 S.2.1 dX9_shiftAt_33 rfl hl (by decide) rfl (fun ls hl => ?_)
      have lb9 : -1 ≤ legN NF y x ∧ legN NF y x ≤ 60 := by (have z := (lgK_le NF y x).1 <;> unfold legN <;> split <;> omega)
      refine lv_iload_n S.1 S.2.1 dX9_shiftAt_34 rfl (lv_at hl 0 rfl) ?_
      refine g_iconst S dX9_shiftAt_35 ?_
      refine g_icmp_ne (tgt := 53) S dX9_shiftAt_36 (by decide) (by omega) (by omega) (fun q36 => ?_) (fun q36 => ?_)
      · skip
        have l9 := lgK_le NF y x
        have e9 : ¬ lgK NF y x = gS NF y := fun z => q36 (if_pos z)
        have e8 : legN NF y x = (lgK NF y x : Int) := if_neg e9
        have c9 : lgK NF y x < gS NF y := by omega
        have q4 := f4 (lgK NF y x : Int) (by omega) (by omega)
        obtain ⟨a0, a1, a2, a4⟩ := hf_25.at0 c9
        rw [a0, a1, a2, a4] at q4
        have s9 := smN_nn (f := tqS NF y) (lgK NF y x) (fun i hi => by have z := f4 (i : Int) (by omega) (by omega) <;> rw [(hf_25.at0 (by omega)).2.2.2] at z <;> omega)
        have s8 := l9.2 (lgK NF y x) (Nat.le_refl _) qb
        have n8 : (legN NF y x).toNat = lgK NF y x := by omega
        have s7 := hf_25.k4 l9.1
        refine lv_aload_n S.1 S.2.1 dX9_shiftAt_53 rfl (lv_at hl 1 rfl) ?_
        refine g_get S C hG iX90 0 rfl rfl 6 (by decide) (List.mem_of_getElem? (i := 1) rfl) rfl dX9_shiftAt_54 ?_
        refine lv_iload_n S.1 S.2.1 dX9_shiftAt_57 rfl (lv_at hl 0 rfl) ?_
        refine g_invS (As := [.ref (am 5), .int (iI (legN NF y x))]) (rest := []) (gs' := (fun u : Unit => [gMdl K am (thr (bI (0 ≤ y ∧ y < NF 4)) (bI (0 ≤ x)) 1) rw lg2_25 mr2_25 en2_25 pw2_25 sl2_25 ly2_25 dn2_25 iz tz nx st tk vl ef ep hO hB ol rm oz, gArr K 95 rw NF, gArr K 60 (am 3) B0_25, gArrZ K 60 (am 4) B1_25, gArr K 60 (am 5) B2_25, gArr K 60 (am 6) B3_25, gArr K 60 (am 7) B4_25, gArr K 60 (am 8) B5_25, gArr K 60 (am 9) B6_25])) S C hG [4] (c_X9_sumUp l K (am 5) B2_25 (legN NF y x) (by omega)) rfl rfl (va_cwS 2 S.2.2.2.2 gX9_shiftAt_X9_sumUp rfl rfl rfl (by decide +kernel) ⟨Nat.le_of_ble_eq_true rfl, Nat.le_of_ble_eq_true rfl⟩) rfl hl.1 rfl (Nat.le_of_ble_eq_true rfl) dX9_shiftAt_58 ⟨Nat.le_of_ble_eq_true rfl, Nat.le_of_ble_eq_true rfl⟩ (fun _ => Nat.le_of_ble_eq_true rfl) (fun _ => rfl) (fun v u H locs hp hG => ?_)
        subst hp
        refine g_top (w := .int (iI (smN (skS NF y) (lgK NF y x)))) (congrArg (fun z : Int => Value.int (iI z)) ((by rw [n8] <;> exact hf_25.k2 l9.1))) ?_
        refine lv_aload_n S.1 S.2.1 dX9_shiftAt_61 rfl (lv_at hl 1 rfl) ?_
        refine lv_aload_n S.1 S.2.1 dX9_shiftAt_62 rfl (lv_at hl 1 rfl) ?_
        refine g_get S C hG iX90 0 rfl rfl 6 (by decide) (List.mem_of_getElem? (i := 1) rfl) rfl dX9_shiftAt_63 ?_
        refine lv_iload_n S.1 S.2.1 dX9_shiftAt_66 rfl (lv_at hl 0 rfl) ?_
        refine g_iald S C hG 4 rfl (by omega) (by omega) (by omega) dX9_shiftAt_67 ?_
        refine g_top (w := .int (iI (skS NF y (lgK NF y x)))) (congrArg (fun z : Int => Value.int (iI z)) ((by rw [e8] <;> exact a2))) ?_
        refine lv_iload_n S.1 S.2.1 dX9_shiftAt_68 rfl (lv_at hl 0 rfl) ?_
        refine lv_iload_n S.1 S.2.1 dX9_shiftAt_69 rfl (lv_at hl 3 rfl) ?_
        refine g_invV (As := [.int (iI (skS NF y (lgK NF y x))), .int (iI (legN NF y x)), .int (iI x)]) (rest := [.int (iI (smN (skS NF y) (lgK NF y x)))]) (gs' := (fun u : Unit => [gMdl K am (thr (bI (0 ≤ y ∧ y < NF 4)) (bI (0 ≤ x)) 1) rw lg2_25 mr2_25 en2_25 pw2_25 sl2_25 ly2_25 dn2_25 iz tz nx st tk vl ef ep hO hB ol rm oz, gArr K 95 rw NF, gArr K 60 (am 3) B0_25, gArrZ K 60 (am 4) B1_25, gArr K 60 (am 5) B2_25, gArr K 60 (am 6) B3_25, gArr K 60 (am 7) B4_25, gArr K 60 (am 8) B5_25, gArr K 60 (am 9) B6_25])) S C hG [0, 6] (c_X9_partOf l K am (thr (bI (0 ≤ y ∧ y < NF 4)) (bI (0 ≤ x)) 1) rw lg2_25 mr2_25 en2_25 pw2_25 sl2_25 ly2_25 dn2_25 iz tz nx st tk vl ef ep hO hB ol rm oz B4_25 (skS NF y (lgK NF y x)) (legN NF y x) x (by omega) (by omega) (by rw [n8, s7] <;> omega) (by rw [e8, a4] <;> omega) hx) rfl rfl 0 rfl rfl (cwV 3 S.2.2.2.2 gX9_shiftAt_X9_partOf rfl rfl rfl (by decide +kernel) ⟨Nat.le_of_ble_eq_true rfl, Nat.le_of_ble_eq_true rfl⟩) rfl hl.1 rfl (Nat.le_of_ble_eq_true rfl) dX9_shiftAt_70 ⟨Nat.le_of_ble_eq_true rfl, Nat.le_of_ble_eq_true rfl⟩ (fun _ => Nat.le_of_ble_eq_true rfl) (fun _ => rfl) (fun v u H locs hp hG => ?_)
        subst hp
        refine g_top (w := .int (iI (skS NF y (lgK NF y x) * (x - smN (tqS NF y) (lgK NF y x)) / tqS NF y (lgK NF y x)))) (congrArg (fun z : Int => Value.int (iI z)) ((by rw [n8, s7, e8, a4]))) ?_
        refine g_iadd S dX9_shiftAt_73 rfl ?_
        have hG : gW K A s.heap [gMdl K am (thr (bI (0 ≤ y ∧ y < NF 4)) (bI (0 ≤ x)) 1) rw lg2_25 mr2_25 en2_25 pw2_25 sl2_25 ly2_25 dn2_25 iz tz nx st tk vl ef ep hO hB ol rm oz, gArr K 95 rw NF, gArr K 60 (am 3) B0_25, gArrZ K 60 (am 4) B1_25, gArr K 60 (am 5) B2_25, gArr K 60 (am 6) B3_25, gArr K 60 (am 7) B4_25, gArr K 60 (am 8) B5_25, gArr K 60 (am 9) B6_25] _ _ := hG
        exact g_iret S hr hlk hQ dX9_shiftAt_74 (Nat.le_of_ble_eq_true rfl) (Nat.le_of_ble_eq_true rfl) (((smN (skS NF y) (lgK NF y x)) + (skS NF y (lgK NF y x) * (x - smN (tqS NF y) (lgK NF y x)) / tqS NF y (lgK NF y x)), lg2_25, mr2_25, en2_25, pw2_25, sl2_25, ly2_25, dn2_25, B0_25, B1_25, B2_25, B3_25, B4_25, B5_25, B6_25) : Int × Int × Int × Int × Int × Int × Int × Int × (Int → Int) × (Int → Int) × (Int → Int) × (Int → Int) × (Int → Int) × (Int → Int) × (Int → Int)) ⟨rfl, (fun _ => by unfold shtN <;> rw [if_neg e9])⟩ hG
      · skip
        have l9 := lgK_le NF y x
        have e9 : lgK NF y x = gS NF y := by (unfold legN at q36 <;> split at q36 <;> omega)
        refine lv_aload_n S.1 S.2.1 dX9_shiftAt_39 rfl (lv_at hl 1 rfl) ?_
        refine g_get S C hG iX90 0 rfl rfl 6 (by decide) (List.mem_of_getElem? (i := 1) rfl) rfl dX9_shiftAt_40 ?_
        refine lv_aload_n S.1 S.2.1 dX9_shiftAt_43 rfl (lv_at hl 1 rfl) ?_
        refine g_get S C hG iX90 0 rfl rfl 11 (by decide) (List.mem_of_getElem? (i := 2) rfl) rfl dX9_shiftAt_44 ?_
        refine g_invS (As := [.ref (am 5), .int (iI lg2_25)]) (rest := []) (gs' := (fun u : Unit => [gMdl K am (thr (bI (0 ≤ y ∧ y < NF 4)) (bI (0 ≤ x)) 1) rw lg2_25 mr2_25 en2_25 pw2_25 sl2_25 ly2_25 dn2_25 iz tz nx st tk vl ef ep hO hB ol rm oz, gArr K 95 rw NF, gArr K 60 (am 3) B0_25, gArrZ K 60 (am 4) B1_25, gArr K 60 (am 5) B2_25, gArr K 60 (am 6) B3_25, gArr K 60 (am 7) B4_25, gArr K 60 (am 8) B5_25, gArr K 60 (am 9) B6_25])) S C hG [4] (c_X9_sumUp l K (am 5) B2_25 lg2_25 f1) rfl rfl (va_cwS 2 S.2.2.2.2 gX9_shiftAt_X9_sumUp rfl rfl rfl (by decide +kernel) ⟨Nat.le_of_ble_eq_true rfl, Nat.le_of_ble_eq_true rfl⟩) rfl hl.1 rfl (Nat.le_of_ble_eq_true rfl) dX9_shiftAt_47 ⟨Nat.le_of_ble_eq_true rfl, Nat.le_of_ble_eq_true rfl⟩ (fun _ => Nat.le_of_ble_eq_true rfl) (fun _ => rfl) (fun v u H locs hp hG => ?_)
        subst hp
        refine g_top (w := .int (iI (smN (skS NF y) (gS NF y)))) (congrArg (fun z : Int => Value.int (iI z)) ((by rw [show lg2_25.toNat = gS NF y by omega] <;> exact hf_25.k2 (Nat.le_refl _)))) ?_
        refine lv_goto (tgt := 74) S.1 S.2.1 dX9_shiftAt_50 (by decide) ?_
        have hG : gW K A s.heap [gMdl K am (thr (bI (0 ≤ y ∧ y < NF 4)) (bI (0 ≤ x)) 1) rw lg2_25 mr2_25 en2_25 pw2_25 sl2_25 ly2_25 dn2_25 iz tz nx st tk vl ef ep hO hB ol rm oz, gArr K 95 rw NF, gArr K 60 (am 3) B0_25, gArrZ K 60 (am 4) B1_25, gArr K 60 (am 5) B2_25, gArr K 60 (am 6) B3_25, gArr K 60 (am 7) B4_25, gArr K 60 (am 8) B5_25, gArr K 60 (am 9) B6_25] _ _ := hG
        exact g_iret S hr hlk hQ dX9_shiftAt_74 (Nat.le_of_ble_eq_true rfl) (Nat.le_of_ble_eq_true rfl) ((smN (skS NF y) (gS NF y), lg2_25, mr2_25, en2_25, pw2_25, sl2_25, ly2_25, dn2_25, B0_25, B1_25, B2_25, B3_25, B4_25, B5_25, B6_25) : Int × Int × Int × Int × Int × Int × Int × Int × (Int → Int) × (Int → Int) × (Int → Int) × (Int → Int) × (Int → Int) × (Int → Int) × (Int → Int)) ⟨rfl, (fun _ => by unfold shtN <;> rw [if_pos e9])⟩ hG
    · skip
      refine g_iconst S dX9_shiftAt_21 ?_
      have hG : gW K A s.heap [gMdl K am (thr (bI (0 ≤ y ∧ y < NF 4)) (bI (0 ≤ x)) 1) rw lg mr en pw sl ly dn iz tz nx st tk vl ef ep hO hB ol rm oz, gArr K 95 rw NF, gArr K 60 (am 3) A0, gArrZ K 60 (am 4) A1, gArr K 60 (am 5) A2, gArr K 60 (am 6) A3, gArr K 60 (am 7) A4, gArr K 60 (am 8) A5, gArr K 60 (am 9) A6] _ _ := hG
      exact g_iret S hr hlk hQ dX9_shiftAt_22 (Nat.le_of_ble_eq_true rfl) (Nat.le_of_ble_eq_true rfl) ((0, lg, mr, en, pw, sl, ly, dn, A0, A1, A2, A3, A4, A5, A6) : Int × Int × Int × Int × Int × Int × Int × Int × (Int → Int) × (Int → Int) × (Int → Int) × (Int → Int) × (Int → Int) × (Int → Int) × (Int → Int)) ⟨rfl, (fun h => absurd ⟨bI_t h.1, bI_t h.2⟩ q18)⟩ hG
  · skip
    refine g_iconst S dX9_shiftAt_10 ?_
    refine g_top (w := .int (iI (bI (0 ≤ x)))) (congrArg (fun z : Int => Value.int (iI z)) ((bI_t (by omega)).symm)) ?_
    refine lv_goto (tgt := 15) S.1 S.2.1 dX9_shiftAt_11 (by decide) ?_
    refine g_invV (As := [.int (iI (bI (0 ≤ y ∧ y < NF 4))), .int (iI (bI (0 ≤ x)))]) (rest := []) (gs' := (fun u : Unit => [gMdl K am (thr (bI (0 ≤ y ∧ y < NF 4)) (bI (0 ≤ x)) 1) rw lg mr en pw sl ly dn iz tz nx st tk vl ef ep hO hB ol rm oz, gArr K 95 rw NF, gArr K 60 (am 3) A0, gArrZ K 60 (am 4) A1, gArr K 60 (am 5) A2, gArr K 60 (am 6) A3, gArr K 60 (am 7) A4, gArr K 60 (am 8) A5, gArr K 60 (am 9) A6])) S C hG [0] (c_X9_passes2 l K am th rw lg mr en pw sl ly dn iz tz nx st tk vl ef ep hO hB ol rm oz (bI (0 ≤ y ∧ y < NF 4)) (bI (0 ≤ x)) (bI_01 _) (bI_01 _)) rfl rfl 0 rfl rfl (cwV 2 S.2.2.2.2 gX9_shiftAt_X9_passes2 rfl rfl rfl (by decide +kernel) ⟨Nat.le_of_ble_eq_true rfl, Nat.le_of_ble_eq_true rfl⟩) rfl hl.1 rfl (Nat.le_of_ble_eq_true rfl) dX9_shiftAt_15 ⟨Nat.le_of_ble_eq_true rfl, Nat.le_of_ble_eq_true rfl⟩ (fun _ => Nat.le_of_ble_eq_true rfl) (fun _ => rfl) (fun v u H locs hp hG => ?_)
    subst hp
    refine g_ifne_b (B := ((bI (0 ≤ y ∧ y < NF 4)) = 1 ∧ (bI (0 ≤ x)) = 1)) (tgt := 23) S dX9_shiftAt_18 (by decide) (fun q18 => ?_) (fun q18 => ?_)
    · skip
      have qa := bI1 q18.1
      have qb := bI1 q18.2
      refine lv_aload_n S.1 S.2.1 dX9_shiftAt_23 rfl (lv_at hl 0 rfl) ?_
      refine lv_iload_n S.1 S.2.1 dX9_shiftAt_24 rfl (lv_at hl 1 rfl) ?_
      refine g_invVv (As := [.int (iI y)]) (rest := []) (gs' := (fun u : Int × Int × Int × Int × Int × Int × Int × (Int → Int) × (Int → Int) × (Int → Int) × (Int → Int) × (Int → Int) × (Int → Int) × (Int → Int) => [gMdl K am (thr (bI (0 ≤ y ∧ y < NF 4)) (bI (0 ≤ x)) 1) rw u.1 u.2.1 u.2.2.1 u.2.2.2.1 u.2.2.2.2.1 u.2.2.2.2.2.1 u.2.2.2.2.2.2.1 iz tz nx st tk vl ef ep hO hB ol rm oz, gArr K 95 rw NF, gArr K 60 (am 3) u.2.2.2.2.2.2.2.1, gArrZ K 60 (am 4) u.2.2.2.2.2.2.2.2.1, gArr K 60 (am 5) u.2.2.2.2.2.2.2.2.2.1, gArr K 60 (am 6) u.2.2.2.2.2.2.2.2.2.2.1, gArr K 60 (am 7) u.2.2.2.2.2.2.2.2.2.2.2.1, gArr K 60 (am 8) u.2.2.2.2.2.2.2.2.2.2.2.2.1, gArr K 60 (am 9) u.2.2.2.2.2.2.2.2.2.2.2.2.2])) S C hG [0, 1, 2, 3, 4, 5, 6, 7, 8] (c_X9_followShot l K am (thr (bI (0 ≤ y ∧ y < NF 4)) (bI (0 ≤ x)) 1) rw lg mr en pw sl ly dn iz tz nx st tk vl ef ep hO hB ol rm oz NF A0 A1 A2 A3 A4 A5 A6 y hN qa) rfl rfl 0 rfl rfl (cwV 1 S.2.2.2.2 gX9_shiftAt_X9_followShot rfl rfl rfl (by decide +kernel) ⟨Nat.le_of_ble_eq_true rfl, Nat.le_of_ble_eq_true rfl⟩) rfl hl.1 rfl (Nat.le_of_ble_eq_true rfl) dX9_shiftAt_25 ⟨Nat.le_of_ble_eq_true rfl, Nat.le_of_ble_eq_true rfl⟩ (fun _ => Nat.le_of_ble_eq_true rfl) (fun _ => rfl) (fun u H locs hp hG => ?_)
      obtain ⟨lg2_25, mr2_25, en2_25, pw2_25, sl2_25, ly2_25, dn2_25, B0_25, B1_25, B2_25, B3_25, B4_25, B5_25, B6_25⟩ := u
      have hf_25 := hp
      have hf_25 : FolS NF y lg2_25 mr2_25 en2_25 pw2_25 B0_25 B1_25 B2_25 B3_25 B4_25 B5_25 B6_25 := hf_25
      have hG : gW K A s.heap [gMdl K am (thr (bI (0 ≤ y ∧ y < NF 4)) (bI (0 ≤ x)) 1) rw lg2_25 mr2_25 en2_25 pw2_25 sl2_25 ly2_25 dn2_25 iz tz nx st tk vl ef ep hO hB ol rm oz, gArr K 95 rw NF, gArr K 60 (am 3) B0_25, gArrZ K 60 (am 4) B1_25, gArr K 60 (am 5) B2_25, gArr K 60 (am 6) B3_25, gArr K 60 (am 7) B4_25, gArr K 60 (am 8) B5_25, gArr K 60 (am 9) B6_25] _ _ := hG
      have sb := sho_bd hN qa.1 qa.2
      obtain ⟨f1, f2, f3, f4⟩ := hf_25.bd hN sb.2.2.1 sb.2.1
      have g9 : lg2_25 = (gS NF y : Int) := hf_25.1
      refine lv_aload_n S.1 S.2.1 dX9_shiftAt_28 rfl (lv_at hl 0 rfl) ?_
      refine lv_iload_n S.1 S.2.1 dX9_shiftAt_29 rfl (lv_at hl 2 rfl) ?_
      refine g_invV (As := [.int (iI x)]) (rest := []) (gs' := (fun u : Unit => [gMdl K am (thr (bI (0 ≤ y ∧ y < NF 4)) (bI (0 ≤ x)) 1) rw lg2_25 mr2_25 en2_25 pw2_25 sl2_25 ly2_25 dn2_25 iz tz nx st tk vl ef ep hO hB ol rm oz, gArr K 95 rw NF, gArr K 60 (am 3) B0_25, gArrZ K 60 (am 4) B1_25, gArr K 60 (am 5) B2_25, gArr K 60 (am 6) B3_25, gArr K 60 (am 7) B4_25, gArr K 60 (am 8) B5_25, gArr K 60 (am 9) B6_25])) S C hG [0, 6] (c_X9_legNow l K am (thr (bI (0 ≤ y ∧ y < NF 4)) (bI (0 ≤ x)) 1) rw lg2_25 mr2_25 en2_25 pw2_25 sl2_25 ly2_25 dn2_25 iz tz nx st tk vl ef ep hO hB ol rm oz B4_25 x f1 (fun i a b => ⟨by have z := (f4 i a b).2.2.2.2 <;> omega, (f4 i a b).2.2.2.2.2⟩) hx) rfl rfl 0 rfl rfl (cwV 1 S.2.2.2.2 gX9_shiftAt_X9_legNow rfl rfl rfl (by decide +kernel) ⟨Nat.le_of_ble_eq_true rfl, Nat.le_of_ble_eq_true rfl⟩) rfl hl.1 rfl (Nat.le_of_ble_eq_true rfl) dX9_shiftAt_30 ⟨Nat.le_of_ble_eq_true rfl, Nat.le_of_ble_eq_true rfl⟩ (fun _ => Nat.le_of_ble_eq_true rfl) (fun _ => rfl) (fun v u H locs hp hG => ?_)
      subst hp
      refine g_top (w := .int (iI (legN NF y x))) (congrArg (fun z : Int => Value.int (iI z)) ((hf_25.now x))) ?_
      refine lv_istore_n (lv' := [(3, .int (iI (legN NF y x))), (0, .ref (am 0)), (1, .int (iI y)), (2, .int (iI x))]) S.1 S.2.1 dX9_shiftAt_33 rfl hl (by decide) rfl (fun ls hl => ?_)
      have lb9 : -1 ≤ legN NF y x ∧ legN NF y x ≤ 60 := by (have z := (lgK_le NF y x).1 <;> unfold legN <;> split <;> omega)
      refine lv_iload_n S.1 S.2.1 dX9_shiftAt_34 rfl (lv_at hl 0 rfl) ?_
      refine g_iconst S dX9_shiftAt_35 ?_
      refine g_icmp_ne (tgt := 53) S dX9_shiftAt_36 (by decide) (by omega) (by omega) (fun q36 => ?_) (fun q36 => ?_)
      · skip
        have l9 := lgK_le NF y x
        have e9 : ¬ lgK NF y x = gS NF y := fun z => q36 (if_pos z)
        have e8 : legN NF y x = (lgK NF y x : Int) := if_neg e9
        have c9 : lgK NF y x < gS NF y := by omega
        have q4 := f4 (lgK NF y x : Int) (by omega) (by omega)
        obtain ⟨a0, a1, a2, a4⟩ := hf_25.at0 c9
        rw [a0, a1, a2, a4] at q4
        have s9 := smN_nn (f := tqS NF y) (lgK NF y x) (fun i hi => by have z := f4 (i : Int) (by omega) (by omega) <;> rw [(hf_25.at0 (by omega)).2.2.2] at z <;> omega)
        have s8 := l9.2 (lgK NF y x) (Nat.le_refl _) qb
        have n8 : (legN NF y x).toNat = lgK NF y x := by omega
        have s7 := hf_25.k4 l9.1
        refine lv_aload_n S.1 S.2.1 dX9_shiftAt_53 rfl (lv_at hl 1 rfl) ?_
        refine g_get S C hG iX90 0 rfl rfl 6 (by decide) (List.mem_of_getElem? (i := 1) rfl) rfl dX9_shiftAt_54 ?_
        refine lv_iload_n S.1 S.2.1 dX9_shiftAt_57 rfl (lv_at hl 0 rfl) ?_
        refine g_invS (As := [.ref (am 5), .int (iI (legN NF y x))]) (rest := []) (gs' := (fun u : Unit => [gMdl K am (thr (bI (0 ≤ y ∧ y < NF 4)) (bI (0 ≤ x)) 1) rw lg2_25 mr2_25 en2_25 pw2_25 sl2_25 ly2_25 dn2_25 iz tz nx st tk vl ef ep hO hB ol rm oz, gArr K 95 rw NF, gArr K 60 (am 3) B0_25, gArrZ K 60 (am 4) B1_25, gArr K 60 (am 5) B2_25, gArr K 60 (am 6) B3_25, gArr K 60 (am 7) B4_25, gArr K 60 (am 8) B5_25, gArr K 60 (am 9) B6_25])) S C hG [4] (c_X9_sumUp l K (am 5) B2_25 (legN NF y x) (by omega)) rfl rfl (va_cwS 2 S.2.2.2.2 gX9_shiftAt_X9_sumUp rfl rfl rfl (by decide +kernel) ⟨Nat.le_of_ble_eq_true rfl, Nat.le_of_ble_eq_true rfl⟩) rfl hl.1 rfl (Nat.le_of_ble_eq_true rfl) dX9_shiftAt_58 ⟨Nat.le_of_ble_eq_true rfl, Nat.le_of_ble_eq_true rfl⟩ (fun _ => Nat.le_of_ble_eq_true rfl) (fun _ => rfl) (fun v u H locs hp hG => ?_)
        subst hp
        refine g_top (w := .int (iI (smN (skS NF y) (lgK NF y x)))) (congrArg (fun z : Int => Value.int (iI z)) ((by rw [n8] <;> exact hf_25.k2 l9.1))) ?_
        refine lv_aload_n S.1 S.2.1 dX9_shiftAt_61 rfl (lv_at hl 1 rfl) ?_
        refine lv_aload_n S.1 S.2.1 dX9_shiftAt_62 rfl (lv_at hl 1 rfl) ?_
        refine g_get S C hG iX90 0 rfl rfl 6 (by decide) (List.mem_of_getElem? (i := 1) rfl) rfl dX9_shiftAt_63 ?_
        refine lv_iload_n S.1 S.2.1 dX9_shiftAt_66 rfl (lv_at hl 0 rfl) ?_
        refine g_iald S C hG 4 rfl (by omega) (by omega) (by omega) dX9_shiftAt_67 ?_
        refine g_top (w := .int (iI (skS NF y (lgK NF y x)))) (congrArg (fun z : Int => Value.int (iI z)) ((by rw [e8] <;> exact a2))) ?_
        refine lv_iload_n S.1 S.2.1 dX9_shiftAt_68 rfl (lv_at hl 0 rfl) ?_
        refine lv_iload_n S.1 S.2.1 dX9_shiftAt_69 rfl (lv_at hl 3 rfl) ?_
        refine g_invV (As := [.int (iI (skS NF y (lgK NF y x))), .int (iI (legN NF y x)), .int (iI x)]) (rest := [.int (iI (smN (skS NF y) (lgK NF y x)))]) (gs' := (fun u : Unit => [gMdl K am (thr (bI (0 ≤ y ∧ y < NF 4)) (bI (0 ≤ x)) 1) rw lg2_25 mr2_25 en2_25 pw2_25 sl2_25 ly2_25 dn2_25 iz tz nx st tk vl ef ep hO hB ol rm oz, gArr K 95 rw NF, gArr K 60 (am 3) B0_25, gArrZ K 60 (am 4) B1_25, gArr K 60 (am 5) B2_25, gArr K 60 (am 6) B3_25, gArr K 60 (am 7) B4_25, gArr K 60 (am 8) B5_25, gArr K 60 (am 9) B6_25])) S C hG [0, 6] (c_X9_partOf l K am (thr (bI (0 ≤ y ∧ y < NF 4)) (bI (0 ≤ x)) 1) rw lg2_25 mr2_25 en2_25 pw2_25 sl2_25 ly2_25 dn2_25 iz tz nx st tk vl ef ep hO hB ol rm oz B4_25 (skS NF y (lgK NF y x)) (legN NF y x) x (by omega) (by omega) (by rw [n8, s7] <;> omega) (by rw [e8, a4] <;> omega) hx) rfl rfl 0 rfl rfl (cwV 3 S.2.2.2.2 gX9_shiftAt_X9_partOf rfl rfl rfl (by decide +kernel) ⟨Nat.le_of_ble_eq_true rfl, Nat.le_of_ble_eq_true rfl⟩) rfl hl.1 rfl (Nat.le_of_ble_eq_true rfl) dX9_shiftAt_70 ⟨Nat.le_of_ble_eq_true rfl, Nat.le_of_ble_eq_true rfl⟩ (fun _ => Nat.le_of_ble_eq_true rfl) (fun _ => rfl) (fun v u H locs hp hG => ?_)
        subst hp
        refine g_top (w := .int (iI (skS NF y (lgK NF y x) * (x - smN (tqS NF y) (lgK NF y x)) / tqS NF y (lgK NF y x)))) (congrArg (fun z : Int => Value.int (iI z)) ((by rw [n8, s7, e8, a4]))) ?_
        refine g_iadd S dX9_shiftAt_73 rfl ?_
        have hG : gW K A s.heap [gMdl K am (thr (bI (0 ≤ y ∧ y < NF 4)) (bI (0 ≤ x)) 1) rw lg2_25 mr2_25 en2_25 pw2_25 sl2_25 ly2_25 dn2_25 iz tz nx st tk vl ef ep hO hB ol rm oz, gArr K 95 rw NF, gArr K 60 (am 3) B0_25, gArrZ K 60 (am 4) B1_25, gArr K 60 (am 5) B2_25, gArr K 60 (am 6) B3_25, gArr K 60 (am 7) B4_25, gArr K 60 (am 8) B5_25, gArr K 60 (am 9) B6_25] _ _ := hG
        exact g_iret S hr hlk hQ dX9_shiftAt_74 (Nat.le_of_ble_eq_true rfl) (Nat.le_of_ble_eq_true rfl) (((smN (skS NF y) (lgK NF y x)) + (skS NF y (lgK NF y x) * (x - smN (tqS NF y) (lgK NF y x)) / tqS NF y (lgK NF y x)), lg2_25, mr2_25, en2_25, pw2_25, sl2_25, ly2_25, dn2_25, B0_25, B1_25, B2_25, B3_25, B4_25, B5_25, B6_25) : Int × Int × Int × Int × Int × Int × Int × Int × (Int → Int) × (Int → Int) × (Int → Int) × (Int → Int) × (Int → Int) × (Int → Int) × (Int → Int)) ⟨rfl, (fun _ => by unfold shtN <;> rw [if_neg e9])⟩ hG
      · skip
        have l9 := lgK_le NF y x
        have e9 : lgK NF y x = gS NF y := by (unfold legN at q36 <;> split at q36 <;> omega)
        refine lv_aload_n S.1 S.2.1 dX9_shiftAt_39 rfl (lv_at hl 1 rfl) ?_
        refine g_get S C hG iX90 0 rfl rfl 6 (by decide) (List.mem_of_getElem? (i := 1) rfl) rfl dX9_shiftAt_40 ?_
        refine lv_aload_n S.1 S.2.1 dX9_shiftAt_43 rfl (lv_at hl 1 rfl) ?_
        refine g_get S C hG iX90 0 rfl rfl 11 (by decide) (List.mem_of_getElem? (i := 2) rfl) rfl dX9_shiftAt_44 ?_
        refine g_invS (As := [.ref (am 5), .int (iI lg2_25)]) (rest := []) (gs' := (fun u : Unit => [gMdl K am (thr (bI (0 ≤ y ∧ y < NF 4)) (bI (0 ≤ x)) 1) rw lg2_25 mr2_25 en2_25 pw2_25 sl2_25 ly2_25 dn2_25 iz tz nx st tk vl ef ep hO hB ol rm oz, gArr K 95 rw NF, gArr K 60 (am 3) B0_25, gArrZ K 60 (am 4) B1_25, gArr K 60 (am 5) B2_25, gArr K 60 (am 6) B3_25, gArr K 60 (am 7) B4_25, gArr K 60 (am 8) B5_25, gArr K 60 (am 9) B6_25])) S C hG [4] (c_X9_sumUp l K (am 5) B2_25 lg2_25 f1) rfl rfl (va_cwS 2 S.2.2.2.2 gX9_shiftAt_X9_sumUp rfl rfl rfl (by decide +kernel) ⟨Nat.le_of_ble_eq_true rfl, Nat.le_of_ble_eq_true rfl⟩) rfl hl.1 rfl (Nat.le_of_ble_eq_true rfl) dX9_shiftAt_47 ⟨Nat.le_of_ble_eq_true rfl, Nat.le_of_ble_eq_true rfl⟩ (fun _ => Nat.le_of_ble_eq_true rfl) (fun _ => rfl) (fun v u H locs hp hG => ?_)
        subst hp
        refine g_top (w := .int (iI (smN (skS NF y) (gS NF y)))) (congrArg (fun z : Int => Value.int (iI z)) ((by rw [show lg2_25.toNat = gS NF y by omega] <;> exact hf_25.k2 (Nat.le_refl _)))) ?_
        refine lv_goto (tgt := 74) S.1 S.2.1 dX9_shiftAt_50 (by decide) ?_
        have hG : gW K A s.heap [gMdl K am (thr (bI (0 ≤ y ∧ y < NF 4)) (bI (0 ≤ x)) 1) rw lg2_25 mr2_25 en2_25 pw2_25 sl2_25 ly2_25 dn2_25 iz tz nx st tk vl ef ep hO hB ol rm oz, gArr K 95 rw NF, gArr K 60 (am 3) B0_25, gArrZ K 60 (am 4) B1_25, gArr K 60 (am 5) B2_25, gArr K 60 (am 6) B3_25, gArr K 60 (am 7) B4_25, gArr K 60 (am 8) B5_25, gArr K 60 (am 9) B6_25] _ _ := hG
        exact g_iret S hr hlk hQ dX9_shiftAt_74 (Nat.le_of_ble_eq_true rfl) (Nat.le_of_ble_eq_true rfl) ((smN (skS NF y) (gS NF y), lg2_25, mr2_25, en2_25, pw2_25, sl2_25, ly2_25, dn2_25, B0_25, B1_25, B2_25, B3_25, B4_25, B5_25, B6_25) : Int × Int × Int × Int × Int × Int × Int × Int × (Int → Int) × (Int → Int) × (Int → Int) × (Int → Int) × (Int → Int) × (Int → Int) × (Int → Int)) ⟨rfl, (fun _ => by unfold shtN <;> rw [if_pos e9])⟩ hG
    · skip
      refine g_iconst S dX9_shiftAt_21 ?_
      have hG : gW K A s.heap [gMdl K am (thr (bI (0 ≤ y ∧ y < NF 4)) (bI (0 ≤ x)) 1) rw lg mr en pw sl ly dn iz tz nx st tk vl ef ep hO hB ol rm oz, gArr K 95 rw NF, gArr K 60 (am 3) A0, gArrZ K 60 (am 4) A1, gArr K 60 (am 5) A2, gArr K 60 (am 6) A3, gArr K 60 (am 7) A4, gArr K 60 (am 8) A5, gArr K 60 (am 9) A6] _ _ := hG
      exact g_iret S hr hlk hQ dX9_shiftAt_22 (Nat.le_of_ble_eq_true rfl) (Nat.le_of_ble_eq_true rfl) ((0, lg, mr, en, pw, sl, ly, dn, A0, A1, A2, A3, A4, A5, A6) : Int × Int × Int × Int × Int × Int × Int × Int × (Int → Int) × (Int → Int) × (Int → Int) × (Int → Int) × (Int → Int) × (Int → Int) × (Int → Int)) ⟨rfl, (fun h => absurd ⟨bI_t h.1, bI_t h.2⟩ q18)⟩ hG

set_option maxHeartbeats 1000000 in
set_option maxRecDepth 100000 in
theorem c_X9_depthAt (l : Launch) (K : KC) (am : Nat → Nat) (th : Int) (rw : Nat) (lg : Int) (mr : Int) (en : Int) (pw : Int) (sl : Int) (ly : Int) (dn : Int) (iz : Int) (tz : Int) (nx : Int) (st : Int) (tk : Int) (vl : Int) (ef : Int) (ep : Int) (hO : Int) (hB : Int) (ol : Int) (rm : Int) (oz : Int) (NF : Int → Int) (A0 : Int → Int) (A1 : Int → Int) (A2 : Int → Int) (A3 : Int → Int) (A4 : Int → Int) (A5 : Int → Int) (A6 : Int → Int) (y : Int) (x : Int) (hN : NOk0 NF) (hv : -2147483648 ≤ y ∧ y < 2147483648) (hx : -2147483648 ≤ x ∧ x < 2147483648) : mG l yX9_depthAt wsX9_depthAt 6 135 K [.ref (am 0), .int (iI y), .int (iI x)] [gMdl K am th rw lg mr en pw sl ly dn iz tz nx st tk vl ef ep hO hB ol rm oz, gArr K 95 rw NF, gArr K 60 (am 3) A0, gArrZ K 60 (am 4) A1, gArr K 60 (am 5) A2, gArr K 60 (am 6) A3, gArr K 60 (am 7) A4, gArr K 60 (am 8) A5, gArr K 60 (am 9) A6] (fun (v : Value) (u : Int × Int × Int × Int × Int × Int × Int × Int × (Int → Int) × (Int → Int) × (Int → Int) × (Int → Int) × (Int → Int) × (Int → Int) × (Int → Int)) => (v = .int (iI u.1)) ∧ ((0 ≤ y ∧ y < NF 4) ∧ (0 ≤ x) → u.1 = dptN NF y x)) (fun (u : Int × Int × Int × Int × Int × Int × Int × Int × (Int → Int) × (Int → Int) × (Int → Int) × (Int → Int) × (Int → Int) × (Int → Int) × (Int → Int)) => [gMdl K am (thr (bI (0 ≤ y ∧ y < NF 4)) (bI (0 ≤ x)) 1) rw u.2.1 u.2.2.1 u.2.2.2.1 u.2.2.2.2.1 u.2.2.2.2.2.1 u.2.2.2.2.2.2.1 u.2.2.2.2.2.2.2.1 iz tz nx st tk vl ef ep hO hB ol rm oz, gArr K 95 rw NF, gArr K 60 (am 3) u.2.2.2.2.2.2.2.2.1, gArrZ K 60 (am 4) u.2.2.2.2.2.2.2.2.2.1, gArr K 60 (am 5) u.2.2.2.2.2.2.2.2.2.2.1, gArr K 60 (am 6) u.2.2.2.2.2.2.2.2.2.2.2.1, gArr K 60 (am 7) u.2.2.2.2.2.2.2.2.2.2.2.2.1, gArr K 60 (am 8) u.2.2.2.2.2.2.2.2.2.2.2.2.2.1, gArr K 60 (am 9) u.2.2.2.2.2.2.2.2.2.2.2.2.2.2]) 0 0 := by
  refine mG_of cX9_depthAt 6 (by decide) rfl (Nat.le_of_ble_eq_true rfl) ?_
  intro p e s m below meth c A ls Q S C hG hl hr hlk hin hQ
  have S : CallFix p m c cX9_depthAt 6 s ([.ref (am 0), .int (iI y), .int (iI x)] : List Value).toArray wsX9_depthAt RX9 := S
  have iX90 : ∀ w ∈ wsX90, w ∈ wsX9_depthAt := fun _ h => List.mem_cons_of_mem _ (List.mem_append_right _ (h))
  have hl : lv_has ls 6 [(0, .ref (am 0)), (1, .int (iI y)), (2, .int (iI x))] := hl
  have hG : gW K A s.heap [gMdl K am th rw lg mr en pw sl ly dn iz tz nx st tk vl ef ep hO hB ol rm oz, gArr K 95 rw NF, gArr K 60 (am 3) A0, gArrZ K 60 (am 4) A1, gArr K 60 (am 5) A2, gArr K 60 (am 6) A3, gArr K 60 (am 7) A4, gArr K 60 (am 8) A5, gArr K 60 (am 9) A6] s.heap [] := hG
  have n0 := hN.1
  have n3 := hN.2.2.2.1
  refine lv_aload_n S.1 S.2.1 dX9_depthAt_0 rfl (lv_at hl 0 rfl) ?_
  refine lv_aload_n S.1 S.2.1 dX9_depthAt_1 rfl (lv_at hl 0 rfl) ?_
  refine lv_iload_n S.1 S.2.1 dX9_depthAt_2 rfl (lv_at hl 1 rfl) ?_
  refine g_invV (As := [.int (iI y)]) (rest := [.ref (am 0)]) (gs' := (fun u : Unit => [gMdl K am th rw lg mr en pw sl ly dn iz tz nx st tk vl ef ep hO hB ol rm oz, gArr K 95 rw NF, gArr K 60 (am 3) A0, gArrZ K 60 (am 4) A1, gArr K 60 (am 5) A2, gArr K 60 (am 6) A3, gArr K 60 (am 7) A4, gArr K 60 (am 8) A5, gArr K 60 (am 9) A6])) S C hG [0, 1] (c_X9_isShot l K am th rw lg mr en pw sl ly dn iz tz nx st tk vl ef ep hO hB ol rm oz NF y hN hv) rfl rfl 0 rfl rfl (cwV 1 S.2.2.2.2 gX9_depthAt_X9_isShot rfl rfl rfl (by decide +kernel) ⟨Nat.le_of_ble_eq_true rfl, Nat.le_of_ble_eq_true rfl⟩) rfl hl.1 rfl (Nat.le_of_ble_eq_true rfl) dX9_depthAt_3 ⟨Nat.le_of_ble_eq_true rfl, Nat.le_of_ble_eq_true rfl⟩ (fun _ => Nat.le_of_ble_eq_true rfl) (fun _ => rfl) (fun v u H locs hp hG => ?_)
  subst hp
  refine lv_iload_n S.1 S.2.1 dX9_depthAt_6 rfl (lv_at hl 2 rfl) ?_
  refine g_if_lt (tgt := 14) S dX9_depthAt_7 (by decide) (by omega) (fun q7 => ?_) (fun q7 => ?_)
  · skip
    refine g_iconst S dX9_depthAt_14 ?_
    refine g_top (w := .int (iI (bI (0 ≤ x)))) (congrArg (fun z : Int => Value.int (iI z)) ((bI_f (by omega)).symm)) ?_
    refine g_invV (As := [.int (iI (bI (0 ≤ y ∧ y < NF 4))), .int (iI (bI (0 ≤ x)))]) (rest := []) (gs' := (fun u : Unit => [gMdl K am (thr (bI (0 ≤ y ∧ y < NF 4)) (bI (0 ≤ x)) 1) rw lg mr en pw sl ly dn iz tz nx st tk vl ef ep hO hB ol rm oz, gArr K 95 rw NF, gArr K 60 (am 3) A0, gArrZ K 60 (am 4) A1, gArr K 60 (am 5) A2, gArr K 60 (am 6) A3, gArr K 60 (am 7) A4, gArr K 60 (am 8) A5, gArr K 60 (am 9) A6])) S C hG [0] (c_X9_passes2 l K am th rw lg mr en pw sl ly dn iz tz nx st tk vl ef ep hO hB ol rm oz (bI (0 ≤ y ∧ y < NF 4)) (bI (0 ≤ x)) (bI_01 _) (bI_01 _)) rfl rfl 0 rfl rfl (cwV 2 S.2.2.2.2 gX9_depthAt_X9_passes2 rfl rfl rfl (by decide +kernel) ⟨Nat.le_of_ble_eq_true rfl, Nat.le_of_ble_eq_true rfl⟩) rfl hl.1 rfl (Nat.le_of_ble_eq_true rfl) dX9_depthAt_15 ⟨Nat.le_of_ble_eq_true rfl, Nat.le_of_ble_eq_true rfl⟩ (fun _ => Nat.le_of_ble_eq_true rfl) (fun _ => rfl) (fun v u H locs hp hG => ?_)
    subst hp
    refine g_ifne_b (B := ((bI (0 ≤ y ∧ y < NF 4)) = 1 ∧ (bI (0 ≤ x)) = 1)) (tgt := 23) S dX9_depthAt_18 (by decide) (fun q18 => ?_) (fun q18 => ?_)
    · skip
      have qa := bI1 q18.1
      have qb := bI1 q18.2
      refine lv_aload_n S.1 S.2.1 dX9_depthAt_23 rfl (lv_at hl 0 rfl) ?_
      refine lv_iload_n S.1 S.2.1 dX9_depthAt_24 rfl (lv_at hl 1 rfl) ?_
      refine g_invVv (As := [.int (iI y)]) (rest := []) (gs' := (fun u : Int × Int × Int × Int × Int × Int × Int × (Int → Int) × (Int → Int) × (Int → Int) × (Int → Int) × (Int → Int) × (Int → Int) × (Int → Int) => [gMdl K am (thr (bI (0 ≤ y ∧ y < NF 4)) (bI (0 ≤ x)) 1) rw u.1 u.2.1 u.2.2.1 u.2.2.2.1 u.2.2.2.2.1 u.2.2.2.2.2.1 u.2.2.2.2.2.2.1 iz tz nx st tk vl ef ep hO hB ol rm oz, gArr K 95 rw NF, gArr K 60 (am 3) u.2.2.2.2.2.2.2.1, gArrZ K 60 (am 4) u.2.2.2.2.2.2.2.2.1, gArr K 60 (am 5) u.2.2.2.2.2.2.2.2.2.1, gArr K 60 (am 6) u.2.2.2.2.2.2.2.2.2.2.1, gArr K 60 (am 7) u.2.2.2.2.2.2.2.2.2.2.2.1, gArr K 60 (am 8) u.2.2.2.2.2.2.2.2.2.2.2.2.1, gArr K 60 (am 9) u.2.2.2.2.2.2.2.2.2.2.2.2.2])) S C hG [0, 1, 2, 3, 4, 5, 6, 7, 8] (c_X9_followShot l K am (thr (bI (0 ≤ y ∧ y < NF 4)) (bI (0 ≤ x)) 1) rw lg mr en pw sl ly dn iz tz nx st tk vl ef ep hO hB ol rm oz NF A0 A1 A2 A3 A4 A5 A6 y hN qa) rfl rfl 0 rfl rfl (cwV 1 S.2.2.2.2 gX9_depthAt_X9_followShot rfl rfl rfl (by decide +kernel) ⟨Nat.le_of_ble_eq_true rfl, Nat.le_of_ble_eq_true rfl⟩) rfl hl.1 rfl (Nat.le_of_ble_eq_true rfl) dX9_depthAt_25 ⟨Nat.le_of_ble_eq_true rfl, Nat.le_of_ble_eq_true rfl⟩ (fun _ => Nat.le_of_ble_eq_true rfl) (fun _ => rfl) (fun u H locs hp hG => ?_)
      obtain ⟨lg2_25, mr2_25, en2_25, pw2_25, sl2_25, ly2_25, dn2_25, B0_25, B1_25, B2_25, B3_25, B4_25, B5_25, B6_25⟩ := u
      have hf_25 := hp
      have hf_25 : FolS NF y lg2_25 mr2_25 en2_25 pw2_25 B0_25 B1_25 B2_25 B3_25 B4_25 B5_25 B6_25 := hf_25
      have hG : gW K A s.heap [gMdl K am (thr (bI (0 ≤ y ∧ y < NF 4)) (bI (0 ≤ x)) 1) rw lg2_25 mr2_25 en2_25 pw2_25 sl2_25 ly2_25 dn2_25 iz tz nx st tk vl ef ep hO hB ol rm oz, gArr K 95 rw NF, gArr K 60 (am 3) B0_25, gArrZ K 60 (am 4) B1_25, gArr K 60 (am 5) B2_25, gArr K 60 (am 6) B3_25, gArr K 60 (am 7) B4_25, gArr K 60 (am 8) B5_25, gArr K 60 (am 9) B6_25] _ _ := hG
      have sb := sho_bd hN qa.1 qa.2
      obtain ⟨f1, f2, f3, f4⟩ := hf_25.bd hN sb.2.2.1 sb.2.1
      have g9 : lg2_25 = (gS NF y : Int) := hf_25.1
      refine lv_aload_n S.1 S.2.1 dX9_depthAt_28 rfl (lv_at hl 0 rfl) ?_
      refine lv_iload_n S.1 S.2.1 dX9_depthAt_29 rfl (lv_at hl 2 rfl) ?_
      refine g_invV (As := [.int (iI x)]) (rest := []) (gs' := (fun u : Unit => [gMdl K am (thr (bI (0 ≤ y ∧ y < NF 4)) (bI (0 ≤ x)) 1) rw lg2_25 mr2_25 en2_25 pw2_25 sl2_25 ly2_25 dn2_25 iz tz nx st tk vl ef ep hO hB ol rm oz, gArr K 95 rw NF, gArr K 60 (am 3) B0_25, gArrZ K 60 (am 4) B1_25, gArr K 60 (am 5) B2_25, gArr K 60 (am 6) B3_25, gArr K 60 (am 7) B4_25, gArr K 60 (am 8) B5_25, gArr K 60 (am 9) B6_25])) S C hG [0, 6] (c_X9_legNow l K am (thr (bI (0 ≤ y ∧ y < NF 4)) (bI (0 ≤ x)) 1) rw lg2_25 mr2_25 en2_25 pw2_25 sl2_25 ly2_25 dn2_25 iz tz nx st tk vl ef ep hO hB ol rm oz B4_25 x f1 (fun i a b => ⟨by have z := (f4 i a b).2.2.2.2 <;> omega, (f4 i a b).2.2.2.2.2⟩) hx) rfl rfl 0 rfl rfl (cwV 1 S.2.2.2.2 gX9_depthAt_X9_legNow rfl rfl rfl (by decide +kernel) ⟨Nat.le_of_ble_eq_true rfl, Nat.le_of_ble_eq_true rfl⟩) rfl hl.1 rfl (Nat.le_of_ble_eq_true rfl) dX9_depthAt_30 ⟨Nat.le_of_ble_eq_true rfl, Nat.le_of_ble_eq_true rfl⟩ (fun _ => Nat.le_of_ble_eq_true rfl) (fun _ => rfl) (fun v u H locs hp hG => ?_)
      subst hp
      refine g_top (w := .int (iI (legN NF y x))) (congrArg (fun z : Int => Value.int (iI z)) ((hf_25.now x))) ?_
      refine lv_istore_n (lv' := [(3, .int (iI (legN NF y x))), (0, .ref (am 0)), (1, .int (iI y)), (2, .int (iI x))]) S.1 S.2.1 dX9_depthAt_33 rfl hl (by decide) rfl (fun ls hl => ?_)
      have lb9 : -1 ≤ legN NF y x ∧ legN NF y x ≤ 60 := by (have z := (lgK_le NF y x).1 <;> unfold legN <;> split <;> omega)
      refine lv_iload_n S.1 S.2.1 dX9_depthAt_34 rfl (lv_at hl 0 rfl) ?_
      refine g_iconst S dX9_depthAt_35 ?_
      refine g_icmp_ne (tgt := 41) S dX9_depthAt_36 (by decide) (by omega) (by omega) (fun q36 => ?_) (fun q36 => ?_)
      · skip
        have l9 := lgK_le NF y x
        have e9 : ¬ lgK NF y x = gS NF y := fun z => q36 (if_pos z)
        have e8 : legN NF y x = (lgK NF y x : Int) := if_neg e9
        have c9 : lgK NF y x < gS NF y := by omega
        have q4 := f4 (lgK NF y x : Int) (by omega) (by omega)
        obtain ⟨a0, a1, a2, a4⟩ := hf_25.at0 c9
        rw [a0, a1, a2, a4] at q4
        have s9 := smN_nn (f := tqS NF y) (lgK NF y x) (fun i hi => by have z := f4 (i : Int) (by omega) (by omega) <;> rw [(hf_25.at0 (by omega)).2.2.2] at z <;> omega)
        have s8 := l9.2 (lgK NF y x) (Nat.le_refl _) qb
        have n8 : (legN NF y x).toNat = lgK NF y x := by omega
        have s7 := hf_25.k4 l9.1
        have ly := lay_bd hN (y := ykS NF y (lgK NF y x)) (by omega) (by omega)
        refine lv_aload_n S.1 S.2.1 dX9_depthAt_41 rfl (lv_at hl 1 rfl) ?_
        refine g_get S C hG iX90 0 rfl rfl 4 (by decide) (List.mem_of_getElem? (i := 1) rfl) rfl dX9_depthAt_42 ?_
        refine lv_iload_n S.1 S.2.1 dX9_depthAt_45 rfl (lv_at hl 0 rfl) ?_
        refine g_iald S C hG 2 rfl (by omega) (by omega) (by omega) dX9_depthAt_46 ?_
        refine g_top (w := .int (iI (ykS NF y (lgK NF y x)))) (congrArg (fun z : Int => Value.int (iI z)) ((by rw [e8] <;> exact a0))) ?_
        refine lv_istore (lv' := [(4, .int (iI (ykS NF y (lgK NF y x)))), (3, .int (iI (legN NF y x))), (0, .ref (am 0)), (1, .int (iI y)), (2, .int (iI x))]) S.1 S.2.1 dX9_depthAt_47 hl (by decide) rfl (fun ls hl => ?_)
        refine lv_aload_n S.1 S.2.1 dX9_depthAt_49 rfl (lv_at hl 2 rfl) ?_
        refine lv_aload_n S.1 S.2.1 dX9_depthAt_50 rfl (lv_at hl 2 rfl) ?_
        refine lv_iload S.1 S.2.1 dX9_depthAt_51 (lv_at hl 0 rfl) ?_
        refine g_iconst S dX9_depthAt_53 ?_
        refine g_invV (As := [.int (iI (ykS NF y (lgK NF y x))), .int (iI 1)]) (rest := [.ref (am 0)]) (gs' := (fun u : Unit => [gMdl K am (thr (bI (0 ≤ y ∧ y < NF 4)) (bI (0 ≤ x)) 1) rw lg2_25 mr2_25 en2_25 pw2_25 sl2_25 ly2_25 dn2_25 iz tz nx st tk vl ef ep hO hB ol rm oz, gArr K 95 rw NF, gArr K 60 (am 3) B0_25, gArrZ K 60 (am 4) B1_25, gArr K 60 (am 5) B2_25, gArr K 60 (am 6) B3_25, gArr K 60 (am 7) B4_25, gArr K 60 (am 8) B5_25, gArr K 60 (am 9) B6_25])) S C hG [0, 1] (c_X9_ofLayer l K am (thr (bI (0 ≤ y ∧ y < NF 4)) (bI (0 ≤ x)) 1) rw lg2_25 mr2_25 en2_25 pw2_25 sl2_25 ly2_25 dn2_25 iz tz nx st tk vl ef ep hO hB ol rm oz NF (ykS NF y (lgK NF y x)) 1 (by omega) (by decide)) rfl rfl 0 rfl rfl (cwV 2 S.2.2.2.2 gX9_depthAt_X9_ofLayer rfl rfl rfl (by decide +kernel) ⟨Nat.le_of_ble_eq_true rfl, Nat.le_of_ble_eq_true rfl⟩) rfl hl.1 rfl (Nat.le_of_ble_eq_true rfl) dX9_depthAt_54 ⟨Nat.le_of_ble_eq_true rfl, Nat.le_of_ble_eq_true rfl⟩ (fun _ => Nat.le_of_ble_eq_true rfl) (fun _ => rfl) (fun v u H locs hp hG => ?_)
        subst hp
        refine g_top (w := .int (iI (dX NF (ykS NF y (lgK NF y x))))) (congrArg (fun z : Int => Value.int (iI z)) (rfl)) ?_
        refine lv_iload_n S.1 S.2.1 dX9_depthAt_57 rfl (lv_at hl 1 rfl) ?_
        refine lv_iload_n S.1 S.2.1 dX9_depthAt_58 rfl (lv_at hl 4 rfl) ?_
        refine g_invV (As := [.int (iI (dX NF (ykS NF y (lgK NF y x)))), .int (iI (legN NF y x)), .int (iI x)]) (rest := []) (gs' := (fun u : Unit => [gMdl K am (thr (bI (0 ≤ y ∧ y < NF 4)) (bI (0 ≤ x)) 1) rw lg2_25 mr2_25 en2_25 pw2_25 sl2_25 ly2_25 dn2_25 iz tz nx st tk vl ef ep hO hB ol rm oz, gArr K 95 rw NF, gArr K 60 (am 3) B0_25, gArrZ K 60 (am 4) B1_25, gArr K 60 (am 5) B2_25, gArr K 60 (am 6) B3_25, gArr K 60 (am 7) B4_25, gArr K 60 (am 8) B5_25, gArr K 60 (am 9) B6_25])) S C hG [0, 6] (c_X9_partOf l K am (thr (bI (0 ≤ y ∧ y < NF 4)) (bI (0 ≤ x)) 1) rw lg2_25 mr2_25 en2_25 pw2_25 sl2_25 ly2_25 dn2_25 iz tz nx st tk vl ef ep hO hB ol rm oz B4_25 (dX NF (ykS NF y (lgK NF y x))) (legN NF y x) x (by omega) (by omega) (by rw [n8, s7] <;> omega) (by rw [e8, a4] <;> omega) hx) rfl rfl 0 rfl rfl (cwV 3 S.2.2.2.2 gX9_depthAt_X9_partOf rfl rfl rfl (by decide +kernel) ⟨Nat.le_of_ble_eq_true rfl, Nat.le_of_ble_eq_true rfl⟩) rfl hl.1 rfl (Nat.le_of_ble_eq_true rfl) dX9_depthAt_59 ⟨Nat.le_of_ble_eq_true rfl, Nat.le_of_ble_eq_true rfl⟩ (fun _ => Nat.le_of_ble_eq_true rfl) (fun _ => rfl) (fun v u H locs hp hG => ?_)
        subst hp
        refine g_top (w := .int (iI (dX NF (ykS NF y (lgK NF y x)) * (x - smN (tqS NF y) (lgK NF y x)) / tqS NF y (lgK NF y x)))) (congrArg (fun z : Int => Value.int (iI z)) ((by rw [n8, s7, e8, a4]))) ?_
        refine lv_istore (lv' := [(5, .int (iI (dX NF (ykS NF y (lgK NF y x)) * (x - smN (tqS NF y) (lgK NF y x)) / tqS NF y (lgK NF y x)))), (4, .int (iI (ykS NF y (lgK NF y x)))), (3, .int (iI (legN NF y x))), (0, .ref (am 0)), (1, .int (iI y)), (2, .int (iI x))]) S.1 S.2.1 dX9_depthAt_62 hl (by decide) rfl (fun ls hl => ?_)
        refine lv_aload_n S.1 S.2.1 dX9_depthAt_64 rfl (lv_at hl 3 rfl) ?_
        refine g_get S C hG iX90 0 rfl rfl 5 (by decide) (List.mem_of_getElem? (i := 2) rfl) rfl dX9_depthAt_65 ?_
        refine lv_iload_n S.1 S.2.1 dX9_depthAt_68 rfl (lv_at hl 2 rfl) ?_
        refine g_zald S C hG 3 rfl (by omega) (by omega) (by omega) dX9_depthAt_69 ?_
        refine g_top (w := .int (iI (ekS NF y (lgK NF y x)))) (congrArg (fun z : Int => Value.int (iI z)) ((by rw [e8] <;> exact a1))) ?_
        refine g_if_eq (tgt := 85) S dX9_depthAt_70 (by decide) (by omega) (fun q70 => ?_) (fun q70 => ?_)
        · skip
          refine lv_aload_n S.1 S.2.1 dX9_depthAt_85 rfl (lv_at hl 3 rfl) ?_
          refine lv_iload S.1 S.2.1 dX9_depthAt_86 (lv_at hl 1 rfl) ?_
          refine g_iconst S dX9_depthAt_88 ?_
          refine g_iadd S dX9_depthAt_89 rfl ?_
          refine g_invV (As := [.int (iI ((ykS NF y (lgK NF y x)) + 1))]) (rest := []) (gs' := (fun u : Unit => [gMdl K am (thr (bI (0 ≤ y ∧ y < NF 4)) (bI (0 ≤ x)) 1) rw lg2_25 mr2_25 en2_25 pw2_25 sl2_25 ly2_25 dn2_25 iz tz nx st tk vl ef ep hO hB ol rm oz, gArr K 95 rw NF, gArr K 60 (am 3) B0_25, gArrZ K 60 (am 4) B1_25, gArr K 60 (am 5) B2_25, gArr K 60 (am 6) B3_25, gArr K 60 (am 7) B4_25, gArr K 60 (am 8) B5_25, gArr K 60 (am 9) B6_25])) S C hG [0, 1] (c_X9_depthOf l K am (thr (bI (0 ≤ y ∧ y < NF 4)) (bI (0 ≤ x)) 1) rw lg2_25 mr2_25 en2_25 pw2_25 sl2_25 ly2_25 dn2_25 iz tz nx st tk vl ef ep hO hB ol rm oz NF ((ykS NF y (lgK NF y x)) + 1) hN (by omega)) rfl rfl 0 rfl rfl (cwV 1 S.2.2.2.2 gX9_depthAt_X9_depthOf rfl rfl rfl (by decide +kernel) ⟨Nat.le_of_ble_eq_true rfl, Nat.le_of_ble_eq_true rfl⟩) rfl hl.1 rfl (Nat.le_of_ble_eq_true rfl) dX9_depthAt_90 ⟨Nat.le_of_ble_eq_true rfl, Nat.le_of_ble_eq_true rfl⟩ (fun _ => Nat.le_of_ble_eq_true rfl) (fun _ => rfl) (fun v u H locs hp hG => ?_)
          subst hp
          refine lv_iload S.1 S.2.1 dX9_depthAt_93 (lv_at hl 0 rfl) ?_
          refine g_isub S dX9_depthAt_95 rfl ?_
          have hG : gW K A s.heap [gMdl K am (thr (bI (0 ≤ y ∧ y < NF 4)) (bI (0 ≤ x)) 1) rw lg2_25 mr2_25 en2_25 pw2_25 sl2_25 ly2_25 dn2_25 iz tz nx st tk vl ef ep hO hB ol rm oz, gArr K 95 rw NF, gArr K 60 (am 3) B0_25, gArrZ K 60 (am 4) B1_25, gArr K 60 (am 5) B2_25, gArr K 60 (am 6) B3_25, gArr K 60 (am 7) B4_25, gArr K 60 (am 8) B5_25, gArr K 60 (am 9) B6_25] _ _ := hG
          exact g_iret S hr hlk hQ dX9_depthAt_96 (Nat.le_of_ble_eq_true rfl) (Nat.le_of_ble_eq_true rfl) (((depN NF ((ykS NF y (lgK NF y x)) + 1).toNat) - (dX NF (ykS NF y (lgK NF y x)) * (x - smN (tqS NF y) (lgK NF y x)) / tqS NF y (lgK NF y x)), lg2_25, mr2_25, en2_25, pw2_25, sl2_25, ly2_25, dn2_25, B0_25, B1_25, B2_25, B3_25, B4_25, B5_25, B6_25) : Int × Int × Int × Int × Int × Int × Int × Int × (Int → Int) × (Int → Int) × (Int → Int) × (Int → Int) × (Int → Int) × (Int → Int) × (Int → Int)) ⟨rfl, (fun _ => by unfold dptN <;> rw [if_neg e9, if_neg (by omega)])⟩ hG
        · skip
          refine lv_aload_n S.1 S.2.1 dX9_depthAt_73 rfl (lv_at hl 3 rfl) ?_
          refine lv_iload S.1 S.2.1 dX9_depthAt_74 (lv_at hl 1 rfl) ?_
          refine g_invV (As := [.int (iI (ykS NF y (lgK NF y x)))]) (rest := []) (gs' := (fun u : Unit => [gMdl K am (thr (bI (0 ≤ y ∧ y < NF 4)) (bI (0 ≤ x)) 1) rw lg2_25 mr2_25 en2_25 pw2_25 sl2_25 ly2_25 dn2_25 iz tz nx st tk vl ef ep hO hB ol rm oz, gArr K 95 rw NF, gArr K 60 (am 3) B0_25, gArrZ K 60 (am 4) B1_25, gArr K 60 (am 5) B2_25, gArr K 60 (am 6) B3_25, gArr K 60 (am 7) B4_25, gArr K 60 (am 8) B5_25, gArr K 60 (am 9) B6_25])) S C hG [0, 1] (c_X9_depthOf l K am (thr (bI (0 ≤ y ∧ y < NF 4)) (bI (0 ≤ x)) 1) rw lg2_25 mr2_25 en2_25 pw2_25 sl2_25 ly2_25 dn2_25 iz tz nx st tk vl ef ep hO hB ol rm oz NF (ykS NF y (lgK NF y x)) hN (by omega)) rfl rfl 0 rfl rfl (cwV 1 S.2.2.2.2 gX9_depthAt_X9_depthOf rfl rfl rfl (by decide +kernel) ⟨Nat.le_of_ble_eq_true rfl, Nat.le_of_ble_eq_true rfl⟩) rfl hl.1 rfl (Nat.le_of_ble_eq_true rfl) dX9_depthAt_76 ⟨Nat.le_of_ble_eq_true rfl, Nat.le_of_ble_eq_true rfl⟩ (fun _ => Nat.le_of_ble_eq_true rfl) (fun _ => rfl) (fun v u H locs hp hG => ?_)
          subst hp
          refine lv_iload S.1 S.2.1 dX9_depthAt_79 (lv_at hl 0 rfl) ?_
          refine g_iadd S dX9_depthAt_81 rfl ?_
          refine lv_goto (tgt := 96) S.1 S.2.1 dX9_depthAt_82 (by decide) ?_
          have hG : gW K A s.heap [gMdl K am (thr (bI (0 ≤ y ∧ y < NF 4)) (bI (0 ≤ x)) 1) rw lg2_25 mr2_25 en2_25 pw2_25 sl2_25 ly2_25 dn2_25 iz tz nx st tk vl ef ep hO hB ol rm oz, gArr K 95 rw NF, gArr K 60 (am 3) B0_25, gArrZ K 60 (am 4) B1_25, gArr K 60 (am 5) B2_25, gArr K 60 (am 6) B3_25, gArr K 60 (am 7) B4_25, gArr K 60 (am 8) B5_25, gArr K 60 (am 9) B6_25] _ _ := hG
          exact g_iret S hr hlk hQ dX9_depthAt_96 (Nat.le_of_ble_eq_true rfl) (Nat.le_of_ble_eq_true rfl) (((depN NF (ykS NF y (lgK NF y x)).toNat) + (dX NF (ykS NF y (lgK NF y x)) * (x - smN (tqS NF y) (lgK NF y x)) / tqS NF y (lgK NF y x)), lg2_25, mr2_25, en2_25, pw2_25, sl2_25, ly2_25, dn2_25, B0_25, B1_25, B2_25, B3_25, B4_25, B5_25, B6_25) : Int × Int × Int × Int × Int × Int × Int × Int × (Int → Int) × (Int → Int) × (Int → Int) × (Int → Int) × (Int → Int) × (Int → Int) × (Int → Int)) ⟨rfl, (fun _ => by unfold dptN <;> rw [if_neg e9, if_pos (by omega)])⟩ hG
      · skip
        have e9 : lgK NF y x = gS NF y := by (have l9 := lgK_le NF y x <;> unfold legN at q36 <;> split at q36 <;> omega)
        refine g_iconst S dX9_depthAt_39 ?_
        have hG : gW K A s.heap [gMdl K am (thr (bI (0 ≤ y ∧ y < NF 4)) (bI (0 ≤ x)) 1) rw lg2_25 mr2_25 en2_25 pw2_25 sl2_25 ly2_25 dn2_25 iz tz nx st tk vl ef ep hO hB ol rm oz, gArr K 95 rw NF, gArr K 60 (am 3) B0_25, gArrZ K 60 (am 4) B1_25, gArr K 60 (am 5) B2_25, gArr K 60 (am 6) B3_25, gArr K 60 (am 7) B4_25, gArr K 60 (am 8) B5_25, gArr K 60 (am 9) B6_25] _ _ := hG
        exact g_iret S hr hlk hQ dX9_depthAt_40 (Nat.le_of_ble_eq_true rfl) (Nat.le_of_ble_eq_true rfl) (((-1), lg2_25, mr2_25, en2_25, pw2_25, sl2_25, ly2_25, dn2_25, B0_25, B1_25, B2_25, B3_25, B4_25, B5_25, B6_25) : Int × Int × Int × Int × Int × Int × Int × Int × (Int → Int) × (Int → Int) × (Int → Int) × (Int → Int) × (Int → Int) × (Int → Int) × (Int → Int)) ⟨rfl, (fun _ => by unfold dptN <;> rw [if_pos e9])⟩ hG
    · skip
      refine g_iconst S dX9_depthAt_21 ?_
      have hG : gW K A s.heap [gMdl K am (thr (bI (0 ≤ y ∧ y < NF 4)) (bI (0 ≤ x)) 1) rw lg mr en pw sl ly dn iz tz nx st tk vl ef ep hO hB ol rm oz, gArr K 95 rw NF, gArr K 60 (am 3) A0, gArrZ K 60 (am 4) A1, gArr K 60 (am 5) A2, gArr K 60 (am 6) A3, gArr K 60 (am 7) A4, gArr K 60 (am 8) A5, gArr K 60 (am 9) A6] _ _ := hG
      exact g_iret S hr hlk hQ dX9_depthAt_22 (Nat.le_of_ble_eq_true rfl) (Nat.le_of_ble_eq_true rfl) ((0, lg, mr, en, pw, sl, ly, dn, A0, A1, A2, A3, A4, A5, A6) : Int × Int × Int × Int × Int × Int × Int × Int × (Int → Int) × (Int → Int) × (Int → Int) × (Int → Int) × (Int → Int) × (Int → Int) × (Int → Int)) ⟨rfl, (fun h => absurd ⟨bI_t h.1, bI_t h.2⟩ q18)⟩ hG
  · skip
    refine g_iconst S dX9_depthAt_10 ?_
    refine g_top (w := .int (iI (bI (0 ≤ x)))) (congrArg (fun z : Int => Value.int (iI z)) ((bI_t (by omega)).symm)) ?_
    refine lv_goto (tgt := 15) S.1 S.2.1 dX9_depthAt_11 (by decide) ?_
    refine g_invV (As := [.int (iI (bI (0 ≤ y ∧ y < NF 4))), .int (iI (bI (0 ≤ x)))]) (rest := []) (gs' := (fun u : Unit => [gMdl K am (thr (bI (0 ≤ y ∧ y < NF 4)) (bI (0 ≤ x)) 1) rw lg mr en pw sl ly dn iz tz nx st tk vl ef ep hO hB ol rm oz, gArr K 95 rw NF, gArr K 60 (am 3) A0, gArrZ K 60 (am 4) A1, gArr K 60 (am 5) A2, gArr K 60 (am 6) A3, gArr K 60 (am 7) A4, gArr K 60 (am 8) A5, gArr K 60 (am 9) A6])) S C hG [0] (c_X9_passes2 l K am th rw lg mr en pw sl ly dn iz tz nx st tk vl ef ep hO hB ol rm oz (bI (0 ≤ y ∧ y < NF 4)) (bI (0 ≤ x)) (bI_01 _) (bI_01 _)) rfl rfl 0 rfl rfl (cwV 2 S.2.2.2.2 gX9_depthAt_X9_passes2 rfl rfl rfl (by decide +kernel) ⟨Nat.le_of_ble_eq_true rfl, Nat.le_of_ble_eq_true rfl⟩) rfl hl.1 rfl (Nat.le_of_ble_eq_true rfl) dX9_depthAt_15 ⟨Nat.le_of_ble_eq_true rfl, Nat.le_of_ble_eq_true rfl⟩ (fun _ => Nat.le_of_ble_eq_true rfl) (fun _ => rfl) (fun v u H locs hp hG => ?_)
    subst hp
    refine g_ifne_b (B := ((bI (0 ≤ y ∧ y < NF 4)) = 1 ∧ (bI (0 ≤ x)) = 1)) (tgt := 23) S dX9_depthAt_18 (by decide) (fun q18 => ?_) (fun q18 => ?_)
    · skip
      have qa := bI1 q18.1
      have qb := bI1 q18.2
      refine lv_aload_n S.1 S.2.1 dX9_depthAt_23 rfl (lv_at hl 0 rfl) ?_
      refine lv_iload_n S.1 S.2.1 dX9_depthAt_24 rfl (lv_at hl 1 rfl) ?_
      refine g_invVv (As := [.int (iI y)]) (rest := []) (gs' := (fun u : Int × Int × Int × Int × Int × Int × Int × (Int → Int) × (Int → Int) × (Int → Int) × (Int → Int) × (Int → Int) × (Int → Int) × (Int → Int) => [gMdl K am (thr (bI (0 ≤ y ∧ y < NF 4)) (bI (0 ≤ x)) 1) rw u.1 u.2.1 u.2.2.1 u.2.2.2.1 u.2.2.2.2.1 u.2.2.2.2.2.1 u.2.2.2.2.2.2.1 iz tz nx st tk vl ef ep hO hB ol rm oz, gArr K 95 rw NF, gArr K 60 (am 3) u.2.2.2.2.2.2.2.1, gArrZ K 60 (am 4) u.2.2.2.2.2.2.2.2.1, gArr K 60 (am 5) u.2.2.2.2.2.2.2.2.2.1, gArr K 60 (am 6) u.2.2.2.2.2.2.2.2.2.2.1, gArr K 60 (am 7) u.2.2.2.2.2.2.2.2.2.2.2.1, gArr K 60 (am 8) u.2.2.2.2.2.2.2.2.2.2.2.2.1, gArr K 60 (am 9) u.2.2.2.2.2.2.2.2.2.2.2.2.2])) S C hG [0, 1, 2, 3, 4, 5, 6, 7, 8] (c_X9_followShot l K am (thr (bI (0 ≤ y ∧ y < NF 4)) (bI (0 ≤ x)) 1) rw lg mr en pw sl ly dn iz tz nx st tk vl ef ep hO hB ol rm oz NF A0 A1 A2 A3 A4 A5 A6 y hN qa) rfl rfl 0 rfl rfl (cwV 1 S.2.2.2.2 gX9_depthAt_X9_followShot rfl rfl rfl (by decide +kernel) ⟨Nat.le_of_ble_eq_true rfl, Nat.le_of_ble_eq_true rfl⟩) rfl hl.1 rfl (Nat.le_of_ble_eq_true rfl) dX9_depthAt_25 ⟨Nat.le_of_ble_eq_true rfl, Nat.le_of_ble_eq_true rfl⟩ (fun _ => Nat.le_of_ble_eq_true rfl) (fun _ => rfl) (fun u H locs hp hG => ?_)
      obtain ⟨lg2_25, mr2_25, en2_25, pw2_25, sl2_25, ly2_25, dn2_25, B0_25, B1_25, B2_25, B3_25, B4_25, B5_25, B6_25⟩ := u
      have hf_25 := hp
      have hf_25 : FolS NF y lg2_25 mr2_25 en2_25 pw2_25 B0_25 B1_25 B2_25 B3_25 B4_25 B5_25 B6_25 := hf_25
      have hG : gW K A s.heap [gMdl K am (thr (bI (0 ≤ y ∧ y < NF 4)) (bI (0 ≤ x)) 1) rw lg2_25 mr2_25 en2_25 pw2_25 sl2_25 ly2_25 dn2_25 iz tz nx st tk vl ef ep hO hB ol rm oz, gArr K 95 rw NF, gArr K 60 (am 3) B0_25, gArrZ K 60 (am 4) B1_25, gArr K 60 (am 5) B2_25, gArr K 60 (am 6) B3_25, gArr K 60 (am 7) B4_25, gArr K 60 (am 8) B5_25, gArr K 60 (am 9) B6_25] _ _ := hG
      have sb := sho_bd hN qa.1 qa.2
      obtain ⟨f1, f2, f3, f4⟩ := hf_25.bd hN sb.2.2.1 sb.2.1
      have g9 : lg2_25 = (gS NF y : Int) := hf_25.1
      refine lv_aload_n S.1 S.2.1 dX9_depthAt_28 rfl (lv_at hl 0 rfl) ?_
      refine lv_iload_n S.1 S.2.1 dX9_depthAt_29 rfl (lv_at hl 2 rfl) ?_
      refine g_invV (As := [.int (iI x)]) (rest := []) (gs' := (fun u : Unit => [gMdl K am (thr (bI (0 ≤ y ∧ y < NF 4)) (bI (0 ≤ x)) 1) rw lg2_25 mr2_25 en2_25 pw2_25 sl2_25 ly2_25 dn2_25 iz tz nx st tk vl ef ep hO hB ol rm oz, gArr K 95 rw NF, gArr K 60 (am 3) B0_25, gArrZ K 60 (am 4) B1_25, gArr K 60 (am 5) B2_25, gArr K 60 (am 6) B3_25, gArr K 60 (am 7) B4_25, gArr K 60 (am 8) B5_25, gArr K 60 (am 9) B6_25])) S C hG [0, 6] (c_X9_legNow l K am (thr (bI (0 ≤ y ∧ y < NF 4)) (bI (0 ≤ x)) 1) rw lg2_25 mr2_25 en2_25 pw2_25 sl2_25 ly2_25 dn2_25 iz tz nx st tk vl ef ep hO hB ol rm oz B4_25 x f1 (fun i a b => ⟨by have z := (f4 i a b).2.2.2.2 <;> omega, (f4 i a b).2.2.2.2.2⟩) hx) rfl rfl 0 rfl rfl (cwV 1 S.2.2.2.2 gX9_depthAt_X9_legNow rfl rfl rfl (by decide +kernel) ⟨Nat.le_of_ble_eq_true rfl, Nat.le_of_ble_eq_true rfl⟩) rfl hl.1 rfl (Nat.le_of_ble_eq_true rfl) dX9_depthAt_30 ⟨Nat.le_of_ble_eq_true rfl, Nat.le_of_ble_eq_true rfl⟩ (fun _ => Nat.le_of_ble_eq_true rfl) (fun _ => rfl) (fun v u H locs hp hG => ?_)
      subst hp
      refine g_top (w := .int (iI (legN NF y x))) (congrArg (fun z : Int => Value.int (iI z)) ((hf_25.now x))) ?_
      refine lv_istore_n (lv' := [(3, .int (iI (legN NF y x))), (0, .ref (am 0)), (1, .int (iI y)), (2, .int (iI x))]) S.1 S.2.1 dX9_depthAt_33 rfl hl (by decide) rfl (fun ls hl => ?_)
      have lb9 : -1 ≤ legN NF y x ∧ legN NF y x ≤ 60 := by (have z := (lgK_le NF y x).1 <;> unfold legN <;> split <;> omega)
      refine lv_iload_n S.1 S.2.1 dX9_depthAt_34 rfl (lv_at hl 0 rfl) ?_
      refine g_iconst S dX9_depthAt_35 ?_
      refine g_icmp_ne (tgt := 41) S dX9_depthAt_36 (by decide) (by omega) (by omega) (fun q36 => ?_) (fun q36 => ?_)
      · skip
        have l9 := lgK_le NF y x
        have e9 : ¬ lgK NF y x = gS NF y := fun z => q36 (if_pos z)
        have e8 : legN NF y x = (lgK NF y x : Int) := if_neg e9
        have c9 : lgK NF y x < gS NF y := by omega
        have q4 := f4 (lgK NF y x : Int) (by omega) (by omega)
        obtain ⟨a0, a1, a2, a4⟩ := hf_25.at0 c9
        rw [a0, a1, a2, a4] at q4
        have s9 := smN_nn (f := tqS NF y) (lgK NF y x) (fun i hi => by have z := f4 (i : Int) (by omega) (by omega) <;> rw [(hf_25.at0 (by omega)).2.2.2] at z <;> omega)
        have s8 := l9.2 (lgK NF y x) (Nat.le_refl _) qb
        have n8 : (legN NF y x).toNat = lgK NF y x := by omega
        have s7 := hf_25.k4 l9.1
        have ly := lay_bd hN (y := ykS NF y (lgK NF y x)) (by omega) (by omega)
        refine lv_aload_n S.1 S.2.1 dX9_depthAt_41 rfl (lv_at hl 1 rfl) ?_
        refine g_get S C hG iX90 0 rfl rfl 4 (by decide) (List.mem_of_getElem? (i := 1) rfl) rfl dX9_depthAt_42 ?_
        refine lv_iload_n S.1 S.2.1 dX9_depthAt_45 rfl (lv_at hl 0 rfl) ?_
        refine g_iald S C hG 2 rfl (by omega) (by omega) (by omega) dX9_depthAt_46 ?_
        refine g_top (w := .int (iI (ykS NF y (lgK NF y x)))) (congrArg (fun z : Int => Value.int (iI z)) ((by rw [e8] <;> exact a0))) ?_
        refine lv_istore (lv' := [(4, .int (iI (ykS NF y (lgK NF y x)))), (3, .int (iI (legN NF y x))), (0, .ref (am 0)), (1, .int (iI y)), (2, .int (iI x))]) S.1 S.2.1 dX9_depthAt_47 hl (by decide) rfl (fun ls hl => ?_)
        refine lv_aload_n S.1 S.2.1 dX9_depthAt_49 rfl (lv_at hl 2 rfl) ?_
        refine lv_aload_n S.1 S.2.1 dX9_depthAt_50 rfl (lv_at hl 2 rfl) ?_
        refine lv_iload S.1 S.2.1 dX9_depthAt_51 (lv_at hl 0 rfl) ?_
        refine g_iconst S dX9_depthAt_53 ?_
        refine g_invV (As := [.int (iI (ykS NF y (lgK NF y x))), .int (iI 1)]) (rest := [.ref (am 0)]) (gs' := (fun u : Unit => [gMdl K am (thr (bI (0 ≤ y ∧ y < NF 4)) (bI (0 ≤ x)) 1) rw lg2_25 mr2_25 en2_25 pw2_25 sl2_25 ly2_25 dn2_25 iz tz nx st tk vl ef ep hO hB ol rm oz, gArr K 95 rw NF, gArr K 60 (am 3) B0_25, gArrZ K 60 (am 4) B1_25, gArr K 60 (am 5) B2_25, gArr K 60 (am 6) B3_25, gArr K 60 (am 7) B4_25, gArr K 60 (am 8) B5_25, gArr K 60 (am 9) B6_25])) S C hG [0, 1] (c_X9_ofLayer l K am (thr (bI (0 ≤ y ∧ y < NF 4)) (bI (0 ≤ x)) 1) rw lg2_25 mr2_25 en2_25 pw2_25 sl2_25 ly2_25 dn2_25 iz tz nx st tk vl ef ep hO hB ol rm oz NF (ykS NF y (lgK NF y x)) 1 (by omega) (by decide)) rfl rfl 0 rfl rfl (cwV 2 S.2.2.2.2 gX9_depthAt_X9_ofLayer rfl rfl rfl (by decide +kernel) ⟨Nat.le_of_ble_eq_true rfl, Nat.le_of_ble_eq_true rfl⟩) rfl hl.1 rfl (Nat.le_of_ble_eq_true rfl) dX9_depthAt_54 ⟨Nat.le_of_ble_eq_true rfl, Nat.le_of_ble_eq_true rfl⟩ (fun _ => Nat.le_of_ble_eq_true rfl) (fun _ => rfl) (fun v u H locs hp hG => ?_)
        subst hp
        refine g_top (w := .int (iI (dX NF (ykS NF y (lgK NF y x))))) (congrArg (fun z : Int => Value.int (iI z)) (rfl)) ?_
        refine lv_iload_n S.1 S.2.1 dX9_depthAt_57 rfl (lv_at hl 1 rfl) ?_
        refine lv_iload_n S.1 S.2.1 dX9_depthAt_58 rfl (lv_at hl 4 rfl) ?_
        refine g_invV (As := [.int (iI (dX NF (ykS NF y (lgK NF y x)))), .int (iI (legN NF y x)), .int (iI x)]) (rest := []) (gs' := (fun u : Unit => [gMdl K am (thr (bI (0 ≤ y ∧ y < NF 4)) (bI (0 ≤ x)) 1) rw lg2_25 mr2_25 en2_25 pw2_25 sl2_25 ly2_25 dn2_25 iz tz nx st tk vl ef ep hO hB ol rm oz, gArr K 95 rw NF, gArr K 60 (am 3) B0_25, gArrZ K 60 (am 4) B1_25, gArr K 60 (am 5) B2_25, gArr K 60 (am 6) B3_25, gArr K 60 (am 7) B4_25, gArr K 60 (am 8) B5_25, gArr K 60 (am 9) B6_25])) S C hG [0, 6] (c_X9_partOf l K am (thr (bI (0 ≤ y ∧ y < NF 4)) (bI (0 ≤ x)) 1) rw lg2_25 mr2_25 en2_25 pw2_25 sl2_25 ly2_25 dn2_25 iz tz nx st tk vl ef ep hO hB ol rm oz B4_25 (dX NF (ykS NF y (lgK NF y x))) (legN NF y x) x (by omega) (by omega) (by rw [n8, s7] <;> omega) (by rw [e8, a4] <;> omega) hx) rfl rfl 0 rfl rfl (cwV 3 S.2.2.2.2 gX9_depthAt_X9_partOf rfl rfl rfl (by decide +kernel) ⟨Nat.le_of_ble_eq_true rfl, Nat.le_of_ble_eq_true rfl⟩) rfl hl.1 rfl (Nat.le_of_ble_eq_true rfl) dX9_depthAt_59 ⟨Nat.le_of_ble_eq_true rfl, Nat.le_of_ble_eq_true rfl⟩ (fun _ => Nat.le_of_ble_eq_true rfl) (fun _ => rfl) (fun v u H locs hp hG => ?_)
        subst hp
        refine g_top (w := .int (iI (dX NF (ykS NF y (lgK NF y x)) * (x - smN (tqS NF y) (lgK NF y x)) / tqS NF y (lgK NF y x)))) (congrArg (fun z : Int => Value.int (iI z)) ((by rw [n8, s7, e8, a4]))) ?_
        refine lv_istore (lv' := [(5, .int (iI (dX NF (ykS NF y (lgK NF y x)) * (x - smN (tqS NF y) (lgK NF y x)) / tqS NF y (lgK NF y x)))), (4, .int (iI (ykS NF y (lgK NF y x)))), (3, .int (iI (legN NF y x))), (0, .ref (am 0)), (1, .int (iI y)), (2, .int (iI x))]) S.1 S.2.1 dX9_depthAt_62 hl (by decide) rfl (fun ls hl => ?_)
        refine lv_aload_n S.1 S.2.1 dX9_depthAt_64 rfl (lv_at hl 3 rfl) ?_
        refine g_get S C hG iX90 0 rfl rfl 5 (by decide) (List.mem_of_getElem? (i := 2) rfl) rfl dX9_depthAt_65 ?_
        refine lv_iload_n S.1 S.2.1 dX9_depthAt_68 rfl (lv_at hl 2 rfl) ?_
        refine g_zald S C hG 3 rfl (by omega) (by omega) (by omega) dX9_depthAt_69 ?_
        refine g_top (w := .int (iI (ekS NF y (lgK NF y x)))) (congrArg (fun z : Int => Value.int (iI z)) ((by rw [e8] <;> exact a1))) ?_
        refine g_if_eq (tgt := 85) S dX9_depthAt_70 (by decide) (by omega) (fun q70 => ?_) (fun q70 => ?_)
        · skip
          refine lv_aload_n S.1 S.2.1 dX9_depthAt_85 rfl (lv_at hl 3 rfl) ?_
          refine lv_iload S.1 S.2.1 dX9_depthAt_86 (lv_at hl 1 rfl) ?_
          refine g_iconst S dX9_depthAt_88 ?_
          refine g_iadd S dX9_depthAt_89 rfl ?_
          refine g_invV (As := [.int (iI ((ykS NF y (lgK NF y x)) + 1))]) (rest := []) (gs' := (fun u : Unit => [gMdl K am (thr (bI (0 ≤ y ∧ y < NF 4)) (bI (0 ≤ x)) 1) rw lg2_25 mr2_25 en2_25 pw2_25 sl2_25 ly2_25 dn2_25 iz tz nx st tk vl ef ep hO hB ol rm oz, gArr K 95 rw NF, gArr K 60 (am 3) B0_25, gArrZ K 60 (am 4) B1_25, gArr K 60 (am 5) B2_25, gArr K 60 (am 6) B3_25, gArr K 60 (am 7) B4_25, gArr K 60 (am 8) B5_25, gArr K 60 (am 9) B6_25])) S C hG [0, 1] (c_X9_depthOf l K am (thr (bI (0 ≤ y ∧ y < NF 4)) (bI (0 ≤ x)) 1) rw lg2_25 mr2_25 en2_25 pw2_25 sl2_25 ly2_25 dn2_25 iz tz nx st tk vl ef ep hO hB ol rm oz NF ((ykS NF y (lgK NF y x)) + 1) hN (by omega)) rfl rfl 0 rfl rfl (cwV 1 S.2.2.2.2 gX9_depthAt_X9_depthOf rfl rfl rfl (by decide +kernel) ⟨Nat.le_of_ble_eq_true rfl, Nat.le_of_ble_eq_true rfl⟩) rfl hl.1 rfl (Nat.le_of_ble_eq_true rfl) dX9_depthAt_90 ⟨Nat.le_of_ble_eq_true rfl, Nat.le_of_ble_eq_true rfl⟩ (fun _ => Nat.le_of_ble_eq_true rfl) (fun _ => rfl) (fun v u H locs hp hG => ?_)
          subst hp
          refine lv_iload S.1 S.2.1 dX9_depthAt_93 (lv_at hl 0 rfl) ?_
          refine g_isub S dX9_depthAt_95 rfl ?_
          have hG : gW K A s.heap [gMdl K am (thr (bI (0 ≤ y ∧ y < NF 4)) (bI (0 ≤ x)) 1) rw lg2_25 mr2_25 en2_25 pw2_25 sl2_25 ly2_25 dn2_25 iz tz nx st tk vl ef ep hO hB ol rm oz, gArr K 95 rw NF, gArr K 60 (am 3) B0_25, gArrZ K 60 (am 4) B1_25, gArr K 60 (am 5) B2_25, gArr K 60 (am 6) B3_25, gArr K 60 (am 7) B4_25, gArr K 60 (am 8) B5_25, gArr K 60 (am 9) B6_25] _ _ := hG
          exact g_iret S hr hlk hQ dX9_depthAt_96 (Nat.le_of_ble_eq_true rfl) (Nat.le_of_ble_eq_true rfl) (((depN NF ((ykS NF y (lgK NF y x)) + 1).toNat) - (dX NF (ykS NF y (lgK NF y x)) * (x - smN (tqS NF y) (lgK NF y x)) / tqS NF y (lgK NF y x)), lg2_25, mr2_25, en2_25, pw2_25, sl2_25, ly2_25, dn2_25, B0_25, B1_25, B2_25, B3_25, B4_25, B5_25, B6_25) : Int × Int × Int × Int × Int × Int × Int × Int × (Int → Int) × (Int → Int) × (Int → Int) × (Int → Int) × (Int → Int) × (Int → Int) × (Int → Int)) ⟨rfl, (fun _ => by unfold dptN <;> rw [if_neg e9, if_neg (by omega)])⟩ hG
        · skip
          refine lv_aload_n S.1 S.2.1 dX9_depthAt_73 rfl (lv_at hl 3 rfl) ?_
          refine lv_iload S.1 S.2.1 dX9_depthAt_74 (lv_at hl 1 rfl) ?_
          refine g_invV (As := [.int (iI (ykS NF y (lgK NF y x)))]) (rest := []) (gs' := (fun u : Unit => [gMdl K am (thr (bI (0 ≤ y ∧ y < NF 4)) (bI (0 ≤ x)) 1) rw lg2_25 mr2_25 en2_25 pw2_25 sl2_25 ly2_25 dn2_25 iz tz nx st tk vl ef ep hO hB ol rm oz, gArr K 95 rw NF, gArr K 60 (am 3) B0_25, gArrZ K 60 (am 4) B1_25, gArr K 60 (am 5) B2_25, gArr K 60 (am 6) B3_25, gArr K 60 (am 7) B4_25, gArr K 60 (am 8) B5_25, gArr K 60 (am 9) B6_25])) S C hG [0, 1] (c_X9_depthOf l K am (thr (bI (0 ≤ y ∧ y < NF 4)) (bI (0 ≤ x)) 1) rw lg2_25 mr2_25 en2_25 pw2_25 sl2_25 ly2_25 dn2_25 iz tz nx st tk vl ef ep hO hB ol rm oz NF (ykS NF y (lgK NF y x)) hN (by omega)) rfl rfl 0 rfl rfl (cwV 1 S.2.2.2.2 gX9_depthAt_X9_depthOf rfl rfl rfl (by decide +kernel) ⟨Nat.le_of_ble_eq_true rfl, Nat.le_of_ble_eq_true rfl⟩) rfl hl.1 rfl (Nat.le_of_ble_eq_true rfl) dX9_depthAt_76 ⟨Nat.le_of_ble_eq_true rfl, Nat.le_of_ble_eq_true rfl⟩ (fun _ => Nat.le_of_ble_eq_true rfl) (fun _ => rfl) (fun v u H locs hp hG => ?_)
          subst hp
          refine lv_iload S.1 S.2.1 dX9_depthAt_79 (lv_at hl 0 rfl) ?_
          refine g_iadd S dX9_depthAt_81 rfl ?_
          refine lv_goto (tgt := 96) S.1 S.2.1 dX9_depthAt_82 (by decide) ?_
          have hG : gW K A s.heap [gMdl K am (thr (bI (0 ≤ y ∧ y < NF 4)) (bI (0 ≤ x)) 1) rw lg2_25 mr2_25 en2_25 pw2_25 sl2_25 ly2_25 dn2_25 iz tz nx st tk vl ef ep hO hB ol rm oz, gArr K 95 rw NF, gArr K 60 (am 3) B0_25, gArrZ K 60 (am 4) B1_25, gArr K 60 (am 5) B2_25, gArr K 60 (am 6) B3_25, gArr K 60 (am 7) B4_25, gArr K 60 (am 8) B5_25, gArr K 60 (am 9) B6_25] _ _ := hG
          exact g_iret S hr hlk hQ dX9_depthAt_96 (Nat.le_of_ble_eq_true rfl) (Nat.le_of_ble_eq_true rfl) (((depN NF (ykS NF y (lgK NF y x)).toNat) + (dX NF (ykS NF y (lgK NF y x)) * (x - smN (tqS NF y) (lgK NF y x)) / tqS NF y (lgK NF y x)), lg2_25, mr2_25, en2_25, pw2_25, sl2_25, ly2_25, dn2_25, B0_25, B1_25, B2_25, B3_25, B4_25, B5_25, B6_25) : Int × Int × Int × Int × Int × Int × Int × Int × (Int → Int) × (Int → Int) × (Int → Int) × (Int → Int) × (Int → Int) × (Int → Int) × (Int → Int)) ⟨rfl, (fun _ => by unfold dptN <;> rw [if_neg e9, if_pos (by omega)])⟩ hG
      · skip
        have e9 : lgK NF y x = gS NF y := by (have l9 := lgK_le NF y x <;> unfold legN at q36 <;> split at q36 <;> omega)
        refine g_iconst S dX9_depthAt_39 ?_
        have hG : gW K A s.heap [gMdl K am (thr (bI (0 ≤ y ∧ y < NF 4)) (bI (0 ≤ x)) 1) rw lg2_25 mr2_25 en2_25 pw2_25 sl2_25 ly2_25 dn2_25 iz tz nx st tk vl ef ep hO hB ol rm oz, gArr K 95 rw NF, gArr K 60 (am 3) B0_25, gArrZ K 60 (am 4) B1_25, gArr K 60 (am 5) B2_25, gArr K 60 (am 6) B3_25, gArr K 60 (am 7) B4_25, gArr K 60 (am 8) B5_25, gArr K 60 (am 9) B6_25] _ _ := hG
        exact g_iret S hr hlk hQ dX9_depthAt_40 (Nat.le_of_ble_eq_true rfl) (Nat.le_of_ble_eq_true rfl) (((-1), lg2_25, mr2_25, en2_25, pw2_25, sl2_25, ly2_25, dn2_25, B0_25, B1_25, B2_25, B3_25, B4_25, B5_25, B6_25) : Int × Int × Int × Int × Int × Int × Int × Int × (Int → Int) × (Int → Int) × (Int → Int) × (Int → Int) × (Int → Int) × (Int → Int) × (Int → Int)) ⟨rfl, (fun _ => by unfold dptN <;> rw [if_pos e9])⟩ hG
    · skip
      refine g_iconst S dX9_depthAt_21 ?_
      have hG : gW K A s.heap [gMdl K am (thr (bI (0 ≤ y ∧ y < NF 4)) (bI (0 ≤ x)) 1) rw lg mr en pw sl ly dn iz tz nx st tk vl ef ep hO hB ol rm oz, gArr K 95 rw NF, gArr K 60 (am 3) A0, gArrZ K 60 (am 4) A1, gArr K 60 (am 5) A2, gArr K 60 (am 6) A3, gArr K 60 (am 7) A4, gArr K 60 (am 8) A5, gArr K 60 (am 9) A6] _ _ := hG
      exact g_iret S hr hlk hQ dX9_depthAt_22 (Nat.le_of_ble_eq_true rfl) (Nat.le_of_ble_eq_true rfl) ((0, lg, mr, en, pw, sl, ly, dn, A0, A1, A2, A3, A4, A5, A6) : Int × Int × Int × Int × Int × Int × Int × Int × (Int → Int) × (Int → Int) × (Int → Int) × (Int → Int) × (Int → Int) × (Int → Int) × (Int → Int)) ⟨rfl, (fun h => absurd ⟨bI_t h.1, bI_t h.2⟩ q18)⟩ hG

set_option maxHeartbeats 1000000 in
set_option maxRecDepth 100000 in
theorem c_X9_critical (l : Launch) (K : KC) (am : Nat → Nat) (th : Int) (rw : Nat) (lg : Int) (mr : Int) (en : Int) (pw : Int) (sl : Int) (ly : Int) (dn : Int) (iz : Int) (tz : Int) (nx : Int) (st : Int) (tk : Int) (vl : Int) (ef : Int) (ep : Int) (hO : Int) (hB : Int) (ol : Int) (rm : Int) (oz : Int) (NF : Int → Int) (y : Int) (x : Int) (hN : NOk0 NF) (hv : -2147483648 ≤ y ∧ y < 2147483648) (hx : x = 0 ∨ x = 1) : mG l yX9_critical wsX9_critical 3 69 K [.ref (am 0), .int (iI y), .int (iI x)] [gMdl K am th rw lg mr en pw sl ly dn iz tz nx st tk vl ef ep hO hB ol rm oz, gArr K 95 rw NF] (fun (v : Value) (u : Int) => (v = .int (iI u)) ∧ (0 ≤ y ∧ y < NF 0 → u = critZ NF y (ahd y x))) (fun (u : Int) => [gMdl K am (thr (bI (0 ≤ y ∧ y < NF 0)) 1 1) rw lg mr en pw sl ly dn iz tz nx st tk vl ef ep hO hB ol rm oz, gArr K 95 rw NF]) 0 0 := by
  refine mG_of cX9_critical 4 (by decide) rfl (Nat.le_of_ble_eq_true rfl) ?_
  intro p e s m below meth c A ls Q S C hG hl hr hlk hin hQ
  have S : CallFix p m c cX9_critical 4 s ([.ref (am 0), .int (iI y), .int (iI x)] : List Value).toArray wsX9_critical RX9 := S
  have iX90 : ∀ w ∈ wsX90, w ∈ wsX9_critical := fun _ h => List.mem_cons_of_mem _ (List.mem_append_right _ (h))
  have hl : lv_has ls 4 [(0, .ref (am 0)), (1, .int (iI y)), (2, .int (iI x))] := hl
  have hG : gW K A s.heap [gMdl K am th rw lg mr en pw sl ly dn iz tz nx st tk vl ef ep hO hB ol rm oz, gArr K 95 rw NF] s.heap [] := hG
  have n0 := hN.1
  have n3 := hN.2.2.2.1
  refine lv_aload_n S.1 S.2.1 dX9_critical_0 rfl (lv_at hl 0 rfl) ?_
  refine lv_aload_n S.1 S.2.1 dX9_critical_1 rfl (lv_at hl 0 rfl) ?_
  refine lv_iload_n S.1 S.2.1 dX9_critical_2 rfl (lv_at hl 1 rfl) ?_
  refine g_invV (As := [.int (iI y)]) (rest := [.ref (am 0)]) (gs' := (fun u : Unit => [gMdl K am th rw lg mr en pw sl ly dn iz tz nx st tk vl ef ep hO hB ol rm oz, gArr K 95 rw NF])) S C hG [0, 1] (c_X9_isLayer l K am th rw lg mr en pw sl ly dn iz tz nx st tk vl ef ep hO hB ol rm oz NF y hN hv) rfl rfl 0 rfl rfl (cwV 1 S.2.2.2.2 gX9_critical_X9_isLayer rfl rfl rfl (by decide +kernel) ⟨Nat.le_of_ble_eq_true rfl, Nat.le_of_ble_eq_true rfl⟩) rfl hl.1 rfl (Nat.le_of_ble_eq_true rfl) dX9_critical_3 ⟨Nat.le_of_ble_eq_true rfl, Nat.le_of_ble_eq_true rfl⟩ (fun _ => Nat.le_of_ble_eq_true rfl) (fun _ => rfl) (fun v u H locs hp hG => ?_)
  subst hp
  refine g_invV (As := [.int (iI (bI (0 ≤ y ∧ y < NF 0)))]) (rest := []) (gs' := (fun u : Unit => [gMdl K am (thr (bI (0 ≤ y ∧ y < NF 0)) 1 1) rw lg mr en pw sl ly dn iz tz nx st tk vl ef ep hO hB ol rm oz, gArr K 95 rw NF])) S C hG [0] (c_X9_passes l K am th rw lg mr en pw sl ly dn iz tz nx st tk vl ef ep hO hB ol rm oz (bI (0 ≤ y ∧ y < NF 0)) (bI_01 _)) rfl rfl 0 rfl rfl (cwV 1 S.2.2.2.2 gX9_critical_X9_passes rfl rfl rfl (by decide +kernel) ⟨Nat.le_of_ble_eq_true rfl, Nat.le_of_ble_eq_true rfl⟩) rfl hl.1 rfl (Nat.le_of_ble_eq_true rfl) dX9_critical_6 ⟨Nat.le_of_ble_eq_true rfl, Nat.le_of_ble_eq_true rfl⟩ (fun _ => Nat.le_of_ble_eq_true rfl) (fun _ => rfl) (fun v u H locs hp hG => ?_)
  subst hp
  refine g_ifne_b (B := ((bI (0 ≤ y ∧ y < NF 0)) = 1)) (tgt := 14) S dX9_critical_9 (by decide) (fun q9 => ?_) (fun q9 => ?_)
  · skip
    have qa := bI1 q9
    have ib : -1 ≤ ihN NF y x ∧ ihN NF y x ≤ 4000 := by (have z := ixN_bd hN (ahd y x) <;> unfold ihN <;> split <;> omega)
    have lb := (lay_bd hN qa.1 qa.2).1
    refine lv_aload_n S.1 S.2.1 dX9_critical_14 rfl (lv_at hl 0 rfl) ?_
    refine lv_iload_n S.1 S.2.1 dX9_critical_15 rfl (lv_at hl 1 rfl) ?_
    refine lv_iload_n S.1 S.2.1 dX9_critical_16 rfl (lv_at hl 2 rfl) ?_
    refine g_invV (As := [.int (iI y), .int (iI x)]) (rest := []) (gs' := (fun u : Unit => [gMdl K am (thr (bI (0 ≤ y ∧ y < NF 0)) 1 1) rw lg mr en pw sl ly dn iz tz nx st tk vl ef ep hO hB ol rm oz, gArr K 95 rw NF])) S C hG [0, 1] (c_X9_indexAhead l K am (thr (bI (0 ≤ y ∧ y < NF 0)) 1 1) rw lg mr en pw sl ly dn iz tz nx st tk vl ef ep hO hB ol rm oz NF y x hN qa hx) rfl rfl 0 rfl rfl (cwV 2 S.2.2.2.2 gX9_critical_X9_indexAhead rfl rfl rfl (by decide +kernel) ⟨Nat.le_of_ble_eq_true rfl, Nat.le_of_ble_eq_true rfl⟩) rfl hl.1 rfl (Nat.le_of_ble_eq_true rfl) dX9_critical_17 ⟨Nat.le_of_ble_eq_true rfl, Nat.le_of_ble_eq_true rfl⟩ (fun _ => Nat.le_of_ble_eq_true rfl) (fun _ => rfl) (fun v u H locs hp hG => ?_)
    subst hp
    refine lv_istore_n (lv' := [(3, .int (iI (ihN NF y x))), (0, .ref (am 0)), (1, .int (iI y)), (2, .int (iI x))]) S.1 S.2.1 dX9_critical_20 rfl hl (by decide) rfl (fun ls hl => ?_)
    refine lv_iload_n S.1 S.2.1 dX9_critical_21 rfl (lv_at hl 0 rfl) ?_
    refine g_iconst S dX9_critical_22 ?_
    refine g_icmp_eq (tgt := 40) S dX9_critical_23 (by decide) (by omega) (by omega) (fun q23 => ?_) (fun q23 => ?_)
    · skip
      refine g_iconst S dX9_critical_40 ?_
      have hG : gW K A s.heap [gMdl K am (thr (bI (0 ≤ y ∧ y < NF 0)) 1 1) rw lg mr en pw sl ly dn iz tz nx st tk vl ef ep hO hB ol rm oz, gArr K 95 rw NF] _ _ := hG
      exact g_iret S hr hlk hQ dX9_critical_41 (Nat.le_of_ble_eq_true rfl) (Nat.le_of_ble_eq_true rfl) (((-1)) : Int) ⟨rfl, (fun _ => crit_eq hN qa (by omega))⟩ hG
    · skip
      refine lv_iload_n S.1 S.2.1 dX9_critical_26 rfl (lv_at hl 0 rfl) ?_
      refine lv_aload_n S.1 S.2.1 dX9_critical_27 rfl (lv_at hl 1 rfl) ?_
      refine lv_iload_n S.1 S.2.1 dX9_critical_28 rfl (lv_at hl 2 rfl) ?_
      refine g_iconst S dX9_critical_29 ?_
      refine g_invV (As := [.int (iI y), .int (iI 0)]) (rest := [.int (iI (ihN NF y x))]) (gs' := (fun u : Unit => [gMdl K am (thr (bI (0 ≤ y ∧ y < NF 0)) 1 1) rw lg mr en pw sl ly dn iz tz nx st tk vl ef ep hO hB ol rm oz, gArr K 95 rw NF])) S C hG [0, 1] (c_X9_ofLayer l K am (thr (bI (0 ≤ y ∧ y < NF 0)) 1 1) rw lg mr en pw sl ly dn iz tz nx st tk vl ef ep hO hB ol rm oz NF y 0 (by omega) (by decide)) rfl rfl 0 rfl rfl (cwV 2 S.2.2.2.2 gX9_critical_X9_ofLayer rfl rfl rfl (by decide +kernel) ⟨Nat.le_of_ble_eq_true rfl, Nat.le_of_ble_eq_true rfl⟩) rfl hl.1 rfl (Nat.le_of_ble_eq_true rfl) dX9_critical_30 ⟨Nat.le_of_ble_eq_true rfl, Nat.le_of_ble_eq_true rfl⟩ (fun _ => Nat.le_of_ble_eq_true rfl) (fun _ => rfl) (fun v u H locs hp hG => ?_)
      subst hp
      refine g_top (w := .int (iI (nX NF y))) (congrArg (fun z : Int => Value.int (iI z)) (rfl)) ?_
      refine g_icmp_ge (tgt := 40) S dX9_critical_33 (by decide) (by omega) (by omega) (fun q33 => ?_) (fun q33 => ?_)
      · skip
        refine g_iconst S dX9_critical_40 ?_
        have hG : gW K A s.heap [gMdl K am (thr (bI (0 ≤ y ∧ y < NF 0)) 1 1) rw lg mr en pw sl ly dn iz tz nx st tk vl ef ep hO hB ol rm oz, gArr K 95 rw NF] _ _ := hG
        exact g_iret S hr hlk hQ dX9_critical_41 (Nat.le_of_ble_eq_true rfl) (Nat.le_of_ble_eq_true rfl) (((-1)) : Int) ⟨rfl, (fun _ => crit_eq hN qa (by omega))⟩ hG
      · skip
        refine lv_iload_n S.1 S.2.1 dX9_critical_36 rfl (lv_at hl 0 rfl) ?_
        refine lv_goto (tgt := 41) S.1 S.2.1 dX9_critical_37 (by decide) ?_
        have hG : gW K A s.heap [gMdl K am (thr (bI (0 ≤ y ∧ y < NF 0)) 1 1) rw lg mr en pw sl ly dn iz tz nx st tk vl ef ep hO hB ol rm oz, gArr K 95 rw NF] _ _ := hG
        exact g_iret S hr hlk hQ dX9_critical_41 (Nat.le_of_ble_eq_true rfl) (Nat.le_of_ble_eq_true rfl) ((ihN NF y x) : Int) ⟨rfl, (fun _ => crit_eq hN qa (by omega))⟩ hG
  · skip
    refine g_iconst S dX9_critical_12 ?_
    have hG : gW K A s.heap [gMdl K am (thr (bI (0 ≤ y ∧ y < NF 0)) 1 1) rw lg mr en pw sl ly dn iz tz nx st tk vl ef ep hO hB ol rm oz, gArr K 95 rw NF] _ _ := hG
    exact g_iret S hr hlk hQ dX9_critical_13 (Nat.le_of_ble_eq_true rfl) (Nat.le_of_ble_eq_true rfl) ((0) : Int) ⟨rfl, (fun h => absurd (bI_t h) q9)⟩ hG

set_option maxHeartbeats 1000000 in
set_option maxRecDepth 100000 in
theorem c_X9_endOf (l : Launch) (K : KC) (am : Nat → Nat) (th : Int) (rw : Nat) (lg : Int) (mr : Int) (en : Int) (pw : Int) (sl : Int) (ly : Int) (dn : Int) (iz : Int) (tz : Int) (nx : Int) (st : Int) (tk : Int) (vl : Int) (ef : Int) (ep : Int) (hO : Int) (hB : Int) (ol : Int) (rm : Int) (oz : Int) (NF : Int → Int) (A0 : Int → Int) (A1 : Int → Int) (A2 : Int → Int) (A3 : Int → Int) (A4 : Int → Int) (A5 : Int → Int) (A6 : Int → Int) (y : Int) (x : Int) (z : Int) (hN : NOk0 NF) (hv : -2147483648 ≤ y ∧ y < 2147483648) (hx : x = 0 ∨ x = 1) (hz : -2147483648 ≤ z ∧ z < 2147483648) : mG l yX9_endOf wsX9_endOf 5 114 K [.ref (am 0), .int (iI y), .int (iI x), .int (iI z)] [gMdl K am th rw lg mr en pw sl ly dn iz tz nx st tk vl ef ep hO hB ol rm oz, gArr K 95 rw NF, gArr K 60 (am 3) A0, gArrZ K 60 (am 4) A1, gArr K 60 (am 5) A2, gArr K 60 (am 6) A3, gArr K 60 (am 7) A4, gArr K 60 (am 8) A5, gArr K 60 (am 9) A6] (fun (v : Value) (u : Int × Int × Int × Int × Int × Int × Int × Int × (Int → Int) × (Int → Int) × (Int → Int) × (Int → Int) × (Int → Int) × (Int → Int) × (Int → Int)) => (v = .int (iI u.1)) ∧ ((0 ≤ y ∧ y < NF 0) ∧ (0 ≤ z ∧ z ≤ 3999) → u.1 = enF NF z y x)) (fun (u : Int × Int × Int × Int × Int × Int × Int × Int × (Int → Int) × (Int → Int) × (Int → Int) × (Int → Int) × (Int → Int) × (Int → Int) × (Int → Int)) => [gMdl K am (thr (bI (0 ≤ y ∧ y < NF 0)) (bI (0 ≤ z ∧ z ≤ 3999)) 1) rw u.2.1 u.2.2.1 u.2.2.2.1 u.2.2.2.2.1 u.2.2.2.2.2.1 u.2.2.2.2.2.2.1 u.2.2.2.2.2.2.2.1 iz tz nx st tk vl ef ep hO hB ol rm oz, gArr K 95 rw NF, gArr K 60 (am 3) u.2.2.2.2.2.2.2.2.1, gArrZ K 60 (am 4) u.2.2.2.2.2.2.2.2.2.1, gArr K 60 (am 5) u.2.2.2.2.2.2.2.2.2.2.1, gArr K 60 (am 6) u.2.2.2.2.2.2.2.2.2.2.2.1, gArr K 60 (am 7) u.2.2.2.2.2.2.2.2.2.2.2.2.1, gArr K 60 (am 8) u.2.2.2.2.2.2.2.2.2.2.2.2.2.1, gArr K 60 (am 9) u.2.2.2.2.2.2.2.2.2.2.2.2.2.2]) 0 0 := by
  refine mG_of cX9_endOf 4 (by decide) rfl (Nat.le_of_ble_eq_true rfl) ?_
  intro p e s m below meth c A ls Q S C hG hl hr hlk hin hQ
  have S : CallFix p m c cX9_endOf 4 s ([.ref (am 0), .int (iI y), .int (iI x), .int (iI z)] : List Value).toArray wsX9_endOf RX9 := S
  have iX90 : ∀ w ∈ wsX90, w ∈ wsX9_endOf := fun _ h => List.mem_cons_of_mem _ (List.mem_append_right _ (h))
  have hl : lv_has ls 4 [(0, .ref (am 0)), (1, .int (iI y)), (2, .int (iI x)), (3, .int (iI z))] := hl
  have hG : gW K A s.heap [gMdl K am th rw lg mr en pw sl ly dn iz tz nx st tk vl ef ep hO hB ol rm oz, gArr K 95 rw NF, gArr K 60 (am 3) A0, gArrZ K 60 (am 4) A1, gArr K 60 (am 5) A2, gArr K 60 (am 6) A3, gArr K 60 (am 7) A4, gArr K 60 (am 8) A5, gArr K 60 (am 9) A6] s.heap [] := hG
  have n0 := hN.1
  have n3 := hN.2.2.2.1
  refine lv_aload_n S.1 S.2.1 dX9_endOf_0 rfl (lv_at hl 0 rfl) ?_
  refine lv_aload_n S.1 S.2.1 dX9_endOf_1 rfl (lv_at hl 0 rfl) ?_
  refine lv_iload_n S.1 S.2.1 dX9_endOf_2 rfl (lv_at hl 1 rfl) ?_
  refine g_invV (As := [.int (iI y)]) (rest := [.ref (am 0)]) (gs' := (fun u : Unit => [gMdl K am th rw lg mr en pw sl ly dn iz tz nx st tk vl ef ep hO hB ol rm oz, gArr K 95 rw NF, gArr K 60 (am 3) A0, gArrZ K 60 (am 4) A1, gArr K 60 (am 5) A2, gArr K 60 (am 6) A3, gArr K 60 (am 7) A4, gArr K 60 (am 8) A5, gArr K 60 (am 9) A6])) S C hG [0, 1] (c_X9_isLayer l K am th rw lg mr en pw sl ly dn iz tz nx st tk vl ef ep hO hB ol rm oz NF y hN hv) rfl rfl 0 rfl rfl (cwV 1 S.2.2.2.2 gX9_endOf_X9_isLayer rfl rfl rfl (by decide +kernel) ⟨Nat.le_of_ble_eq_true rfl, Nat.le_of_ble_eq_true rfl⟩) rfl hl.1 rfl (Nat.le_of_ble_eq_true rfl) dX9_endOf_3 ⟨Nat.le_of_ble_eq_true rfl, Nat.le_of_ble_eq_true rfl⟩ (fun _ => Nat.le_of_ble_eq_true rfl) (fun _ => rfl) (fun v u H locs hp hG => ?_)
  subst hp
  refine lv_iload_n S.1 S.2.1 dX9_endOf_6 rfl (lv_at hl 3 rfl) ?_
  refine g_invS (As := [.int (iI z)]) (rest := [.int (iI (bI (0 ≤ y ∧ y < NF 0))), .ref (am 0)]) (gs' := (fun u : Unit => [gMdl K am th rw lg mr en pw sl ly dn iz tz nx st tk vl ef ep hO hB ol rm oz, gArr K 95 rw NF, gArr K 60 (am 3) A0, gArrZ K 60 (am 4) A1, gArr K 60 (am 5) A2, gArr K 60 (am 6) A3, gArr K 60 (am 7) A4, gArr K 60 (am 8) A5, gArr K 60 (am 9) A6])) S C hG [] (c_X9_isSlant l K z hz) rfl rfl (va_cwS 1 S.2.2.2.2 gX9_endOf_X9_isSlant rfl rfl rfl (by decide +kernel) ⟨Nat.le_of_ble_eq_true rfl, Nat.le_of_ble_eq_true rfl⟩) rfl hl.1 rfl (Nat.le_of_ble_eq_true rfl) dX9_endOf_7 ⟨Nat.le_of_ble_eq_true rfl, Nat.le_of_ble_eq_true rfl⟩ (fun _ => Nat.le_of_ble_eq_true rfl) (fun _ => rfl) (fun v u H locs hp hG => ?_)
  subst hp
  refine g_invV (As := [.int (iI (bI (0 ≤ y ∧ y < NF 0))), .int (iI (bI (0 ≤ z ∧ z ≤ 3999)))]) (rest := []) (gs' := (fun u : Unit => [gMdl K am (thr (bI (0 ≤ y ∧ y < NF 0)) (bI (0 ≤ z ∧ z ≤ 3999)) 1) rw lg mr en pw sl ly dn iz tz nx st tk vl ef ep hO hB ol rm oz, gArr K 95 rw NF, gArr K 60 (am 3) A0, gArrZ K 60 (am 4) A1, gArr K 60 (am 5) A2, gArr K 60 (am 6) A3, gArr K 60 (am 7) A4, gArr K 60 (am 8) A5, gArr K 60 (am 9) A6])) S C hG [0] (c_X9_passes2 l K am th rw lg mr en pw sl ly dn iz tz nx st tk vl ef ep hO hB ol rm oz (bI (0 ≤ y ∧ y < NF 0)) (bI (0 ≤ z ∧ z ≤ 3999)) (bI_01 _) (bI_01 _)) rfl rfl 0 rfl rfl (cwV 2 S.2.2.2.2 gX9_endOf_X9_passes2 rfl rfl rfl (by decide +kernel) ⟨Nat.le_of_ble_eq_true rfl, Nat.le_of_ble_eq_true rfl⟩) rfl hl.1 rfl (Nat.le_of_ble_eq_true rfl) dX9_endOf_10 ⟨Nat.le_of_ble_eq_true rfl, Nat.le_of_ble_eq_true rfl⟩ (fun _ => Nat.le_of_ble_eq_true rfl) (fun _ => rfl) (fun v u H locs hp hG => ?_)
  subst hp
  refine g_ifne_b (B := ((bI (0 ≤ y ∧ y < NF 0)) = 1 ∧ (bI (0 ≤ z ∧ z ≤ 3999)) = 1)) (tgt := 18) S dX9_endOf_13 (by decide) (fun q13 => ?_) (fun q13 => ?_)
  · skip
    have qa := bI1 q13.1
    have qb := bI1 q13.2
    refine lv_aload_n S.1 S.2.1 dX9_endOf_18 rfl (lv_at hl 0 rfl) ?_
    refine lv_iload_n S.1 S.2.1 dX9_endOf_19 rfl (lv_at hl 1 rfl) ?_
    refine lv_iload_n S.1 S.2.1 dX9_endOf_20 rfl (lv_at hl 2 rfl) ?_
    refine lv_iload_n S.1 S.2.1 dX9_endOf_21 rfl (lv_at hl 3 rfl) ?_
    refine g_invVv (As := [.int (iI y), .int (iI x), .int (iI z)]) (rest := []) (gs' := (fun u : Int × Int × Int × Int × Int × Int × Int × (Int → Int) × (Int → Int) × (Int → Int) × (Int → Int) × (Int → Int) × (Int → Int) × (Int → Int) => [gMdl K am (thr (bI (0 ≤ y ∧ y < NF 0)) (bI (0 ≤ z ∧ z ≤ 3999)) 1) rw u.1 u.2.1 u.2.2.1 u.2.2.2.1 u.2.2.2.2.1 u.2.2.2.2.2.1 u.2.2.2.2.2.2.1 iz tz nx st tk vl ef ep hO hB ol rm oz, gArr K 95 rw NF, gArr K 60 (am 3) u.2.2.2.2.2.2.2.1, gArrZ K 60 (am 4) u.2.2.2.2.2.2.2.2.1, gArr K 60 (am 5) u.2.2.2.2.2.2.2.2.2.1, gArr K 60 (am 6) u.2.2.2.2.2.2.2.2.2.2.1, gArr K 60 (am 7) u.2.2.2.2.2.2.2.2.2.2.2.1, gArr K 60 (am 8) u.2.2.2.2.2.2.2.2.2.2.2.2.1, gArr K 60 (am 9) u.2.2.2.2.2.2.2.2.2.2.2.2.2])) S C hG [0, 1, 2, 3, 4, 5, 6, 7, 8] (c_X9_follow l K am (thr (bI (0 ≤ y ∧ y < NF 0)) (bI (0 ≤ z ∧ z ≤ 3999)) 1) rw lg mr en pw sl ly dn iz tz nx st tk vl ef ep hO hB ol rm oz NF A0 A1 A2 A3 A4 A5 A6 y x z hN hv qb hx) rfl rfl 0 rfl rfl (cwV 3 S.2.2.2.2 gX9_endOf_X9_follow rfl rfl rfl (by decide +kernel) ⟨Nat.le_of_ble_eq_true rfl, Nat.le_of_ble_eq_true rfl⟩) rfl hl.1 rfl (Nat.le_of_ble_eq_true rfl) dX9_endOf_22 ⟨Nat.le_of_ble_eq_true rfl, Nat.le_of_ble_eq_true rfl⟩ (fun _ => Nat.le_of_ble_eq_true rfl) (fun _ => rfl) (fun u H locs hp hG => ?_)
    obtain ⟨lg2_22, mr2_22, en2_22, pw2_22, sl2_22, ly2_22, dn2_22, B0_22, B1_22, B2_22, B3_22, B4_22, B5_22, B6_22⟩ := u
    have hf_22 := hp
    have hf_22 : FolR NF z y x lg2_22 mr2_22 en2_22 pw2_22 B0_22 B1_22 B2_22 B3_22 B4_22 B5_22 B6_22 := hf_22
    have hG : gW K A s.heap [gMdl K am (thr (bI (0 ≤ y ∧ y < NF 0)) (bI (0 ≤ z ∧ z ≤ 3999)) 1) rw lg2_22 mr2_22 en2_22 pw2_22 sl2_22 ly2_22 dn2_22 iz tz nx st tk vl ef ep hO hB ol rm oz, gArr K 95 rw NF, gArr K 60 (am 3) B0_22, gArrZ K 60 (am 4) B1_22, gArr K 60 (am 5) B2_22, gArr K 60 (am 6) B3_22, gArr K 60 (am 7) B4_22, gArr K 60 (am 8) B5_22, gArr K 60 (am 9) B6_22] _ _ := hG
    refine lv_aload_n S.1 S.2.1 dX9_endOf_25 rfl (lv_at hl 0 rfl) ?_
    refine g_get S C hG iX90 0 rfl rfl 13 (by decide) (List.mem_of_getElem? (i := 1) rfl) rfl dX9_endOf_26 ?_
    have hG : gW K A s.heap [gMdl K am (thr (bI (0 ≤ y ∧ y < NF 0)) (bI (0 ≤ z ∧ z ≤ 3999)) 1) rw lg2_22 mr2_22 en2_22 pw2_22 sl2_22 ly2_22 dn2_22 iz tz nx st tk vl ef ep hO hB ol rm oz, gArr K 95 rw NF, gArr K 60 (am 3) B0_22, gArrZ K 60 (am 4) B1_22, gArr K 60 (am 5) B2_22, gArr K 60 (am 6) B3_22, gArr K 60 (am 7) B4_22, gArr K 60 (am 8) B5_22, gArr K 60 (am 9) B6_22] _ _ := hG
    exact g_iret S hr hlk hQ dX9_endOf_29 (Nat.le_of_ble_eq_true rfl) (Nat.le_of_ble_eq_true rfl) ((en2_22, lg2_22, mr2_22, en2_22, pw2_22, sl2_22, ly2_22, dn2_22, B0_22, B1_22, B2_22, B3_22, B4_22, B5_22, B6_22) : Int × Int × Int × Int × Int × Int × Int × Int × (Int → Int) × (Int → Int) × (Int → Int) × (Int → Int) × (Int → Int) × (Int → Int) × (Int → Int)) ⟨rfl, (fun _ => hf_22.2.2.1)⟩ hG
  · skip
    refine g_iconst S dX9_endOf_16 ?_
    have hG : gW K A s.heap [gMdl K am (thr (bI (0 ≤ y ∧ y < NF 0)) (bI (0 ≤ z ∧ z ≤ 3999)) 1) rw lg mr en pw sl ly dn iz tz nx st tk vl ef ep hO hB ol rm oz, gArr K 95 rw NF, gArr K 60 (am 3) A0, gArrZ K 60 (am 4) A1, gArr K 60 (am 5) A2, gArr K 60 (am 6) A3, gArr K 60 (am 7) A4, gArr K 60 (am 8) A5, gArr K 60 (am 9) A6] _ _ := hG
    exact g_iret S hr hlk hQ dX9_endOf_17 (Nat.le_of_ble_eq_true rfl) (Nat.le_of_ble_eq_true rfl) ((0, lg, mr, en, pw, sl, ly, dn, A0, A1, A2, A3, A4, A5, A6) : Int × Int × Int × Int × Int × Int × Int × Int × (Int → Int) × (Int → Int) × (Int → Int) × (Int → Int) × (Int → Int) × (Int → Int) × (Int → Int)) ⟨rfl, (fun h => absurd ⟨bI_t h.1, bI_t h.2⟩ q13)⟩ hG

set_option maxHeartbeats 1000000 in
set_option maxRecDepth 100000 in
theorem c_X9_shiftOf (l : Launch) (K : KC) (am : Nat → Nat) (th : Int) (rw : Nat) (lg : Int) (mr : Int) (en : Int) (pw : Int) (sl : Int) (ly : Int) (dn : Int) (iz : Int) (tz : Int) (nx : Int) (st : Int) (tk : Int) (vl : Int) (ef : Int) (ep : Int) (hO : Int) (hB : Int) (ol : Int) (rm : Int) (oz : Int) (NF : Int → Int) (A0 : Int → Int) (A1 : Int → Int) (A2 : Int → Int) (A3 : Int → Int) (A4 : Int → Int) (A5 : Int → Int) (A6 : Int → Int) (y : Int) (x : Int) (z : Int) (hN : NOk0 NF) (hv : -2147483648 ≤ y ∧ y < 2147483648) (hx : x = 0 ∨ x = 1) (hz : -2147483648 ≤ z ∧ z < 2147483648) : mG l yX9_shiftOf wsX9_shiftOf 5 114 K [.ref (am 0), .int (iI y), .int (iI x), .int (iI z)] [gMdl K am th rw lg mr en pw sl ly dn iz tz nx st tk vl ef ep hO hB ol rm oz, gArr K 95 rw NF, gArr K 60 (am 3) A0, gArrZ K 60 (am 4) A1, gArr K 60 (am 5) A2, gArr K 60 (am 6) A3, gArr K 60 (am 7) A4, gArr K 60 (am 8) A5, gArr K 60 (am 9) A6] (fun (v : Value) (u : Int × Int × Int × Int × Int × Int × Int × Int × (Int → Int) × (Int → Int) × (Int → Int) × (Int → Int) × (Int → Int) × (Int → Int) × (Int → Int)) => (v = .int (iI u.1)) ∧ ((0 ≤ y ∧ y < NF 0) ∧ (0 ≤ z ∧ z ≤ 3999) → u.1 = shiA NF y x z)) (fun (u : Int × Int × Int × Int × Int × Int × Int × Int × (Int → Int) × (Int → Int) × (Int → Int) × (Int → Int) × (Int → Int) × (Int → Int) × (Int → Int)) => [gMdl K am (thr (bI (0 ≤ y ∧ y < NF 0)) (bI (0 ≤ z ∧ z ≤ 3999)) 1) rw u.2.1 u.2.2.1 u.2.2.2.1 u.2.2.2.2.1 u.2.2.2.2.2.1 u.2.2.2.2.2.2.1 u.2.2.2.2.2.2.2.1 iz tz nx st tk vl ef ep hO hB ol rm oz, gArr K 95 rw NF, gArr K 60 (am 3) u.2.2.2.2.2.2.2.2.1, gArrZ K 60 (am 4) u.2.2.2.2.2.2.2.2.2.1, gArr K 60 (am 5) u.2.2.2.2.2.2.2.2.2.2.1, gArr K 60 (am 6) u.2.2.2.2.2.2.2.2.2.2.2.1, gArr K 60 (am 7) u.2.2.2.2.2.2.2.2.2.2.2.2.1, gArr K 60 (am 8) u.2.2.2.2.2.2.2.2.2.2.2.2.2.1, gArr K 60 (am 9) u.2.2.2.2.2.2.2.2.2.2.2.2.2.2]) 0 0 := by
  refine mG_of cX9_shiftOf 4 (by decide) rfl (Nat.le_of_ble_eq_true rfl) ?_
  intro p e s m below meth c A ls Q S C hG hl hr hlk hin hQ
  have S : CallFix p m c cX9_shiftOf 4 s ([.ref (am 0), .int (iI y), .int (iI x), .int (iI z)] : List Value).toArray wsX9_shiftOf RX9 := S
  have iX90 : ∀ w ∈ wsX90, w ∈ wsX9_shiftOf := fun _ h => List.mem_cons_of_mem _ (List.mem_append_right _ (h))
  have hl : lv_has ls 4 [(0, .ref (am 0)), (1, .int (iI y)), (2, .int (iI x)), (3, .int (iI z))] := hl
  have hG : gW K A s.heap [gMdl K am th rw lg mr en pw sl ly dn iz tz nx st tk vl ef ep hO hB ol rm oz, gArr K 95 rw NF, gArr K 60 (am 3) A0, gArrZ K 60 (am 4) A1, gArr K 60 (am 5) A2, gArr K 60 (am 6) A3, gArr K 60 (am 7) A4, gArr K 60 (am 8) A5, gArr K 60 (am 9) A6] s.heap [] := hG
  have n0 := hN.1
  have n3 := hN.2.2.2.1
  refine lv_aload_n S.1 S.2.1 dX9_shiftOf_0 rfl (lv_at hl 0 rfl) ?_
  refine lv_aload_n S.1 S.2.1 dX9_shiftOf_1 rfl (lv_at hl 0 rfl) ?_
  refine lv_iload_n S.1 S.2.1 dX9_shiftOf_2 rfl (lv_at hl 1 rfl) ?_
  refine g_invV (As := [.int (iI y)]) (rest := [.ref (am 0)]) (gs' := (fun u : Unit => [gMdl K am th rw lg mr en pw sl ly dn iz tz nx st tk vl ef ep hO hB ol rm oz, gArr K 95 rw NF, gArr K 60 (am 3) A0, gArrZ K 60 (am 4) A1, gArr K 60 (am 5) A2, gArr K 60 (am 6) A3, gArr K 60 (am 7) A4, gArr K 60 (am 8) A5, gArr K 60 (am 9) A6])) S C hG [0, 1] (c_X9_isLayer l K am th rw lg mr en pw sl ly dn iz tz nx st tk vl ef ep hO hB ol rm oz NF y hN hv) rfl rfl 0 rfl rfl (cwV 1 S.2.2.2.2 gX9_shiftOf_X9_isLayer rfl rfl rfl (by decide +kernel) ⟨Nat.le_of_ble_eq_true rfl, Nat.le_of_ble_eq_true rfl⟩) rfl hl.1 rfl (Nat.le_of_ble_eq_true rfl) dX9_shiftOf_3 ⟨Nat.le_of_ble_eq_true rfl, Nat.le_of_ble_eq_true rfl⟩ (fun _ => Nat.le_of_ble_eq_true rfl) (fun _ => rfl) (fun v u H locs hp hG => ?_)
  subst hp
  refine lv_iload_n S.1 S.2.1 dX9_shiftOf_6 rfl (lv_at hl 3 rfl) ?_
  refine g_invS (As := [.int (iI z)]) (rest := [.int (iI (bI (0 ≤ y ∧ y < NF 0))), .ref (am 0)]) (gs' := (fun u : Unit => [gMdl K am th rw lg mr en pw sl ly dn iz tz nx st tk vl ef ep hO hB ol rm oz, gArr K 95 rw NF, gArr K 60 (am 3) A0, gArrZ K 60 (am 4) A1, gArr K 60 (am 5) A2, gArr K 60 (am 6) A3, gArr K 60 (am 7) A4, gArr K 60 (am 8) A5, gArr K 60 (am 9) A6])) S C hG [] (c_X9_isSlant l K z hz) rfl rfl (va_cwS 1 S.2.2.2.2 gX9_shiftOf_X9_isSlant rfl rfl rfl (by decide +kernel) ⟨Nat.le_of_ble_eq_true rfl, Nat.le_of_ble_eq_true rfl⟩) rfl hl.1 rfl (Nat.le_of_ble_eq_true rfl) dX9_shiftOf_7 ⟨Nat.le_of_ble_eq_true rfl, Nat.le_of_ble_eq_true rfl⟩ (fun _ => Nat.le_of_ble_eq_true rfl) (fun _ => rfl) (fun v u H locs hp hG => ?_)
  subst hp
  refine g_invV (As := [.int (iI (bI (0 ≤ y ∧ y < NF 0))), .int (iI (bI (0 ≤ z ∧ z ≤ 3999)))]) (rest := []) (gs' := (fun u : Unit => [gMdl K am (thr (bI (0 ≤ y ∧ y < NF 0)) (bI (0 ≤ z ∧ z ≤ 3999)) 1) rw lg mr en pw sl ly dn iz tz nx st tk vl ef ep hO hB ol rm oz, gArr K 95 rw NF, gArr K 60 (am 3) A0, gArrZ K 60 (am 4) A1, gArr K 60 (am 5) A2, gArr K 60 (am 6) A3, gArr K 60 (am 7) A4, gArr K 60 (am 8) A5, gArr K 60 (am 9) A6])) S C hG [0] (c_X9_passes2 l K am th rw lg mr en pw sl ly dn iz tz nx st tk vl ef ep hO hB ol rm oz (bI (0 ≤ y ∧ y < NF 0)) (bI (0 ≤ z ∧ z ≤ 3999)) (bI_01 _) (bI_01 _)) rfl rfl 0 rfl rfl (cwV 2 S.2.2.2.2 gX9_shiftOf_X9_passes2 rfl rfl rfl (by decide +kernel) ⟨Nat.le_of_ble_eq_true rfl, Nat.le_of_ble_eq_true rfl⟩) rfl hl.1 rfl (Nat.le_of_ble_eq_true rfl) dX9_shiftOf_10 ⟨Nat.le_of_ble_eq_true rfl, Nat.le_of_ble_eq_true rfl⟩ (fun _ => Nat.le_of_ble_eq_true rfl) (fun _ => rfl) (fun v u H locs hp hG => ?_)
  subst hp
  refine g_ifne_b (B := ((bI (0 ≤ y ∧ y < NF 0)) = 1 ∧ (bI (0 ≤ z ∧ z ≤ 3999)) = 1)) (tgt := 18) S dX9_shiftOf_13 (by decide) (fun q13 => ?_) (fun q13 => ?_)
  · skip
    have qa := bI1 q13.1
    have qb := bI1 q13.2
    refine lv_aload_n S.1 S.2.1 dX9_shiftOf_18 rfl (lv_at hl 0 rfl) ?_
    refine lv_iload_n S.1 S.2.1 dX9_shiftOf_19 rfl (lv_at hl 1 rfl) ?_
    refine lv_iload_n S.1 S.2.1 dX9_shiftOf_20 rfl (lv_at hl 2 rfl) ?_
    refine lv_iload_n S.1 S.2.1 dX9_shiftOf_21 rfl (lv_at hl 3 rfl) ?_
    refine g_invVv (As := [.int (iI y), .int (iI x), .int (iI z)]) (rest := []) (gs' := (fun u : Int × Int × Int × Int × Int × Int × Int × (Int → Int) × (Int → Int) × (Int → Int) × (Int → Int) × (Int → Int) × (Int → Int) × (Int → Int) => [gMdl K am (thr (bI (0 ≤ y ∧ y < NF 0)) (bI (0 ≤ z ∧ z ≤ 3999)) 1) rw u.1 u.2.1 u.2.2.1 u.2.2.2.1 u.2.2.2.2.1 u.2.2.2.2.2.1 u.2.2.2.2.2.2.1 iz tz nx st tk vl ef ep hO hB ol rm oz, gArr K 95 rw NF, gArr K 60 (am 3) u.2.2.2.2.2.2.2.1, gArrZ K 60 (am 4) u.2.2.2.2.2.2.2.2.1, gArr K 60 (am 5) u.2.2.2.2.2.2.2.2.2.1, gArr K 60 (am 6) u.2.2.2.2.2.2.2.2.2.2.1, gArr K 60 (am 7) u.2.2.2.2.2.2.2.2.2.2.2.1, gArr K 60 (am 8) u.2.2.2.2.2.2.2.2.2.2.2.2.1, gArr K 60 (am 9) u.2.2.2.2.2.2.2.2.2.2.2.2.2])) S C hG [0, 1, 2, 3, 4, 5, 6, 7, 8] (c_X9_follow l K am (thr (bI (0 ≤ y ∧ y < NF 0)) (bI (0 ≤ z ∧ z ≤ 3999)) 1) rw lg mr en pw sl ly dn iz tz nx st tk vl ef ep hO hB ol rm oz NF A0 A1 A2 A3 A4 A5 A6 y x z hN hv qb hx) rfl rfl 0 rfl rfl (cwV 3 S.2.2.2.2 gX9_shiftOf_X9_follow rfl rfl rfl (by decide +kernel) ⟨Nat.le_of_ble_eq_true rfl, Nat.le_of_ble_eq_true rfl⟩) rfl hl.1 rfl (Nat.le_of_ble_eq_true rfl) dX9_shiftOf_22 ⟨Nat.le_of_ble_eq_true rfl, Nat.le_of_ble_eq_true rfl⟩ (fun _ => Nat.le_of_ble_eq_true rfl) (fun _ => rfl) (fun u H locs hp hG => ?_)
    obtain ⟨lg2_22, mr2_22, en2_22, pw2_22, sl2_22, ly2_22, dn2_22, B0_22, B1_22, B2_22, B3_22, B4_22, B5_22, B6_22⟩ := u
    have hf_22 := hp
    have hf_22 : FolR NF z y x lg2_22 mr2_22 en2_22 pw2_22 B0_22 B1_22 B2_22 B3_22 B4_22 B5_22 B6_22 := hf_22
    have hG : gW K A s.heap [gMdl K am (thr (bI (0 ≤ y ∧ y < NF 0)) (bI (0 ≤ z ∧ z ≤ 3999)) 1) rw lg2_22 mr2_22 en2_22 pw2_22 sl2_22 ly2_22 dn2_22 iz tz nx st tk vl ef ep hO hB ol rm oz, gArr K 95 rw NF, gArr K 60 (am 3) B0_22, gArrZ K 60 (am 4) B1_22, gArr K 60 (am 5) B2_22, gArr K 60 (am 6) B3_22, gArr K 60 (am 7) B4_22, gArr K 60 (am 8) B5_22, gArr K 60 (am 9) B6_22] _ _ := hG
    have fb := hf_22.bd hN qb.1 hx
    have f3 := hf_22.2.2.1
    refine lv_aload_n S.1 S.2.1 dX9_shiftOf_25 rfl (lv_at hl 0 rfl) ?_
    refine g_get S C hG iX90 0 rfl rfl 13 (by decide) (List.mem_of_getElem? (i := 1) rfl) rfl dX9_shiftOf_26 ?_
    refine g_iconst S dX9_shiftOf_29 ?_
    refine g_icmp_ne (tgt := 37) S dX9_shiftOf_30 (by decide) (by omega) (by omega) (fun q30 => ?_) (fun q30 => ?_)
    · skip
      refine lv_aload_n S.1 S.2.1 dX9_shiftOf_37 rfl (lv_at hl 0 rfl) ?_
      refine g_get S C hG iX90 0 rfl rfl 6 (by decide) (List.mem_of_getElem? (i := 2) rfl) rfl dX9_shiftOf_38 ?_
      refine lv_aload_n S.1 S.2.1 dX9_shiftOf_41 rfl (lv_at hl 0 rfl) ?_
      refine g_get S C hG iX90 0 rfl rfl 11 (by decide) (List.mem_of_getElem? (i := 3) rfl) rfl dX9_shiftOf_42 ?_
      refine g_invS (As := [.ref (am 5), .int (iI lg2_22)]) (rest := []) (gs' := (fun u : Unit => [gMdl K am (thr (bI (0 ≤ y ∧ y < NF 0)) (bI (0 ≤ z ∧ z ≤ 3999)) 1) rw lg2_22 mr2_22 en2_22 pw2_22 sl2_22 ly2_22 dn2_22 iz tz nx st tk vl ef ep hO hB ol rm oz, gArr K 95 rw NF, gArr K 60 (am 3) B0_22, gArrZ K 60 (am 4) B1_22, gArr K 60 (am 5) B2_22, gArr K 60 (am 6) B3_22, gArr K 60 (am 7) B4_22, gArr K 60 (am 8) B5_22, gArr K 60 (am 9) B6_22])) S C hG [4] (c_X9_sumUp l K (am 5) B2_22 lg2_22 fb.1) rfl rfl (va_cwS 2 S.2.2.2.2 gX9_shiftOf_X9_sumUp rfl rfl rfl (by decide +kernel) ⟨Nat.le_of_ble_eq_true rfl, Nat.le_of_ble_eq_true rfl⟩) rfl hl.1 rfl (Nat.le_of_ble_eq_true rfl) dX9_shiftOf_45 ⟨Nat.le_of_ble_eq_true rfl, Nat.le_of_ble_eq_true rfl⟩ (fun _ => Nat.le_of_ble_eq_true rfl) (fun _ => rfl) (fun v u H locs hp hG => ?_)
      subst hp
      refine g_top (w := .int (iI (shF NF z y x))) (congrArg (fun z : Int => Value.int (iI z)) (hf_22.s2)) ?_
      have hG : gW K A s.heap [gMdl K am (thr (bI (0 ≤ y ∧ y < NF 0)) (bI (0 ≤ z ∧ z ≤ 3999)) 1) rw lg2_22 mr2_22 en2_22 pw2_22 sl2_22 ly2_22 dn2_22 iz tz nx st tk vl ef ep hO hB ol rm oz, gArr K 95 rw NF, gArr K 60 (am 3) B0_22, gArrZ K 60 (am 4) B1_22, gArr K 60 (am 5) B2_22, gArr K 60 (am 6) B3_22, gArr K 60 (am 7) B4_22, gArr K 60 (am 8) B5_22, gArr K 60 (am 9) B6_22] _ _ := hG
      exact g_iret S hr hlk hQ dX9_shiftOf_48 (Nat.le_of_ble_eq_true rfl) (Nat.le_of_ble_eq_true rfl) ((shF NF z y x, lg2_22, mr2_22, en2_22, pw2_22, sl2_22, ly2_22, dn2_22, B0_22, B1_22, B2_22, B3_22, B4_22, B5_22, B6_22) : Int × Int × Int × Int × Int × Int × Int × Int × (Int → Int) × (Int → Int) × (Int → Int) × (Int → Int) × (Int → Int) × (Int → Int) × (Int → Int)) ⟨rfl, (fun _ => by unfold shiA <;> rw [if_neg (by omega)])⟩ hG
    · skip
      refine g_iconst S dX9_shiftOf_33 ?_
      refine lv_goto (tgt := 48) S.1 S.2.1 dX9_shiftOf_34 (by decide) ?_
      have hG : gW K A s.heap [gMdl K am (thr (bI (0 ≤ y ∧ y < NF 0)) (bI (0 ≤ z ∧ z ≤ 3999)) 1) rw lg2_22 mr2_22 en2_22 pw2_22 sl2_22 ly2_22 dn2_22 iz tz nx st tk vl ef ep hO hB ol rm oz, gArr K 95 rw NF, gArr K 60 (am 3) B0_22, gArrZ K 60 (am 4) B1_22, gArr K 60 (am 5) B2_22, gArr K 60 (am 6) B3_22, gArr K 60 (am 7) B4_22, gArr K 60 (am 8) B5_22, gArr K 60 (am 9) B6_22] _ _ := hG
      exact g_iret S hr hlk hQ dX9_shiftOf_48 (Nat.le_of_ble_eq_true rfl) (Nat.le_of_ble_eq_true rfl) (((-1), lg2_22, mr2_22, en2_22, pw2_22, sl2_22, ly2_22, dn2_22, B0_22, B1_22, B2_22, B3_22, B4_22, B5_22, B6_22) : Int × Int × Int × Int × Int × Int × Int × Int × (Int → Int) × (Int → Int) × (Int → Int) × (Int → Int) × (Int → Int) × (Int → Int) × (Int → Int)) ⟨rfl, (fun _ => by unfold shiA <;> rw [if_pos (by omega)])⟩ hG
  · skip
    refine g_iconst S dX9_shiftOf_16 ?_
    have hG : gW K A s.heap [gMdl K am (thr (bI (0 ≤ y ∧ y < NF 0)) (bI (0 ≤ z ∧ z ≤ 3999)) 1) rw lg mr en pw sl ly dn iz tz nx st tk vl ef ep hO hB ol rm oz, gArr K 95 rw NF, gArr K 60 (am 3) A0, gArrZ K 60 (am 4) A1, gArr K 60 (am 5) A2, gArr K 60 (am 6) A3, gArr K 60 (am 7) A4, gArr K 60 (am 8) A5, gArr K 60 (am 9) A6] _ _ := hG
    exact g_iret S hr hlk hQ dX9_shiftOf_17 (Nat.le_of_ble_eq_true rfl) (Nat.le_of_ble_eq_true rfl) ((0, lg, mr, en, pw, sl, ly, dn, A0, A1, A2, A3, A4, A5, A6) : Int × Int × Int × Int × Int × Int × Int × Int × (Int → Int) × (Int → Int) × (Int → Int) × (Int → Int) × (Int → Int) × (Int → Int) × (Int → Int)) ⟨rfl, (fun h => absurd ⟨bI_t h.1, bI_t h.2⟩ q13)⟩ hG
