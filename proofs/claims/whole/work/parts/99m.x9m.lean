set_option maxHeartbeats 1000000 in
set_option maxRecDepth 100000 in
theorem c_X9_shoot (l : Launch) (K : KC) (am : Nat → Nat) (th : Int) (lg : Int) (mr : Int) (en : Int) (pw : Int) (sl : Int) (ly : Int) (dn : Int) (iz : Int) (tz : Int) (nx : Int) (st : Int) (tk : Int) (vl : Int) (ef : Int) (ep : Int) (hO : Int) (hB : Int) (ol : Int) (rm : Int) (oz : Int) (NF : Int → Int) (PA : Int → Int) (y : Int) (x : Int) (z : Int) (hN : NOk0 NF) (hv : -2147483648 ≤ y ∧ y < 2147483648) (hx : x = 0 ∨ x = 1) (hz : -2147483648 ≤ z ∧ z < 2147483648) (hrm : 0 ≤ rm ∧ rm ≤ 6) (g1 : 0 ≤ y ∧ y < NF 0) (g2 : (0 ≤ y ∧ y < NF 0) ∧ (0 ≤ z ∧ z ≤ 3999) ∧ z < NF (5 + 3 * y + 0)) (g3 : NF 4 < 20) : mG l yX9_shoot wsX9_shoot 2 46 K [.ref (am 0), .int (iI y), .int (iI x), .int (iI z)] [gMdl K am th (am 1) lg mr en pw sl ly dn iz tz nx st tk vl ef ep hO hB ol rm oz, gArr K 95 (am 1) NF, gArr K 570 (am 18) PA] (fun (v : Value) (u : (Int → Int) × Int) => (v = .int (iI (NF 4))) ∧ (∀ j : Int, 0 ≤ j → j < 570 → u.1 j = remP rm PA NF j) ∧ (u.2 = min (rm + 1) 6)) (fun (u : (Int → Int) × Int) => [gMdl K am (thr (bI (0 ≤ y ∧ y < NF 0)) (bI ((0 ≤ y ∧ y < NF 0) ∧ (0 ≤ z ∧ z ≤ 3999) ∧ z < NF (5 + 3 * y + 0))) (bI (NF 4 < 20))) (am 1) lg mr en pw sl ly dn iz tz nx st tk vl ef ep hO hB ol u.2 oz, gArr K 95 (am 1) (addSN NF y x z), gArr K 570 (am 18) u.1]) 0 0 := by
  refine mG_of cX9_shoot 5 (by decide) rfl (Nat.le_of_ble_eq_true rfl) ?_
  intro p e s m below meth c A ls Q S C hG hl hr hlk hin hQ
  have S : CallFix p m c cX9_shoot 5 s ([.ref (am 0), .int (iI y), .int (iI x), .int (iI z)] : List Value).toArray wsX9_shoot RX9 := S
  have iX90 : ∀ w ∈ wsX90, w ∈ wsX9_shoot := fun _ h => List.mem_cons_of_mem _ (List.mem_append_right _ (h))
  have hl : lv_has ls 5 [(0, .ref (am 0)), (1, .int (iI y)), (2, .int (iI x)), (3, .int (iI z))] := hl
  have hG : gW K A s.heap [gMdl K am th (am 1) lg mr en pw sl ly dn iz tz nx st tk vl ef ep hO hB ol rm oz, gArr K 95 (am 1) NF, gArr K 570 (am 18) PA] s.heap [] := hG
  have n0 := hN.1
  have n3 := hN.2.2.2.1
  refine lv_aload_n S.1 S.2.1 dX9_shoot_0 rfl (lv_at hl 0 rfl) ?_
  refine lv_iload_n S.1 S.2.1 dX9_shoot_1 rfl (lv_at hl 1 rfl) ?_
  refine g_invV (As := [.int (iI y)]) (rest := []) (gs' := (fun u : Unit => [gMdl K am th (am 1) lg mr en pw sl ly dn iz tz nx st tk vl ef ep hO hB ol rm oz, gArr K 95 (am 1) NF, gArr K 570 (am 18) PA])) S C hG [0, 1] (c_X9_isLayer l K am th (am 1) lg mr en pw sl ly dn iz tz nx st tk vl ef ep hO hB ol rm oz NF y hN hv) rfl rfl 0 rfl rfl (cwV 1 S.2.2.2.2 gX9_shoot_X9_isLayer rfl rfl rfl (by decide +kernel) ⟨Nat.le_of_ble_eq_true rfl, Nat.le_of_ble_eq_true rfl⟩) rfl hl.1 rfl (Nat.le_of_ble_eq_true rfl) dX9_shoot_2 ⟨Nat.le_of_ble_eq_true rfl, Nat.le_of_ble_eq_true rfl⟩ (fun _ => Nat.le_of_ble_eq_true rfl) (fun _ => rfl) (fun v u H locs hp hG => ?_)
  subst hp
  refine lv_istore (lv' := [(4, .int (iI (bI (0 ≤ y ∧ y < NF 0)))), (0, .ref (am 0)), (1, .int (iI y)), (2, .int (iI x)), (3, .int (iI z))]) S.1 S.2.1 dX9_shoot_5 hl (by decide) rfl (fun ls hl => ?_)
  refine lv_aload_n S.1 S.2.1 dX9_shoot_7 rfl (lv_at hl 1 rfl) ?_
  refine lv_iload S.1 S.2.1 dX9_shoot_8 (lv_at hl 0 rfl) ?_
  refine lv_iload S.1 S.2.1 dX9_shoot_10 (lv_at hl 0 rfl) ?_
  have J37 : ∀ (H : Heap) (locs : List Loc) (ls : Array Slot), lv_has ls 5 [(0, .ref (am 0)), (1, .int (iI y)), (2, .int (iI x)), (3, .int (iI z)), (4, .int (iI (bI (0 ≤ y ∧ y < NF 0))))] → gW K A s.heap [gMdl K am th (am 1) lg mr en pw sl ly dn iz tz nx st tk vl ef ep hO hB ol rm oz, gArr K 95 (am 1) NF, gArr K 570 (am 18) PA] H locs → W p l e { frames := 2, cells := 0, slots := 0, locals := 46 } s m ([.ref (am 0), .int (iI y), .int (iI x), .int (iI z)] : List Value).toArray below meth c H locs 0 0 Q (F0 m 37 ls [.int (iI (bI ((0 ≤ y ∧ y < NF 0) ∧ (0 ≤ z ∧ z ≤ 3999) ∧ z < NF (5 + 3 * y + 0)))), .int (iI (bI (0 ≤ y ∧ y < NF 0))), .ref (am 0)]) := by
    intro  H locs ls  hl hG
    refine lv_aload_n S.1 S.2.1 dX9_shoot_37 rfl (lv_at hl 0 rfl) ?_
    refine g_invV (As := []) (rest := [.int (iI (bI ((0 ≤ y ∧ y < NF 0) ∧ (0 ≤ z ∧ z ≤ 3999) ∧ z < NF (5 + 3 * y + 0)))), .int (iI (bI (0 ≤ y ∧ y < NF 0))), .ref (am 0)]) (gs' := (fun u : Unit => [gMdl K am th (am 1) lg mr en pw sl ly dn iz tz nx st tk vl ef ep hO hB ol rm oz, gArr K 95 (am 1) NF, gArr K 570 (am 18) PA])) S C hG [0, 1] (c_X9_shots l K am th (am 1) lg mr en pw sl ly dn iz tz nx st tk vl ef ep hO hB ol rm oz NF) rfl rfl 0 rfl rfl (cwV 0 S.2.2.2.2 gX9_shoot_X9_shots rfl rfl rfl (by decide +kernel) ⟨Nat.le_of_ble_eq_true rfl, Nat.le_of_ble_eq_true rfl⟩) rfl hl.1 rfl (Nat.le_of_ble_eq_true rfl) dX9_shoot_38 ⟨Nat.le_of_ble_eq_true rfl, Nat.le_of_ble_eq_true rfl⟩ (fun _ => Nat.le_of_ble_eq_true rfl) (fun _ => rfl) (fun v u H locs hp hG => ?_)
    subst hp
    refine g_bipush S dX9_shoot_41 (by decide) ?_
    have J51 : ∀ (H : Heap) (locs : List Loc) (ls : Array Slot), lv_has ls 5 [(0, .ref (am 0)), (1, .int (iI y)), (2, .int (iI x)), (3, .int (iI z)), (4, .int (iI (bI (0 ≤ y ∧ y < NF 0))))] → gW K A s.heap [gMdl K am th (am 1) lg mr en pw sl ly dn iz tz nx st tk vl ef ep hO hB ol rm oz, gArr K 95 (am 1) NF, gArr K 570 (am 18) PA] H locs → W p l e { frames := 2, cells := 0, slots := 0, locals := 46 } s m ([.ref (am 0), .int (iI y), .int (iI x), .int (iI z)] : List Value).toArray below meth c H locs 0 0 Q (F0 m 51 ls [.int (iI (bI (NF 4 < 20))), .int (iI (bI ((0 ≤ y ∧ y < NF 0) ∧ (0 ≤ z ∧ z ≤ 3999) ∧ z < NF (5 + 3 * y + 0)))), .int (iI (bI (0 ≤ y ∧ y < NF 0))), .ref (am 0)]) := by
      intro  H locs ls  hl hG
      refine g_invV (As := [.int (iI (bI (0 ≤ y ∧ y < NF 0))), .int (iI (bI ((0 ≤ y ∧ y < NF 0) ∧ (0 ≤ z ∧ z ≤ 3999) ∧ z < NF (5 + 3 * y + 0)))), .int (iI (bI (NF 4 < 20)))]) (rest := []) (gs' := (fun u : Unit => [gMdl K am (thr (bI (0 ≤ y ∧ y < NF 0)) (bI ((0 ≤ y ∧ y < NF 0) ∧ (0 ≤ z ∧ z ≤ 3999) ∧ z < NF (5 + 3 * y + 0))) (bI (NF 4 < 20))) (am 1) lg mr en pw sl ly dn iz tz nx st tk vl ef ep hO hB ol rm oz, gArr K 95 (am 1) NF, gArr K 570 (am 18) PA])) S C hG [0] (c_X9_passes3 l K am th (am 1) lg mr en pw sl ly dn iz tz nx st tk vl ef ep hO hB ol rm oz (bI (0 ≤ y ∧ y < NF 0)) (bI ((0 ≤ y ∧ y < NF 0) ∧ (0 ≤ z ∧ z ≤ 3999) ∧ z < NF (5 + 3 * y + 0))) (bI (NF 4 < 20)) (bI_01 _) (bI_01 _) (bI_01 _)) rfl rfl 0 rfl rfl (cwV 3 S.2.2.2.2 gX9_shoot_X9_passes3 rfl rfl rfl (by decide +kernel) ⟨Nat.le_of_ble_eq_true rfl, Nat.le_of_ble_eq_true rfl⟩) rfl hl.1 rfl (Nat.le_of_ble_eq_true rfl) dX9_shoot_51 ⟨Nat.le_of_ble_eq_true rfl, Nat.le_of_ble_eq_true rfl⟩ (fun _ => Nat.le_of_ble_eq_true rfl) (fun _ => rfl) (fun v u H locs hp hG => ?_)
      subst hp
      refine g_ifne_b (B := ((bI (0 ≤ y ∧ y < NF 0)) = 1 ∧ (bI ((0 ≤ y ∧ y < NF 0) ∧ (0 ≤ z ∧ z ≤ 3999) ∧ z < NF (5 + 3 * y + 0))) = 1 ∧ (bI (NF 4 < 20)) = 1)) (tgt := 59) S dX9_shoot_54 (by decide) (fun q54 => ?_) (fun q54 => ?_)
      · skip
        refine lv_aload_n S.1 S.2.1 dX9_shoot_59 rfl (lv_at hl 0 rfl) ?_
        refine g_invVv (As := []) (rest := []) (gs' := (fun u : (Int → Int) × Int => [gMdl K am (thr (bI (0 ≤ y ∧ y < NF 0)) (bI ((0 ≤ y ∧ y < NF 0) ∧ (0 ≤ z ∧ z ≤ 3999) ∧ z < NF (5 + 3 * y + 0))) (bI (NF 4 < 20))) (am 1) lg mr en pw sl ly dn iz tz nx st tk vl ef ep hO hB ol u.2 oz, gArr K 95 (am 1) NF, gArr K 570 (am 18) u.1])) S C hG [0, 1, 2] (c_X9_remember l K am (thr (bI (0 ≤ y ∧ y < NF 0)) (bI ((0 ≤ y ∧ y < NF 0) ∧ (0 ≤ z ∧ z ≤ 3999) ∧ z < NF (5 + 3 * y + 0))) (bI (NF 4 < 20))) lg mr en pw sl ly dn iz tz nx st tk vl ef ep hO hB ol rm oz NF PA hrm) rfl rfl 0 rfl rfl (cwV 0 S.2.2.2.2 gX9_shoot_X9_remember rfl rfl rfl (by decide +kernel) ⟨Nat.le_of_ble_eq_true rfl, Nat.le_of_ble_eq_true rfl⟩) rfl hl.1 rfl (Nat.le_of_ble_eq_true rfl) dX9_shoot_60 ⟨Nat.le_of_ble_eq_true rfl, Nat.le_of_ble_eq_true rfl⟩ (fun _ => Nat.le_of_ble_eq_true rfl) (fun _ => rfl) (fun u H locs hp hG => ?_)
        obtain ⟨P2_60, rm2_60⟩ := u
        obtain ⟨hP_60, hm_60⟩ := hp
        have hP_60 : ∀ j : Int, 0 ≤ j → j < 570 → P2_60 j = remP rm PA NF j := hP_60
        have hm_60 : rm2_60 = min (rm + 1) 6 := hm_60
        have hG : gW K A s.heap [gMdl K am (thr (bI (0 ≤ y ∧ y < NF 0)) (bI ((0 ≤ y ∧ y < NF 0) ∧ (0 ≤ z ∧ z ≤ 3999) ∧ z < NF (5 + 3 * y + 0))) (bI (NF 4 < 20))) (am 1) lg mr en pw sl ly dn iz tz nx st tk vl ef ep hO hB ol rm2_60 oz, gArr K 95 (am 1) NF, gArr K 570 (am 18) P2_60] _ _ := hG
        refine lv_aload_n S.1 S.2.1 dX9_shoot_63 rfl (lv_at hl 0 rfl) ?_
        refine lv_iload_n S.1 S.2.1 dX9_shoot_64 rfl (lv_at hl 1 rfl) ?_
        refine lv_iload_n S.1 S.2.1 dX9_shoot_65 rfl (lv_at hl 2 rfl) ?_
        refine lv_iload_n S.1 S.2.1 dX9_shoot_66 rfl (lv_at hl 3 rfl) ?_
        refine g_invVv (As := [.int (iI y), .int (iI x), .int (iI z)]) (rest := []) (gs' := (fun u : (Int → Int) => [gMdl K am (thr (bI (0 ≤ y ∧ y < NF 0)) (bI ((0 ≤ y ∧ y < NF 0) ∧ (0 ≤ z ∧ z ≤ 3999) ∧ z < NF (5 + 3 * y + 0))) (bI (NF 4 < 20))) (am 1) lg mr en pw sl ly dn iz tz nx st tk vl ef ep hO hB ol rm2_60 oz, gArr K 95 (am 1) u, gArr K 570 (am 18) P2_60])) S C hG [0, 1] (c_X9_addShot l K am (thr (bI (0 ≤ y ∧ y < NF 0)) (bI ((0 ≤ y ∧ y < NF 0) ∧ (0 ≤ z ∧ z ≤ 3999) ∧ z < NF (5 + 3 * y + 0))) (bI (NF 4 < 20))) (am 1) lg mr en pw sl ly dn iz tz nx st tk vl ef ep hO hB ol rm2_60 oz NF y x z (by omega) hx) rfl rfl 0 rfl rfl (cwV 3 S.2.2.2.2 gX9_shoot_X9_addShot rfl rfl rfl (by decide +kernel) ⟨Nat.le_of_ble_eq_true rfl, Nat.le_of_ble_eq_true rfl⟩) rfl hl.1 rfl (Nat.le_of_ble_eq_true rfl) dX9_shoot_67 ⟨Nat.le_of_ble_eq_true rfl, Nat.le_of_ble_eq_true rfl⟩ (fun _ => Nat.le_of_ble_eq_true rfl) (fun _ => rfl) (fun u H locs hp hG => ?_)
        obtain ⟨F2_67, rfl⟩ : ∃ z, z = u := ⟨_, rfl⟩
        have hF_67 := hp
        have hF_67 : F2_67 = addSN NF y x z := hF_67
        have hG : gW K A s.heap [gMdl K am (thr (bI (0 ≤ y ∧ y < NF 0)) (bI ((0 ≤ y ∧ y < NF 0) ∧ (0 ≤ z ∧ z ≤ 3999) ∧ z < NF (5 + 3 * y + 0))) (bI (NF 4 < 20))) (am 1) lg mr en pw sl ly dn iz tz nx st tk vl ef ep hO hB ol rm2_60 oz, gArr K 95 (am 1) F2_67, gArr K 570 (am 18) P2_60] _ _ := hG
        subst hF_67
        refine lv_aload_n S.1 S.2.1 dX9_shoot_70 rfl (lv_at hl 0 rfl) ?_
        refine g_invV (As := []) (rest := []) (gs' := (fun u : Unit => [gMdl K am (thr (bI (0 ≤ y ∧ y < NF 0)) (bI ((0 ≤ y ∧ y < NF 0) ∧ (0 ≤ z ∧ z ≤ 3999) ∧ z < NF (5 + 3 * y + 0))) (bI (NF 4 < 20))) (am 1) lg mr en pw sl ly dn iz tz nx st tk vl ef ep hO hB ol rm2_60 oz, gArr K 95 (am 1) (addSN NF y x z), gArr K 570 (am 18) P2_60])) S C hG [0, 1] (c_X9_shots l K am (thr (bI (0 ≤ y ∧ y < NF 0)) (bI ((0 ≤ y ∧ y < NF 0) ∧ (0 ≤ z ∧ z ≤ 3999) ∧ z < NF (5 + 3 * y + 0))) (bI (NF 4 < 20))) (am 1) lg mr en pw sl ly dn iz tz nx st tk vl ef ep hO hB ol rm2_60 oz (addSN NF y x z)) rfl rfl 0 rfl rfl (cwV 0 S.2.2.2.2 gX9_shoot_X9_shots rfl rfl rfl (by decide +kernel) ⟨Nat.le_of_ble_eq_true rfl, Nat.le_of_ble_eq_true rfl⟩) rfl hl.1 rfl (Nat.le_of_ble_eq_true rfl) dX9_shoot_71 ⟨Nat.le_of_ble_eq_true rfl, Nat.le_of_ble_eq_true rfl⟩ (fun _ => Nat.le_of_ble_eq_true rfl) (fun _ => rfl) (fun v u H locs hp hG => ?_)
        subst hp
        refine g_top (w := .int (iI (NF 4 + 1))) (congrArg (fun z : Int => Value.int (iI z)) ((addSN4 NF (by omega) y x z))) ?_
        refine g_iconst S dX9_shoot_74 ?_
        refine g_isub S dX9_shoot_75 rfl ?_
        have hG : gW K A s.heap [gMdl K am (thr (bI (0 ≤ y ∧ y < NF 0)) (bI ((0 ≤ y ∧ y < NF 0) ∧ (0 ≤ z ∧ z ≤ 3999) ∧ z < NF (5 + 3 * y + 0))) (bI (NF 4 < 20))) (am 1) lg mr en pw sl ly dn iz tz nx st tk vl ef ep hO hB ol rm2_60 oz, gArr K 95 (am 1) (addSN NF y x z), gArr K 570 (am 18) P2_60] _ _ := hG
        exact g_iret S hr hlk hQ dX9_shoot_76 (Nat.le_of_ble_eq_true rfl) (Nat.le_of_ble_eq_true rfl) ((P2_60, rm2_60) : (Int → Int) × Int) ⟨(congrArg (fun z : Int => Value.int (iI z)) (by omega)), hP_60, hm_60⟩ hG
      · skip
        exact absurd ⟨bI_t g1, bI_t g2, bI_t g3⟩ q54
    refine g_icmp_ge (tgt := 50) S dX9_shoot_43 (by decide) (by omega) (by omega) (fun q43 => ?_) (fun q43 => ?_)
    · skip
      refine g_iconst S dX9_shoot_50 ?_
      refine g_top (w := .int (iI (bI (NF 4 < 20)))) (congrArg (fun z : Int => Value.int (iI z)) ((bI_f (by omega)).symm)) ?_
      exact J51 _ _ _ (lv_sub hl [0, 1, 2, 3, 4] rfl) hG
    · skip
      refine g_iconst S dX9_shoot_46 ?_
      refine g_top (w := .int (iI (bI (NF 4 < 20)))) (congrArg (fun z : Int => Value.int (iI z)) ((bI_t (by omega)).symm)) ?_
      refine lv_goto (tgt := 51) S.1 S.2.1 dX9_shoot_47 (by decide) ?_
      exact J51 _ _ _ (lv_sub hl [0, 1, 2, 3, 4] rfl) hG
  refine g_ifeq_b (B := (0 ≤ y ∧ y < NF 0)) (tgt := 36) S dX9_shoot_12 (by decide) (fun q12 => ?_) (fun q12 => ?_)
  · skip
    refine g_iconst S dX9_shoot_36 ?_
    refine g_top (w := .int (iI (bI ((0 ≤ y ∧ y < NF 0) ∧ (0 ≤ z ∧ z ≤ 3999) ∧ z < NF (5 + 3 * y + 0))))) (congrArg (fun z : Int => Value.int (iI z)) ((by first | exact (bI_f (fun z => absurd z.1 q12)).symm | exact (bI_f (fun z => absurd z.2.1 q19)).symm | exact (bI_f (fun z => absurd z.2.2 (by omega))).symm))) ?_
    exact J37 _ _ _ (lv_sub hl [1, 2, 3, 4, 0] rfl) hG
  · skip
    refine lv_iload_n S.1 S.2.1 dX9_shoot_15 rfl (lv_at hl 4 rfl) ?_
    refine g_invS (As := [.int (iI z)]) (rest := [.int (iI (bI (0 ≤ y ∧ y < NF 0))), .ref (am 0)]) (gs' := (fun u : Unit => [gMdl K am th (am 1) lg mr en pw sl ly dn iz tz nx st tk vl ef ep hO hB ol rm oz, gArr K 95 (am 1) NF, gArr K 570 (am 18) PA])) S C hG [] (c_X9_isSlant l K z hz) rfl rfl (va_cwS 1 S.2.2.2.2 gX9_shoot_X9_isSlant rfl rfl rfl (by decide +kernel) ⟨Nat.le_of_ble_eq_true rfl, Nat.le_of_ble_eq_true rfl⟩) rfl hl.1 rfl (Nat.le_of_ble_eq_true rfl) dX9_shoot_16 ⟨Nat.le_of_ble_eq_true rfl, Nat.le_of_ble_eq_true rfl⟩ (fun _ => Nat.le_of_ble_eq_true rfl) (fun _ => rfl) (fun v u H locs hp hG => ?_)
    subst hp
    refine g_ifeq_b (B := (0 ≤ z ∧ z ≤ 3999)) (tgt := 36) S dX9_shoot_19 (by decide) (fun q19 => ?_) (fun q19 => ?_)
    · skip
      refine g_iconst S dX9_shoot_36 ?_
      refine g_top (w := .int (iI (bI ((0 ≤ y ∧ y < NF 0) ∧ (0 ≤ z ∧ z ≤ 3999) ∧ z < NF (5 + 3 * y + 0))))) (congrArg (fun z : Int => Value.int (iI z)) ((by first | exact (bI_f (fun z => absurd z.1 q12)).symm | exact (bI_f (fun z => absurd z.2.1 q19)).symm | exact (bI_f (fun z => absurd z.2.2 (by omega))).symm))) ?_
      exact J37 _ _ _ (lv_sub hl [1, 2, 3, 4, 0] rfl) hG
    · skip
      have ly9 := lay_bd hN q12.1 q12.2
      have ly8 : 1000 ≤ NF (5 + 3 * y + 0) ∧ NF (5 + 3 * y + 0) ≤ 4000 := ly9.1
      refine lv_iload_n S.1 S.2.1 dX9_shoot_22 rfl (lv_at hl 4 rfl) ?_
      refine lv_aload_n S.1 S.2.1 dX9_shoot_23 rfl (lv_at hl 1 rfl) ?_
      refine lv_iload_n S.1 S.2.1 dX9_shoot_24 rfl (lv_at hl 2 rfl) ?_
      refine g_iconst S dX9_shoot_25 ?_
      refine g_invV (As := [.int (iI y), .int (iI 0)]) (rest := [.int (iI z), .int (iI (bI (0 ≤ y ∧ y < NF 0))), .ref (am 0)]) (gs' := (fun u : Unit => [gMdl K am th (am 1) lg mr en pw sl ly dn iz tz nx st tk vl ef ep hO hB ol rm oz, gArr K 95 (am 1) NF, gArr K 570 (am 18) PA])) S C hG [0, 1] (c_X9_ofLayer l K am th (am 1) lg mr en pw sl ly dn iz tz nx st tk vl ef ep hO hB ol rm oz NF y 0 (by omega) (by decide)) rfl rfl 0 rfl rfl (cwV 2 S.2.2.2.2 gX9_shoot_X9_ofLayer rfl rfl rfl (by decide +kernel) ⟨Nat.le_of_ble_eq_true rfl, Nat.le_of_ble_eq_true rfl⟩) rfl hl.1 rfl (Nat.le_of_ble_eq_true rfl) dX9_shoot_26 ⟨Nat.le_of_ble_eq_true rfl, Nat.le_of_ble_eq_true rfl⟩ (fun _ => Nat.le_of_ble_eq_true rfl) (fun _ => rfl) (fun v u H locs hp hG => ?_)
      subst hp
      refine g_icmp_ge (tgt := 36) S dX9_shoot_29 (by decide) (by omega) (by omega) (fun q29 => ?_) (fun q29 => ?_)
      · skip
        refine g_iconst S dX9_shoot_36 ?_
        refine g_top (w := .int (iI (bI ((0 ≤ y ∧ y < NF 0) ∧ (0 ≤ z ∧ z ≤ 3999) ∧ z < NF (5 + 3 * y + 0))))) (congrArg (fun z : Int => Value.int (iI z)) ((by first | exact (bI_f (fun z => absurd z.1 q12)).symm | exact (bI_f (fun z => absurd z.2.1 q19)).symm | exact (bI_f (fun z => absurd z.2.2 (by omega))).symm))) ?_
        exact J37 _ _ _ (lv_sub hl [1, 2, 3, 4, 0] rfl) hG
      · skip
        refine g_iconst S dX9_shoot_32 ?_
        refine g_top (w := .int (iI (bI ((0 ≤ y ∧ y < NF 0) ∧ (0 ≤ z ∧ z ≤ 3999) ∧ z < NF (5 + 3 * y + 0))))) (congrArg (fun z : Int => Value.int (iI z)) ((bI_t ⟨q12, q19, by omega⟩).symm)) ?_
        refine lv_goto (tgt := 37) S.1 S.2.1 dX9_shoot_33 (by decide) ?_
        exact J37 _ _ _ (lv_sub hl [1, 2, 3, 4, 0] rfl) hG

set_option maxHeartbeats 1000000 in
set_option maxRecDepth 100000 in
theorem b_X9_shoot (l : Launch) (K : KC) (am : Nat → Nat) (th : Int) (lg : Int) (mr : Int) (en : Int) (pw : Int) (sl : Int) (ly : Int) (dn : Int) (iz : Int) (tz : Int) (nx : Int) (st : Int) (tk : Int) (vl : Int) (ef : Int) (ep : Int) (hO : Int) (hB : Int) (ol : Int) (rm : Int) (oz : Int) (NF : Int → Int) (y : Int) (x : Int) (z : Int) (hN : NOk0 NF) (hv : -2147483648 ≤ y ∧ y < 2147483648) (hx : x = 0 ∨ x = 1) (hz : -2147483648 ≤ z ∧ z < 2147483648) (hbad : ¬ ((0 ≤ y ∧ y < NF 0) ∧ ((0 ≤ y ∧ y < NF 0) ∧ (0 ≤ z ∧ z ≤ 3999) ∧ z < NF (5 + 3 * y + 0)) ∧ (NF 4 < 20))) : mG l yX9_shoot wsX9_shoot 2 46 K [.ref (am 0), .int (iI y), .int (iI x), .int (iI z)] [gMdl K am th (am 1) lg mr en pw sl ly dn iz tz nx st tk vl ef ep hO hB ol rm oz, gArr K 95 (am 1) NF] (fun (v : Value) (u : Unit) => (v = .int (iI 0))) (fun (u : Unit) => [gMdl K am (thr (bI (0 ≤ y ∧ y < NF 0)) (bI ((0 ≤ y ∧ y < NF 0) ∧ (0 ≤ z ∧ z ≤ 3999) ∧ z < NF (5 + 3 * y + 0))) (bI (NF 4 < 20))) (am 1) lg mr en pw sl ly dn iz tz nx st tk vl ef ep hO hB ol rm oz, gArr K 95 (am 1) NF]) 0 0 := by
  refine mG_of cX9_shoot 5 (by decide) rfl (Nat.le_of_ble_eq_true rfl) ?_
  intro p e s m below meth c A ls Q S C hG hl hr hlk hin hQ
  have S : CallFix p m c cX9_shoot 5 s ([.ref (am 0), .int (iI y), .int (iI x), .int (iI z)] : List Value).toArray wsX9_shoot RX9 := S
  have iX90 : ∀ w ∈ wsX90, w ∈ wsX9_shoot := fun _ h => List.mem_cons_of_mem _ (List.mem_append_right _ (h))
  have hl : lv_has ls 5 [(0, .ref (am 0)), (1, .int (iI y)), (2, .int (iI x)), (3, .int (iI z))] := hl
  have hG : gW K A s.heap [gMdl K am th (am 1) lg mr en pw sl ly dn iz tz nx st tk vl ef ep hO hB ol rm oz, gArr K 95 (am 1) NF] s.heap [] := hG
  have n0 := hN.1
  have n3 := hN.2.2.2.1
  refine lv_aload_n S.1 S.2.1 dX9_shoot_0 rfl (lv_at hl 0 rfl) ?_
  refine lv_iload_n S.1 S.2.1 dX9_shoot_1 rfl (lv_at hl 1 rfl) ?_
  refine g_invV (As := [.int (iI y)]) (rest := []) (gs' := (fun u : Unit => [gMdl K am th (am 1) lg mr en pw sl ly dn iz tz nx st tk vl ef ep hO hB ol rm oz, gArr K 95 (am 1) NF])) S C hG [0, 1] (c_X9_isLayer l K am th (am 1) lg mr en pw sl ly dn iz tz nx st tk vl ef ep hO hB ol rm oz NF y hN hv) rfl rfl 0 rfl rfl (cwV 1 S.2.2.2.2 gX9_shoot_X9_isLayer rfl rfl rfl (by decide +kernel) ⟨Nat.le_of_ble_eq_true rfl, Nat.le_of_ble_eq_true rfl⟩) rfl hl.1 rfl (Nat.le_of_ble_eq_true rfl) dX9_shoot_2 ⟨Nat.le_of_ble_eq_true rfl, Nat.le_of_ble_eq_true rfl⟩ (fun _ => Nat.le_of_ble_eq_true rfl) (fun _ => rfl) (fun v u H locs hp hG => ?_)
  subst hp
  refine lv_istore (lv' := [(4, .int (iI (bI (0 ≤ y ∧ y < NF 0)))), (0, .ref (am 0)), (1, .int (iI y)), (2, .int (iI x)), (3, .int (iI z))]) S.1 S.2.1 dX9_shoot_5 hl (by decide) rfl (fun ls hl => ?_)
  refine lv_aload_n S.1 S.2.1 dX9_shoot_7 rfl (lv_at hl 1 rfl) ?_
  refine lv_iload S.1 S.2.1 dX9_shoot_8 (lv_at hl 0 rfl) ?_
  refine lv_iload S.1 S.2.1 dX9_shoot_10 (lv_at hl 0 rfl) ?_
  have J37 : ∀ (H : Heap) (locs : List Loc) (ls : Array Slot), lv_has ls 5 [(0, .ref (am 0)), (1, .int (iI y)), (2, .int (iI x)), (3, .int (iI z)), (4, .int (iI (bI (0 ≤ y ∧ y < NF 0))))] → gW K A s.heap [gMdl K am th (am 1) lg mr en pw sl ly dn iz tz nx st tk vl ef ep hO hB ol rm oz, gArr K 95 (am 1) NF] H locs → W p l e { frames := 2, cells := 0, slots := 0, locals := 46 } s m ([.ref (am 0), .int (iI y), .int (iI x), .int (iI z)] : List Value).toArray below meth c H locs 0 0 Q (F0 m 37 ls [.int (iI (bI ((0 ≤ y ∧ y < NF 0) ∧ (0 ≤ z ∧ z ≤ 3999) ∧ z < NF (5 + 3 * y + 0)))), .int (iI (bI (0 ≤ y ∧ y < NF 0))), .ref (am 0)]) := by
    intro  H locs ls  hl hG
    refine lv_aload_n S.1 S.2.1 dX9_shoot_37 rfl (lv_at hl 0 rfl) ?_
    refine g_invV (As := []) (rest := [.int (iI (bI ((0 ≤ y ∧ y < NF 0) ∧ (0 ≤ z ∧ z ≤ 3999) ∧ z < NF (5 + 3 * y + 0)))), .int (iI (bI (0 ≤ y ∧ y < NF 0))), .ref (am 0)]) (gs' := (fun u : Unit => [gMdl K am th (am 1) lg mr en pw sl ly dn iz tz nx st tk vl ef ep hO hB ol rm oz, gArr K 95 (am 1) NF])) S C hG [0, 1] (c_X9_shots l K am th (am 1) lg mr en pw sl ly dn iz tz nx st tk vl ef ep hO hB ol rm oz NF) rfl rfl 0 rfl rfl (cwV 0 S.2.2.2.2 gX9_shoot_X9_shots rfl rfl rfl (by decide +kernel) ⟨Nat.le_of_ble_eq_true rfl, Nat.le_of_ble_eq_true rfl⟩) rfl hl.1 rfl (Nat.le_of_ble_eq_true rfl) dX9_shoot_38 ⟨Nat.le_of_ble_eq_true rfl, Nat.le_of_ble_eq_true rfl⟩ (fun _ => Nat.le_of_ble_eq_true rfl) (fun _ => rfl) (fun v u H locs hp hG => ?_)
    subst hp
    refine g_bipush S dX9_shoot_41 (by decide) ?_
    have J51 : ∀ (H : Heap) (locs : List Loc) (ls : Array Slot), lv_has ls 5 [(0, .ref (am 0)), (1, .int (iI y)), (2, .int (iI x)), (3, .int (iI z)), (4, .int (iI (bI (0 ≤ y ∧ y < NF 0))))] → gW K A s.heap [gMdl K am th (am 1) lg mr en pw sl ly dn iz tz nx st tk vl ef ep hO hB ol rm oz, gArr K 95 (am 1) NF] H locs → W p l e { frames := 2, cells := 0, slots := 0, locals := 46 } s m ([.ref (am 0), .int (iI y), .int (iI x), .int (iI z)] : List Value).toArray below meth c H locs 0 0 Q (F0 m 51 ls [.int (iI (bI (NF 4 < 20))), .int (iI (bI ((0 ≤ y ∧ y < NF 0) ∧ (0 ≤ z ∧ z ≤ 3999) ∧ z < NF (5 + 3 * y + 0)))), .int (iI (bI (0 ≤ y ∧ y < NF 0))), .ref (am 0)]) := by
      intro  H locs ls  hl hG
      refine g_invV (As := [.int (iI (bI (0 ≤ y ∧ y < NF 0))), .int (iI (bI ((0 ≤ y ∧ y < NF 0) ∧ (0 ≤ z ∧ z ≤ 3999) ∧ z < NF (5 + 3 * y + 0)))), .int (iI (bI (NF 4 < 20)))]) (rest := []) (gs' := (fun u : Unit => [gMdl K am (thr (bI (0 ≤ y ∧ y < NF 0)) (bI ((0 ≤ y ∧ y < NF 0) ∧ (0 ≤ z ∧ z ≤ 3999) ∧ z < NF (5 + 3 * y + 0))) (bI (NF 4 < 20))) (am 1) lg mr en pw sl ly dn iz tz nx st tk vl ef ep hO hB ol rm oz, gArr K 95 (am 1) NF])) S C hG [0] (c_X9_passes3 l K am th (am 1) lg mr en pw sl ly dn iz tz nx st tk vl ef ep hO hB ol rm oz (bI (0 ≤ y ∧ y < NF 0)) (bI ((0 ≤ y ∧ y < NF 0) ∧ (0 ≤ z ∧ z ≤ 3999) ∧ z < NF (5 + 3 * y + 0))) (bI (NF 4 < 20)) (bI_01 _) (bI_01 _) (bI_01 _)) rfl rfl 0 rfl rfl (cwV 3 S.2.2.2.2 gX9_shoot_X9_passes3 rfl rfl rfl (by decide +kernel) ⟨Nat.le_of_ble_eq_true rfl, Nat.le_of_ble_eq_true rfl⟩) rfl hl.1 rfl (Nat.le_of_ble_eq_true rfl) dX9_shoot_51 ⟨Nat.le_of_ble_eq_true rfl, Nat.le_of_ble_eq_true rfl⟩ (fun _ => Nat.le_of_ble_eq_true rfl) (fun _ => rfl) (fun v u H locs hp hG => ?_)
      subst hp
      refine g_ifne_b (B := ((bI (0 ≤ y ∧ y < NF 0)) = 1 ∧ (bI ((0 ≤ y ∧ y < NF 0) ∧ (0 ≤ z ∧ z ≤ 3999) ∧ z < NF (5 + 3 * y + 0))) = 1 ∧ (bI (NF 4 < 20)) = 1)) (tgt := 59) S dX9_shoot_54 (by decide) (fun q54 => ?_) (fun q54 => ?_)
      · skip
        exact absurd ⟨bI1 q54.1, bI1 q54.2.1, bI1 q54.2.2⟩ hbad
      · skip
        refine g_iconst S dX9_shoot_57 ?_
        have hG : gW K A s.heap [gMdl K am (thr (bI (0 ≤ y ∧ y < NF 0)) (bI ((0 ≤ y ∧ y < NF 0) ∧ (0 ≤ z ∧ z ≤ 3999) ∧ z < NF (5 + 3 * y + 0))) (bI (NF 4 < 20))) (am 1) lg mr en pw sl ly dn iz tz nx st tk vl ef ep hO hB ol rm oz, gArr K 95 (am 1) NF] _ _ := hG
        exact g_iret S hr hlk hQ dX9_shoot_58 (Nat.le_of_ble_eq_true rfl) (Nat.le_of_ble_eq_true rfl) (() : Unit) rfl hG
    refine g_icmp_ge (tgt := 50) S dX9_shoot_43 (by decide) (by omega) (by omega) (fun q43 => ?_) (fun q43 => ?_)
    · skip
      refine g_iconst S dX9_shoot_50 ?_
      refine g_top (w := .int (iI (bI (NF 4 < 20)))) (congrArg (fun z : Int => Value.int (iI z)) ((bI_f (by omega)).symm)) ?_
      exact J51 _ _ _ (lv_sub hl [0, 1, 2, 3, 4] rfl) hG
    · skip
      refine g_iconst S dX9_shoot_46 ?_
      refine g_top (w := .int (iI (bI (NF 4 < 20)))) (congrArg (fun z : Int => Value.int (iI z)) ((bI_t (by omega)).symm)) ?_
      refine lv_goto (tgt := 51) S.1 S.2.1 dX9_shoot_47 (by decide) ?_
      exact J51 _ _ _ (lv_sub hl [0, 1, 2, 3, 4] rfl) hG
  refine g_ifeq_b (B := (0 ≤ y ∧ y < NF 0)) (tgt := 36) S dX9_shoot_12 (by decide) (fun q12 => ?_) (fun q12 => ?_)
  · skip
    refine g_iconst S dX9_shoot_36 ?_
    refine g_top (w := .int (iI (bI ((0 ≤ y ∧ y < NF 0) ∧ (0 ≤ z ∧ z ≤ 3999) ∧ z < NF (5 + 3 * y + 0))))) (congrArg (fun z : Int => Value.int (iI z)) ((by first | exact (bI_f (fun z => absurd z.1 q12)).symm | exact (bI_f (fun z => absurd z.2.1 q19)).symm | exact (bI_f (fun z => absurd z.2.2 (by omega))).symm))) ?_
    exact J37 _ _ _ (lv_sub hl [1, 2, 3, 4, 0] rfl) hG
  · skip
    refine lv_iload_n S.1 S.2.1 dX9_shoot_15 rfl (lv_at hl 4 rfl) ?_
    refine g_invS (As := [.int (iI z)]) (rest := [.int (iI (bI (0 ≤ y ∧ y < NF 0))), .ref (am 0)]) (gs' := (fun u : Unit => [gMdl K am th (am 1) lg mr en pw sl ly dn iz tz nx st tk vl ef ep hO hB ol rm oz, gArr K 95 (am 1) NF])) S C hG [] (c_X9_isSlant l K z hz) rfl rfl (va_cwS 1 S.2.2.2.2 gX9_shoot_X9_isSlant rfl rfl rfl (by decide +kernel) ⟨Nat.le_of_ble_eq_true rfl, Nat.le_of_ble_eq_true rfl⟩) rfl hl.1 rfl (Nat.le_of_ble_eq_true rfl) dX9_shoot_16 ⟨Nat.le_of_ble_eq_true rfl, Nat.le_of_ble_eq_true rfl⟩ (fun _ => Nat.le_of_ble_eq_true rfl) (fun _ => rfl) (fun v u H locs hp hG => ?_)
    subst hp
    refine g_ifeq_b (B := (0 ≤ z ∧ z ≤ 3999)) (tgt := 36) S dX9_shoot_19 (by decide) (fun q19 => ?_) (fun q19 => ?_)
    · skip
      refine g_iconst S dX9_shoot_36 ?_
      refine g_top (w := .int (iI (bI ((0 ≤ y ∧ y < NF 0) ∧ (0 ≤ z ∧ z ≤ 3999) ∧ z < NF (5 + 3 * y + 0))))) (congrArg (fun z : Int => Value.int (iI z)) ((by first | exact (bI_f (fun z => absurd z.1 q12)).symm | exact (bI_f (fun z => absurd z.2.1 q19)).symm | exact (bI_f (fun z => absurd z.2.2 (by omega))).symm))) ?_
      exact J37 _ _ _ (lv_sub hl [1, 2, 3, 4, 0] rfl) hG
    · skip
      have ly9 := lay_bd hN q12.1 q12.2
      have ly8 : 1000 ≤ NF (5 + 3 * y + 0) ∧ NF (5 + 3 * y + 0) ≤ 4000 := ly9.1
      refine lv_iload_n S.1 S.2.1 dX9_shoot_22 rfl (lv_at hl 4 rfl) ?_
      refine lv_aload_n S.1 S.2.1 dX9_shoot_23 rfl (lv_at hl 1 rfl) ?_
      refine lv_iload_n S.1 S.2.1 dX9_shoot_24 rfl (lv_at hl 2 rfl) ?_
      refine g_iconst S dX9_shoot_25 ?_
      refine g_invV (As := [.int (iI y), .int (iI 0)]) (rest := [.int (iI z), .int (iI (bI (0 ≤ y ∧ y < NF 0))), .ref (am 0)]) (gs' := (fun u : Unit => [gMdl K am th (am 1) lg mr en pw sl ly dn iz tz nx st tk vl ef ep hO hB ol rm oz, gArr K 95 (am 1) NF])) S C hG [0, 1] (c_X9_ofLayer l K am th (am 1) lg mr en pw sl ly dn iz tz nx st tk vl ef ep hO hB ol rm oz NF y 0 (by omega) (by decide)) rfl rfl 0 rfl rfl (cwV 2 S.2.2.2.2 gX9_shoot_X9_ofLayer rfl rfl rfl (by decide +kernel) ⟨Nat.le_of_ble_eq_true rfl, Nat.le_of_ble_eq_true rfl⟩) rfl hl.1 rfl (Nat.le_of_ble_eq_true rfl) dX9_shoot_26 ⟨Nat.le_of_ble_eq_true rfl, Nat.le_of_ble_eq_true rfl⟩ (fun _ => Nat.le_of_ble_eq_true rfl) (fun _ => rfl) (fun v u H locs hp hG => ?_)
      subst hp
      refine g_icmp_ge (tgt := 36) S dX9_shoot_29 (by decide) (by omega) (by omega) (fun q29 => ?_) (fun q29 => ?_)
      · skip
        refine g_iconst S dX9_shoot_36 ?_
        refine g_top (w := .int (iI (bI ((0 ≤ y ∧ y < NF 0) ∧ (0 ≤ z ∧ z ≤ 3999) ∧ z < NF (5 + 3 * y + 0))))) (congrArg (fun z : Int => Value.int (iI z)) ((by first | exact (bI_f (fun z => absurd z.1 q12)).symm | exact (bI_f (fun z => absurd z.2.1 q19)).symm | exact (bI_f (fun z => absurd z.2.2 (by omega))).symm))) ?_
        exact J37 _ _ _ (lv_sub hl [1, 2, 3, 4, 0] rfl) hG
      · skip
        refine g_iconst S dX9_shoot_32 ?_
        refine g_top (w := .int (iI (bI ((0 ≤ y ∧ y < NF 0) ∧ (0 ≤ z ∧ z ≤ 3999) ∧ z < NF (5 + 3 * y + 0))))) (congrArg (fun z : Int => Value.int (iI z)) ((bI_t ⟨q12, q19, by omega⟩).symm)) ?_
        refine lv_goto (tgt := 37) S.1 S.2.1 dX9_shoot_33 (by decide) ?_
        exact J37 _ _ _ (lv_sub hl [1, 2, 3, 4, 0] rfl) hG

set_option maxHeartbeats 1000000 in
set_option maxRecDepth 100000 in
theorem c_X9_turn (l : Launch) (K : KC) (am : Nat → Nat) (th : Int) (lg : Int) (mr : Int) (en : Int) (pw : Int) (sl : Int) (ly : Int) (dn : Int) (iz : Int) (tz : Int) (nx : Int) (st : Int) (tk : Int) (vl : Int) (ef : Int) (ep : Int) (hO : Int) (hB : Int) (ol : Int) (rm : Int) (oz : Int) (NF : Int → Int) (A0 : Int → Int) (A1 : Int → Int) (A2 : Int → Int) (A3 : Int → Int) (A4 : Int → Int) (A5 : Int → Int) (A6 : Int → Int) (PA : Int → Int) (y : Int) (x : Int) (hN : NOk0 NF) (hrm : 0 ≤ rm ∧ rm ≤ 6) (hv : -2147483648 ≤ y ∧ y < 2147483648) (hx : -2147483648 ≤ x ∧ x < 2147483648) (g1 : 0 ≤ y ∧ y < NF 4) (g2 : 0 ≤ x ∧ x ≤ 3999) : mG l yX9_turn wsX9_turn 7 156 K [.ref (am 0), .int (iI y), .int (iI x)] [gMdl K am th (am 1) lg mr en pw sl ly dn iz tz nx st tk vl ef ep hO hB ol rm oz, gArr K 95 (am 1) NF, gArr K 60 (am 3) A0, gArrZ K 60 (am 4) A1, gArr K 60 (am 5) A2, gArr K 60 (am 6) A3, gArr K 60 (am 7) A4, gArr K 60 (am 8) A5, gArr K 60 (am 9) A6, gArr K 570 (am 18) PA] (fun (v : Value) (u : Int × Int × Int × Int × Int × Int × Int × (Int → Int) × (Int → Int) × (Int → Int) × (Int → Int) × (Int → Int) × (Int → Int) × (Int → Int) × (Int → Int) × Int) => (v = .int (iI (eS (upI NF (35 + 3 * y + 2) x) y))) ∧ (∀ j : Int, 0 ≤ j → j < 570 → u.2.2.2.2.2.2.2.2.2.2.2.2.2.2.1 j = remP rm PA NF j) ∧ (u.2.2.2.2.2.2.2.2.2.2.2.2.2.2.2 = min (rm + 1) 6)) (fun (u : Int × Int × Int × Int × Int × Int × Int × (Int → Int) × (Int → Int) × (Int → Int) × (Int → Int) × (Int → Int) × (Int → Int) × (Int → Int) × (Int → Int) × Int) => [gMdl K am (thr (bI (0 ≤ y ∧ y < NF 4)) (bI (0 ≤ x ∧ x ≤ 3999)) 1) (am 1) u.1 u.2.1 u.2.2.1 u.2.2.2.1 u.2.2.2.2.1 u.2.2.2.2.2.1 u.2.2.2.2.2.2.1 iz tz nx st tk vl ef ep hO hB ol u.2.2.2.2.2.2.2.2.2.2.2.2.2.2.2 oz, gArr K 95 (am 1) (upI NF (35 + 3 * y + 2) x), gArr K 60 (am 3) u.2.2.2.2.2.2.2.1, gArrZ K 60 (am 4) u.2.2.2.2.2.2.2.2.1, gArr K 60 (am 5) u.2.2.2.2.2.2.2.2.2.1, gArr K 60 (am 6) u.2.2.2.2.2.2.2.2.2.2.1, gArr K 60 (am 7) u.2.2.2.2.2.2.2.2.2.2.2.1, gArr K 60 (am 8) u.2.2.2.2.2.2.2.2.2.2.2.2.1, gArr K 60 (am 9) u.2.2.2.2.2.2.2.2.2.2.2.2.2.1, gArr K 570 (am 18) u.2.2.2.2.2.2.2.2.2.2.2.2.2.2.1]) 0 0 := by
  refine mG_of cX9_turn 4 (by decide) rfl (Nat.le_of_ble_eq_true rfl) ?_
  intro p e s m below meth c A ls Q S C hG hl hr hlk hin hQ
  have S : CallFix p m c cX9_turn 4 s ([.ref (am 0), .int (iI y), .int (iI x)] : List Value).toArray wsX9_turn RX9 := S
  have iX90 : ∀ w ∈ wsX90, w ∈ wsX9_turn := fun _ h => List.mem_cons_of_mem _ (List.mem_append_right _ (h))
  have hl : lv_has ls 4 [(0, .ref (am 0)), (1, .int (iI y)), (2, .int (iI x))] := hl
  have hG : gW K A s.heap [gMdl K am th (am 1) lg mr en pw sl ly dn iz tz nx st tk vl ef ep hO hB ol rm oz, gArr K 95 (am 1) NF, gArr K 60 (am 3) A0, gArrZ K 60 (am 4) A1, gArr K 60 (am 5) A2, gArr K 60 (am 6) A3, gArr K 60 (am 7) A4, gArr K 60 (am 8) A5, gArr K 60 (am 9) A6, gArr K 570 (am 18) PA] s.heap [] := hG
  have n0 := hN.1
  have n3 := hN.2.2.2.1
  refine lv_aload_n S.1 S.2.1 dX9_turn_0 rfl (lv_at hl 0 rfl) ?_
  refine lv_aload_n S.1 S.2.1 dX9_turn_1 rfl (lv_at hl 0 rfl) ?_
  refine lv_iload_n S.1 S.2.1 dX9_turn_2 rfl (lv_at hl 1 rfl) ?_
  refine g_invV (As := [.int (iI y)]) (rest := [.ref (am 0)]) (gs' := (fun u : Unit => [gMdl K am th (am 1) lg mr en pw sl ly dn iz tz nx st tk vl ef ep hO hB ol rm oz, gArr K 95 (am 1) NF, gArr K 60 (am 3) A0, gArrZ K 60 (am 4) A1, gArr K 60 (am 5) A2, gArr K 60 (am 6) A3, gArr K 60 (am 7) A4, gArr K 60 (am 8) A5, gArr K 60 (am 9) A6, gArr K 570 (am 18) PA])) S C hG [0, 1] (c_X9_isShot l K am th (am 1) lg mr en pw sl ly dn iz tz nx st tk vl ef ep hO hB ol rm oz NF y hN hv) rfl rfl 0 rfl rfl (cwV 1 S.2.2.2.2 gX9_turn_X9_isShot rfl rfl rfl (by decide +kernel) ⟨Nat.le_of_ble_eq_true rfl, Nat.le_of_ble_eq_true rfl⟩) rfl hl.1 rfl (Nat.le_of_ble_eq_true rfl) dX9_turn_3 ⟨Nat.le_of_ble_eq_true rfl, Nat.le_of_ble_eq_true rfl⟩ (fun _ => Nat.le_of_ble_eq_true rfl) (fun _ => rfl) (fun v u H locs hp hG => ?_)
  subst hp
  refine lv_iload_n S.1 S.2.1 dX9_turn_6 rfl (lv_at hl 2 rfl) ?_
  refine g_invS (As := [.int (iI x)]) (rest := [.int (iI (bI (0 ≤ y ∧ y < NF 4))), .ref (am 0)]) (gs' := (fun u : Unit => [gMdl K am th (am 1) lg mr en pw sl ly dn iz tz nx st tk vl ef ep hO hB ol rm oz, gArr K 95 (am 1) NF, gArr K 60 (am 3) A0, gArrZ K 60 (am 4) A1, gArr K 60 (am 5) A2, gArr K 60 (am 6) A3, gArr K 60 (am 7) A4, gArr K 60 (am 8) A5, gArr K 60 (am 9) A6, gArr K 570 (am 18) PA])) S C hG [] (c_X9_isSlant l K x hx) rfl rfl (va_cwS 1 S.2.2.2.2 gX9_turn_X9_isSlant rfl rfl rfl (by decide +kernel) ⟨Nat.le_of_ble_eq_true rfl, Nat.le_of_ble_eq_true rfl⟩) rfl hl.1 rfl (Nat.le_of_ble_eq_true rfl) dX9_turn_7 ⟨Nat.le_of_ble_eq_true rfl, Nat.le_of_ble_eq_true rfl⟩ (fun _ => Nat.le_of_ble_eq_true rfl) (fun _ => rfl) (fun v u H locs hp hG => ?_)
  subst hp
  refine g_invV (As := [.int (iI (bI (0 ≤ y ∧ y < NF 4))), .int (iI (bI (0 ≤ x ∧ x ≤ 3999)))]) (rest := []) (gs' := (fun u : Unit => [gMdl K am (thr (bI (0 ≤ y ∧ y < NF 4)) (bI (0 ≤ x ∧ x ≤ 3999)) 1) (am 1) lg mr en pw sl ly dn iz tz nx st tk vl ef ep hO hB ol rm oz, gArr K 95 (am 1) NF, gArr K 60 (am 3) A0, gArrZ K 60 (am 4) A1, gArr K 60 (am 5) A2, gArr K 60 (am 6) A3, gArr K 60 (am 7) A4, gArr K 60 (am 8) A5, gArr K 60 (am 9) A6, gArr K 570 (am 18) PA])) S C hG [0] (c_X9_passes2 l K am th (am 1) lg mr en pw sl ly dn iz tz nx st tk vl ef ep hO hB ol rm oz (bI (0 ≤ y ∧ y < NF 4)) (bI (0 ≤ x ∧ x ≤ 3999)) (bI_01 _) (bI_01 _)) rfl rfl 0 rfl rfl (cwV 2 S.2.2.2.2 gX9_turn_X9_passes2 rfl rfl rfl (by decide +kernel) ⟨Nat.le_of_ble_eq_true rfl, Nat.le_of_ble_eq_true rfl⟩) rfl hl.1 rfl (Nat.le_of_ble_eq_true rfl) dX9_turn_10 ⟨Nat.le_of_ble_eq_true rfl, Nat.le_of_ble_eq_true rfl⟩ (fun _ => Nat.le_of_ble_eq_true rfl) (fun _ => rfl) (fun v u H locs hp hG => ?_)
  subst hp
  refine g_ifne_b (B := ((bI (0 ≤ y ∧ y < NF 4)) = 1 ∧ (bI (0 ≤ x ∧ x ≤ 3999)) = 1)) (tgt := 18) S dX9_turn_13 (by decide) (fun q13 => ?_) (fun q13 => ?_)
  · skip
    refine lv_aload_n S.1 S.2.1 dX9_turn_18 rfl (lv_at hl 0 rfl) ?_
    refine g_bipush S dX9_turn_19 (by decide) ?_
    refine g_iconst S dX9_turn_21 ?_
    refine lv_iload_n S.1 S.2.1 dX9_turn_22 rfl (lv_at hl 1 rfl) ?_
    refine g_imul S dX9_turn_23 rfl ?_
    refine g_iadd S dX9_turn_24 rfl ?_
    refine g_iconst S dX9_turn_25 ?_
    refine g_iadd S dX9_turn_26 rfl ?_
    refine lv_iload_n S.1 S.2.1 dX9_turn_27 rfl (lv_at hl 2 rfl) ?_
    refine g_invV (As := [.int (iI ((35 + (3 * y)) + 2)), .int (iI x)]) (rest := []) (gs' := (fun u : (Int → Int) × Int => [gMdl K am (thr (bI (0 ≤ y ∧ y < NF 4)) (bI (0 ≤ x ∧ x ≤ 3999)) 1) (am 1) lg mr en pw sl ly dn iz tz nx st tk vl ef ep hO hB ol u.2 oz, gArr K 95 (am 1) (upI NF ((35 + (3 * y)) + 2) x), gArr K 60 (am 3) A0, gArrZ K 60 (am 4) A1, gArr K 60 (am 5) A2, gArr K 60 (am 6) A3, gArr K 60 (am 7) A4, gArr K 60 (am 8) A5, gArr K 60 (am 9) A6, gArr K 570 (am 18) u.1])) S C hG [0, 1, 9] (c_X9_becomes l K am (thr (bI (0 ≤ y ∧ y < NF 4)) (bI (0 ≤ x ∧ x ≤ 3999)) 1) lg mr en pw sl ly dn iz tz nx st tk vl ef ep hO hB ol rm oz NF PA ((35 + (3 * y)) + 2) x hrm (by omega)) rfl rfl 0 rfl rfl (cwV 2 S.2.2.2.2 gX9_turn_X9_becomes rfl rfl rfl (by decide +kernel) ⟨Nat.le_of_ble_eq_true rfl, Nat.le_of_ble_eq_true rfl⟩) rfl hl.1 rfl (Nat.le_of_ble_eq_true rfl) dX9_turn_28 ⟨Nat.le_of_ble_eq_true rfl, Nat.le_of_ble_eq_true rfl⟩ (fun _ => Nat.le_of_ble_eq_true rfl) (fun _ => rfl) (fun v u H locs hp hG => ?_)
    obtain ⟨P2_28, rm2_28⟩ := u
    obtain ⟨rfl, hP_28, hm_28⟩ := hp
    have hP_28 : ∀ j : Int, 0 ≤ j → j < 570 → P2_28 j = remP rm PA NF j := hP_28
    have hm_28 : rm2_28 = min (rm + 1) 6 := hm_28
    have hG : gW K A s.heap [gMdl K am (thr (bI (0 ≤ y ∧ y < NF 4)) (bI (0 ≤ x ∧ x ≤ 3999)) 1) (am 1) lg mr en pw sl ly dn iz tz nx st tk vl ef ep hO hB ol rm2_28 oz, gArr K 95 (am 1) (upI NF ((35 + (3 * y)) + 2) x), gArr K 60 (am 3) A0, gArrZ K 60 (am 4) A1, gArr K 60 (am 5) A2, gArr K 60 (am 6) A3, gArr K 60 (am 7) A4, gArr K 60 (am 8) A5, gArr K 60 (am 9) A6, gArr K 570 (am 18) P2_28] _ _ := hG
    refine lv_istore_n (lv' := [(3, .int (iI (NF ((35 + (3 * y)) + 2)))), (0, .ref (am 0)), (1, .int (iI y)), (2, .int (iI x))]) S.1 S.2.1 dX9_turn_31 rfl hl (by decide) rfl (fun ls hl => ?_)
    refine lv_aload_n S.1 S.2.1 dX9_turn_32 rfl (lv_at hl 1 rfl) ?_
    refine lv_iload_n S.1 S.2.1 dX9_turn_33 rfl (lv_at hl 2 rfl) ?_
    refine g_invV (As := [.int (iI y)]) (rest := []) (gs' := (fun u : Int × Int × Int × Int × Int × Int × Int × (Int → Int) × (Int → Int) × (Int → Int) × (Int → Int) × (Int → Int) × (Int → Int) × (Int → Int) => [gMdl K am (thr (bI (0 ≤ y ∧ y < NF 4)) (bI (0 ≤ x ∧ x ≤ 3999)) 1) (am 1) u.1 u.2.1 u.2.2.1 u.2.2.2.1 u.2.2.2.2.1 u.2.2.2.2.2.1 u.2.2.2.2.2.2.1 iz tz nx st tk vl ef ep hO hB ol rm2_28 oz, gArr K 95 (am 1) (upI NF ((35 + (3 * y)) + 2) x), gArr K 60 (am 3) u.2.2.2.2.2.2.2.1, gArrZ K 60 (am 4) u.2.2.2.2.2.2.2.2.1, gArr K 60 (am 5) u.2.2.2.2.2.2.2.2.2.1, gArr K 60 (am 6) u.2.2.2.2.2.2.2.2.2.2.1, gArr K 60 (am 7) u.2.2.2.2.2.2.2.2.2.2.2.1, gArr K 60 (am 8) u.2.2.2.2.2.2.2.2.2.2.2.2.1, gArr K 60 (am 9) u.2.2.2.2.2.2.2.2.2.2.2.2.2, gArr K 570 (am 18) P2_28])) S C hG [0, 1, 2, 3, 4, 5, 6, 7, 8] (c_X9_endOfShot l K am (thr (bI (0 ≤ y ∧ y < NF 4)) (bI (0 ≤ x ∧ x ≤ 3999)) 1) (am 1) lg mr en pw sl ly dn iz tz nx st tk vl ef ep hO hB ol rm2_28 oz (upI NF ((35 + (3 * y)) + 2) x) A0 A1 A2 A3 A4 A5 A6 y (hN.setS g1 g2) (by rw [upI_n _ _ (by omega)] <;> exact g1)) rfl rfl 0 rfl rfl (cwV 1 S.2.2.2.2 gX9_turn_X9_endOfShot rfl rfl rfl (by decide +kernel) ⟨Nat.le_of_ble_eq_true rfl, Nat.le_of_ble_eq_true rfl⟩) rfl hl.1 rfl (Nat.le_of_ble_eq_true rfl) dX9_turn_34 ⟨Nat.le_of_ble_eq_true rfl, Nat.le_of_ble_eq_true rfl⟩ (fun _ => Nat.le_of_ble_eq_true rfl) (fun _ => rfl) (fun v u H locs hp hG => ?_)
    obtain ⟨lg2_34, mr2_34, en2_34, pw2_34, sl2_34, ly2_34, dn2_34, B0_34, B1_34, B2_34, B3_34, B4_34, B5_34, B6_34⟩ := u
    obtain ⟨rfl, hf_34⟩ := hp
    have hf_34 : FolS (upI NF ((35 + (3 * y)) + 2) x) y lg2_34 mr2_34 en2_34 pw2_34 B0_34 B1_34 B2_34 B3_34 B4_34 B5_34 B6_34 := hf_34
    have hG : gW K A s.heap [gMdl K am (thr (bI (0 ≤ y ∧ y < NF 4)) (bI (0 ≤ x ∧ x ≤ 3999)) 1) (am 1) lg2_34 mr2_34 en2_34 pw2_34 sl2_34 ly2_34 dn2_34 iz tz nx st tk vl ef ep hO hB ol rm2_28 oz, gArr K 95 (am 1) (upI NF ((35 + (3 * y)) + 2) x), gArr K 60 (am 3) B0_34, gArrZ K 60 (am 4) B1_34, gArr K 60 (am 5) B2_34, gArr K 60 (am 6) B3_34, gArr K 60 (am 7) B4_34, gArr K 60 (am 8) B5_34, gArr K 60 (am 9) B6_34, gArr K 570 (am 18) P2_28] _ _ := hG
    have hG : gW K A s.heap [gMdl K am (thr (bI (0 ≤ y ∧ y < NF 4)) (bI (0 ≤ x ∧ x ≤ 3999)) 1) (am 1) lg2_34 mr2_34 en2_34 pw2_34 sl2_34 ly2_34 dn2_34 iz tz nx st tk vl ef ep hO hB ol rm2_28 oz, gArr K 95 (am 1) (upI NF (35 + 3 * y + 2) x), gArr K 60 (am 3) B0_34, gArrZ K 60 (am 4) B1_34, gArr K 60 (am 5) B2_34, gArr K 60 (am 6) B3_34, gArr K 60 (am 7) B4_34, gArr K 60 (am 8) B5_34, gArr K 60 (am 9) B6_34, gArr K 570 (am 18) P2_28] _ _ := hG
    exact g_iret S hr hlk hQ dX9_turn_37 (Nat.le_of_ble_eq_true rfl) (Nat.le_of_ble_eq_true rfl) ((lg2_34, mr2_34, en2_34, pw2_34, sl2_34, ly2_34, dn2_34, B0_34, B1_34, B2_34, B3_34, B4_34, B5_34, B6_34, P2_28, rm2_28) : Int × Int × Int × Int × Int × Int × Int × (Int → Int) × (Int → Int) × (Int → Int) × (Int → Int) × (Int → Int) × (Int → Int) × (Int → Int) × (Int → Int) × Int) ⟨(congrArg (fun z : Int => Value.int (iI z)) (by first | rfl | omega)), hP_28, hm_28⟩ hG
  · skip
    exact absurd ⟨bI_t g1, bI_t g2⟩ q13

set_option maxHeartbeats 1000000 in
set_option maxRecDepth 100000 in
theorem b_X9_turn (l : Launch) (K : KC) (am : Nat → Nat) (th : Int) (lg : Int) (mr : Int) (en : Int) (pw : Int) (sl : Int) (ly : Int) (dn : Int) (iz : Int) (tz : Int) (nx : Int) (st : Int) (tk : Int) (vl : Int) (ef : Int) (ep : Int) (hO : Int) (hB : Int) (ol : Int) (rm : Int) (oz : Int) (NF : Int → Int) (y : Int) (x : Int) (hN : NOk0 NF) (hv : -2147483648 ≤ y ∧ y < 2147483648) (hx : -2147483648 ≤ x ∧ x < 2147483648) (hbad : ¬ ((0 ≤ y ∧ y < NF 4) ∧ (0 ≤ x ∧ x ≤ 3999))) : mG l yX9_turn wsX9_turn 2 46 K [.ref (am 0), .int (iI y), .int (iI x)] [gMdl K am th (am 1) lg mr en pw sl ly dn iz tz nx st tk vl ef ep hO hB ol rm oz, gArr K 95 (am 1) NF] (fun (v : Value) (u : Unit) => (v = .int (iI 0))) (fun (u : Unit) => [gMdl K am (thr (bI (0 ≤ y ∧ y < NF 4)) (bI (0 ≤ x ∧ x ≤ 3999)) 1) (am 1) lg mr en pw sl ly dn iz tz nx st tk vl ef ep hO hB ol rm oz, gArr K 95 (am 1) NF]) 0 0 := by
  refine mG_of cX9_turn 4 (by decide) rfl (Nat.le_of_ble_eq_true rfl) ?_
  intro p e s m below meth c A ls Q S C hG hl hr hlk hin hQ
  have S : CallFix p m c cX9_turn 4 s ([.ref (am 0), .int (iI y), .int (iI x)] : List Value).toArray wsX9_turn RX9 := S
  have iX90 : ∀ w ∈ wsX90, w ∈ wsX9_turn := fun _ h => List.mem_cons_of_mem _ (List.mem_append_right _ (h))
  have hl : lv_has ls 4 [(0, .ref (am 0)), (1, .int (iI y)), (2, .int (iI x))] := hl
  have hG : gW K A s.heap [gMdl K am th (am 1) lg mr en pw sl ly dn iz tz nx st tk vl ef ep hO hB ol rm oz, gArr K 95 (am 1) NF] s.heap [] := hG
  have n0 := hN.1
  have n3 := hN.2.2.2.1
  refine lv_aload_n S.1 S.2.1 dX9_turn_0 rfl (lv_at hl 0 rfl) ?_
  refine lv_aload_n S.1 S.2.1 dX9_turn_1 rfl (lv_at hl 0 rfl) ?_
  refine lv_iload_n S.1 S.2.1 dX9_turn_2 rfl (lv_at hl 1 rfl) ?_
  refine g_invV (As := [.int (iI y)]) (rest := [.ref (am 0)]) (gs' := (fun u : Unit => [gMdl K am th (am 1) lg mr en pw sl ly dn iz tz nx st tk vl ef ep hO hB ol rm oz, gArr K 95 (am 1) NF])) S C hG [0, 1] (c_X9_isShot l K am th (am 1) lg mr en pw sl ly dn iz tz nx st tk vl ef ep hO hB ol rm oz NF y hN hv) rfl rfl 0 rfl rfl (cwV 1 S.2.2.2.2 gX9_turn_X9_isShot rfl rfl rfl (by decide +kernel) ⟨Nat.le_of_ble_eq_true rfl, Nat.le_of_ble_eq_true rfl⟩) rfl hl.1 rfl (Nat.le_of_ble_eq_true rfl) dX9_turn_3 ⟨Nat.le_of_ble_eq_true rfl, Nat.le_of_ble_eq_true rfl⟩ (fun _ => Nat.le_of_ble_eq_true rfl) (fun _ => rfl) (fun v u H locs hp hG => ?_)
  subst hp
  refine lv_iload_n S.1 S.2.1 dX9_turn_6 rfl (lv_at hl 2 rfl) ?_
  refine g_invS (As := [.int (iI x)]) (rest := [.int (iI (bI (0 ≤ y ∧ y < NF 4))), .ref (am 0)]) (gs' := (fun u : Unit => [gMdl K am th (am 1) lg mr en pw sl ly dn iz tz nx st tk vl ef ep hO hB ol rm oz, gArr K 95 (am 1) NF])) S C hG [] (c_X9_isSlant l K x hx) rfl rfl (va_cwS 1 S.2.2.2.2 gX9_turn_X9_isSlant rfl rfl rfl (by decide +kernel) ⟨Nat.le_of_ble_eq_true rfl, Nat.le_of_ble_eq_true rfl⟩) rfl hl.1 rfl (Nat.le_of_ble_eq_true rfl) dX9_turn_7 ⟨Nat.le_of_ble_eq_true rfl, Nat.le_of_ble_eq_true rfl⟩ (fun _ => Nat.le_of_ble_eq_true rfl) (fun _ => rfl) (fun v u H locs hp hG => ?_)
  subst hp
  refine g_invV (As := [.int (iI (bI (0 ≤ y ∧ y < NF 4))), .int (iI (bI (0 ≤ x ∧ x ≤ 3999)))]) (rest := []) (gs' := (fun u : Unit => [gMdl K am (thr (bI (0 ≤ y ∧ y < NF 4)) (bI (0 ≤ x ∧ x ≤ 3999)) 1) (am 1) lg mr en pw sl ly dn iz tz nx st tk vl ef ep hO hB ol rm oz, gArr K 95 (am 1) NF])) S C hG [0] (c_X9_passes2 l K am th (am 1) lg mr en pw sl ly dn iz tz nx st tk vl ef ep hO hB ol rm oz (bI (0 ≤ y ∧ y < NF 4)) (bI (0 ≤ x ∧ x ≤ 3999)) (bI_01 _) (bI_01 _)) rfl rfl 0 rfl rfl (cwV 2 S.2.2.2.2 gX9_turn_X9_passes2 rfl rfl rfl (by decide +kernel) ⟨Nat.le_of_ble_eq_true rfl, Nat.le_of_ble_eq_true rfl⟩) rfl hl.1 rfl (Nat.le_of_ble_eq_true rfl) dX9_turn_10 ⟨Nat.le_of_ble_eq_true rfl, Nat.le_of_ble_eq_true rfl⟩ (fun _ => Nat.le_of_ble_eq_true rfl) (fun _ => rfl) (fun v u H locs hp hG => ?_)
  subst hp
  refine g_ifne_b (B := ((bI (0 ≤ y ∧ y < NF 4)) = 1 ∧ (bI (0 ≤ x ∧ x ≤ 3999)) = 1)) (tgt := 18) S dX9_turn_13 (by decide) (fun q13 => ?_) (fun q13 => ?_)
  · skip
    exact absurd ⟨bI1 q13.1, bI1 q13.2⟩ hbad
  · skip
    refine g_iconst S dX9_turn_16 ?_
    have hG : gW K A s.heap [gMdl K am (thr (bI (0 ≤ y ∧ y < NF 4)) (bI (0 ≤ x ∧ x ≤ 3999)) 1) (am 1) lg mr en pw sl ly dn iz tz nx st tk vl ef ep hO hB ol rm oz, gArr K 95 (am 1) NF] _ _ := hG
    exact g_iret S hr hlk hQ dX9_turn_17 (Nat.le_of_ble_eq_true rfl) (Nat.le_of_ble_eq_true rfl) (() : Unit) rfl hG

set_option maxHeartbeats 1000000 in
set_option maxRecDepth 100000 in
theorem c_X9_dropShot (l : Launch) (K : KC) (am : Nat → Nat) (th : Int) (lg : Int) (mr : Int) (en : Int) (pw : Int) (sl : Int) (ly : Int) (dn : Int) (iz : Int) (tz : Int) (nx : Int) (st : Int) (tk : Int) (vl : Int) (ef : Int) (ep : Int) (hO : Int) (hB : Int) (ol : Int) (rm : Int) (oz : Int) (NF : Int → Int) (PA : Int → Int) (y : Int) (hN : NOk0 NF) (hrm : 0 ≤ rm ∧ rm ≤ 6) (hv : -2147483648 ≤ y ∧ y < 2147483648) (g1 : 0 ≤ y ∧ y < NF 4) : mG l yX9_dropShot wsX9_dropShot 2 46 K [.ref (am 0), .int (iI y)] [gMdl K am th (am 1) lg mr en pw sl ly dn iz tz nx st tk vl ef ep hO hB ol rm oz, gArr K 95 (am 1) NF, gArr K 570 (am 18) PA] (fun (v : Value) (u : (Int → Int) × Int) => (v = .int (iI (NF 4 - 1))) ∧ (∀ j : Int, 0 ≤ j → j < 570 → u.1 j = remP rm PA NF j) ∧ (u.2 = min (rm + 1) 6)) (fun (u : (Int → Int) × Int) => [gMdl K am (thr (bI (0 ≤ y ∧ y < NF 4)) 1 1) (am 1) lg mr en pw sl ly dn iz tz nx st tk vl ef ep hO hB ol u.2 oz, gArr K 95 (am 1) (remSN NF y), gArr K 570 (am 18) u.1]) 0 0 := by
  refine mG_of cX9_dropShot 3 (by decide) rfl (Nat.le_of_ble_eq_true rfl) ?_
  intro p e s m below meth c A ls Q S C hG hl hr hlk hin hQ
  have S : CallFix p m c cX9_dropShot 3 s ([.ref (am 0), .int (iI y)] : List Value).toArray wsX9_dropShot RX9 := S
  have iX90 : ∀ w ∈ wsX90, w ∈ wsX9_dropShot := fun _ h => List.mem_cons_of_mem _ (List.mem_append_right _ (h))
  have hl : lv_has ls 3 [(0, .ref (am 0)), (1, .int (iI y))] := hl
  have hG : gW K A s.heap [gMdl K am th (am 1) lg mr en pw sl ly dn iz tz nx st tk vl ef ep hO hB ol rm oz, gArr K 95 (am 1) NF, gArr K 570 (am 18) PA] s.heap [] := hG
  have n0 := hN.1
  have n3 := hN.2.2.2.1
  refine lv_aload_n S.1 S.2.1 dX9_dropShot_0 rfl (lv_at hl 0 rfl) ?_
  refine lv_aload_n S.1 S.2.1 dX9_dropShot_1 rfl (lv_at hl 0 rfl) ?_
  refine lv_iload_n S.1 S.2.1 dX9_dropShot_2 rfl (lv_at hl 1 rfl) ?_
  refine g_invV (As := [.int (iI y)]) (rest := [.ref (am 0)]) (gs' := (fun u : Unit => [gMdl K am th (am 1) lg mr en pw sl ly dn iz tz nx st tk vl ef ep hO hB ol rm oz, gArr K 95 (am 1) NF, gArr K 570 (am 18) PA])) S C hG [0, 1] (c_X9_isShot l K am th (am 1) lg mr en pw sl ly dn iz tz nx st tk vl ef ep hO hB ol rm oz NF y hN hv) rfl rfl 0 rfl rfl (cwV 1 S.2.2.2.2 gX9_dropShot_X9_isShot rfl rfl rfl (by decide +kernel) ⟨Nat.le_of_ble_eq_true rfl, Nat.le_of_ble_eq_true rfl⟩) rfl hl.1 rfl (Nat.le_of_ble_eq_true rfl) dX9_dropShot_3 ⟨Nat.le_of_ble_eq_true rfl, Nat.le_of_ble_eq_true rfl⟩ (fun _ => Nat.le_of_ble_eq_true rfl) (fun _ => rfl) (fun v u H locs hp hG => ?_)
  subst hp
  refine g_invV (As := [.int (iI (bI (0 ≤ y ∧ y < NF 4)))]) (rest := []) (gs' := (fun u : Unit => [gMdl K am (thr (bI (0 ≤ y ∧ y < NF 4)) 1 1) (am 1) lg mr en pw sl ly dn iz tz nx st tk vl ef ep hO hB ol rm oz, gArr K 95 (am 1) NF, gArr K 570 (am 18) PA])) S C hG [0] (c_X9_passes l K am th (am 1) lg mr en pw sl ly dn iz tz nx st tk vl ef ep hO hB ol rm oz (bI (0 ≤ y ∧ y < NF 4)) (bI_01 _)) rfl rfl 0 rfl rfl (cwV 1 S.2.2.2.2 gX9_dropShot_X9_passes rfl rfl rfl (by decide +kernel) ⟨Nat.le_of_ble_eq_true rfl, Nat.le_of_ble_eq_true rfl⟩) rfl hl.1 rfl (Nat.le_of_ble_eq_true rfl) dX9_dropShot_6 ⟨Nat.le_of_ble_eq_true rfl, Nat.le_of_ble_eq_true rfl⟩ (fun _ => Nat.le_of_ble_eq_true rfl) (fun _ => rfl) (fun v u H locs hp hG => ?_)
  subst hp
  refine g_ifne_b (B := ((bI (0 ≤ y ∧ y < NF 4)) = 1)) (tgt := 14) S dX9_dropShot_9 (by decide) (fun q9 => ?_) (fun q9 => ?_)
  · skip
    refine lv_aload_n S.1 S.2.1 dX9_dropShot_14 rfl (lv_at hl 0 rfl) ?_
    refine g_invVv (As := []) (rest := []) (gs' := (fun u : (Int → Int) × Int => [gMdl K am (thr (bI (0 ≤ y ∧ y < NF 4)) 1 1) (am 1) lg mr en pw sl ly dn iz tz nx st tk vl ef ep hO hB ol u.2 oz, gArr K 95 (am 1) NF, gArr K 570 (am 18) u.1])) S C hG [0, 1, 2] (c_X9_remember l K am (thr (bI (0 ≤ y ∧ y < NF 4)) 1 1) lg mr en pw sl ly dn iz tz nx st tk vl ef ep hO hB ol rm oz NF PA hrm) rfl rfl 0 rfl rfl (cwV 0 S.2.2.2.2 gX9_dropShot_X9_remember rfl rfl rfl (by decide +kernel) ⟨Nat.le_of_ble_eq_true rfl, Nat.le_of_ble_eq_true rfl⟩) rfl hl.1 rfl (Nat.le_of_ble_eq_true rfl) dX9_dropShot_15 ⟨Nat.le_of_ble_eq_true rfl, Nat.le_of_ble_eq_true rfl⟩ (fun _ => Nat.le_of_ble_eq_true rfl) (fun _ => rfl) (fun u H locs hp hG => ?_)
    obtain ⟨P2_15, rm2_15⟩ := u
    obtain ⟨hP_15, hm_15⟩ := hp
    have hP_15 : ∀ j : Int, 0 ≤ j → j < 570 → P2_15 j = remP rm PA NF j := hP_15
    have hm_15 : rm2_15 = min (rm + 1) 6 := hm_15
    have hG : gW K A s.heap [gMdl K am (thr (bI (0 ≤ y ∧ y < NF 4)) 1 1) (am 1) lg mr en pw sl ly dn iz tz nx st tk vl ef ep hO hB ol rm2_15 oz, gArr K 95 (am 1) NF, gArr K 570 (am 18) P2_15] _ _ := hG
    refine lv_aload_n S.1 S.2.1 dX9_dropShot_18 rfl (lv_at hl 0 rfl) ?_
    refine g_get S C hG iX90 0 rfl rfl 1 (by decide) (List.mem_of_getElem? (i := 1) rfl) rfl dX9_dropShot_19 ?_
    refine g_iconst S dX9_dropShot_22 ?_
    refine lv_dup2_11 S.1 S.2.1 dX9_dropShot_23 rfl rfl ?_
    refine g_iald S C hG 1 rfl (by omega) (by omega) (by omega) dX9_dropShot_24 ?_
    refine g_iconst S dX9_dropShot_25 ?_
    refine g_isub S dX9_dropShot_26 rfl ?_
    refine g_iast (gs' := [gMdl K am (thr (bI (0 ≤ y ∧ y < NF 4)) 1 1) (am 1) lg mr en pw sl ly dn iz tz nx st tk vl ef ep hO hB ol rm2_15 oz, gArr K 95 (am 1) (upI NF 4 ((NF 4) - 1)), gArr K 570 (am 18) P2_15]) S C hG 1 rfl (by omega) (by omega) (by omega) rfl dX9_dropShot_27 (fun H locs hG => ?_)
    refine g_bipush S dX9_dropShot_28 (by decide) ?_
    refine g_iconst S dX9_dropShot_30 ?_
    refine lv_iload_n S.1 S.2.1 dX9_dropShot_31 rfl (lv_at hl 1 rfl) ?_
    refine g_imul S dX9_dropShot_32 rfl ?_
    refine g_iadd S dX9_dropShot_33 rfl ?_
    refine lv_istore_n (lv' := [(2, .int (iI (35 + (3 * y)))), (0, .ref (am 0)), (1, .int (iI y))]) S.1 S.2.1 dX9_dropShot_34 rfl hl (by decide) rfl (fun ls hl => ?_)
    have L35 : ∀ (fu : Nat) (w : Int) (F1 : Int → Int) (H : Heap) (locs : List Loc) (ls : Array Slot), (((95 : Int) - w).toNat) < fu → (35 + 3 * y ≤ w ∧ w ≤ 32 + 3 * NF 4) → (∀ j : Int, F1 j = if j = 4 then NF 4 - 1 else if 35 + 3 * y ≤ j ∧ j < w then NF (j + 3) else NF j) → lv_has ls 3 [(0, .ref (am 0)), (1, .int (iI y)), (2, .int (iI w))] → gW K A s.heap [gMdl K am (thr (bI (0 ≤ y ∧ y < NF 4)) 1 1) (am 1) lg mr en pw sl ly dn iz tz nx st tk vl ef ep hO hB ol rm2_15 oz, gArr K 95 (am 1) F1, gArr K 570 (am 18) P2_15] H locs → W p l e { frames := 2, cells := 0, slots := 0, locals := 46 } s m ([.ref (am 0), .int (iI y)] : List Value).toArray below meth c H locs 0 0 Q (F0 m 35 ls []) := by
      intro fu
      induction fu with
      | zero => intro w F1 H locs ls hfu; exact absurd hfu (Nat.not_lt_zero _)
      | succ fu ih =>
        intro w F1 H locs ls hfu hw hz hl hG
        refine lv_iload_n S.1 S.2.1 dX9_dropShot_35 rfl (lv_at hl 2 rfl) ?_
        refine g_bipush S dX9_dropShot_36 (by decide) ?_
        refine g_iconst S dX9_dropShot_38 ?_
        refine lv_aload_n S.1 S.2.1 dX9_dropShot_39 rfl (lv_at hl 0 rfl) ?_
        refine g_invV (As := []) (rest := [.int (iI 3), .int (iI 35), .int (iI w)]) (gs' := (fun u : Unit => [gMdl K am (thr (bI (0 ≤ y ∧ y < NF 4)) 1 1) (am 1) lg mr en pw sl ly dn iz tz nx st tk vl ef ep hO hB ol rm2_15 oz, gArr K 95 (am 1) F1, gArr K 570 (am 18) P2_15])) S C hG [0, 1] (c_X9_shots l K am (thr (bI (0 ≤ y ∧ y < NF 4)) 1 1) (am 1) lg mr en pw sl ly dn iz tz nx st tk vl ef ep hO hB ol rm2_15 oz F1) rfl rfl 0 rfl rfl (cwV 0 S.2.2.2.2 gX9_dropShot_X9_shots rfl rfl rfl (by decide +kernel) ⟨Nat.le_of_ble_eq_true rfl, Nat.le_of_ble_eq_true rfl⟩) rfl hl.1 rfl (Nat.le_of_ble_eq_true rfl) dX9_dropShot_40 ⟨Nat.le_of_ble_eq_true rfl, Nat.le_of_ble_eq_true rfl⟩ (fun _ => Nat.le_of_ble_eq_true rfl) (fun _ => rfl) (fun v u H locs hp hG => ?_)
        subst hp
        refine g_top (w := .int (iI (NF 4 - 1))) (congrArg (fun z : Int => Value.int (iI z)) (((hz 4).trans (if_pos rfl)))) ?_
        refine g_imul S dX9_dropShot_43 rfl ?_
        refine g_iadd S dX9_dropShot_44 rfl ?_
        refine g_icmp_ge (tgt := 68) S dX9_dropShot_45 (by decide) (by omega) (by omega) (fun q45 => ?_) (fun q45 => ?_)
        · skip
          refine lv_aload_n S.1 S.2.1 dX9_dropShot_68 rfl (lv_at hl 0 rfl) ?_
          refine g_invV (As := []) (rest := []) (gs' := (fun u : Unit => [gMdl K am (thr (bI (0 ≤ y ∧ y < NF 4)) 1 1) (am 1) lg mr en pw sl ly dn iz tz nx st tk vl ef ep hO hB ol rm2_15 oz, gArr K 95 (am 1) F1, gArr K 570 (am 18) P2_15])) S C hG [0, 1] (c_X9_shots l K am (thr (bI (0 ≤ y ∧ y < NF 4)) 1 1) (am 1) lg mr en pw sl ly dn iz tz nx st tk vl ef ep hO hB ol rm2_15 oz F1) rfl rfl 0 rfl rfl (cwV 0 S.2.2.2.2 gX9_dropShot_X9_shots rfl rfl rfl (by decide +kernel) ⟨Nat.le_of_ble_eq_true rfl, Nat.le_of_ble_eq_true rfl⟩) rfl hl.1 rfl (Nat.le_of_ble_eq_true rfl) dX9_dropShot_69 ⟨Nat.le_of_ble_eq_true rfl, Nat.le_of_ble_eq_true rfl⟩ (fun _ => Nat.le_of_ble_eq_true rfl) (fun _ => rfl) (fun v u H locs hp hG => ?_)
          subst hp
          refine g_top (w := .int (iI (NF 4 - 1))) (congrArg (fun z : Int => Value.int (iI z)) (((hz 4).trans (if_pos rfl)))) ?_
          have e9 : F1 = remSN NF y := funext fun j => by (rw [hz j, show w = 32 + 3 * NF 4 by omega] <;> rfl)
          have hG : gW K A s.heap [gMdl K am (thr (bI (0 ≤ y ∧ y < NF 4)) 1 1) (am 1) lg mr en pw sl ly dn iz tz nx st tk vl ef ep hO hB ol rm2_15 oz, gArr K 95 (am 1) (remSN NF y), gArr K 570 (am 18) P2_15] _ _ := (e9 ▸ hG)
          exact g_iret S hr hlk hQ dX9_dropShot_72 (Nat.le_of_ble_eq_true rfl) (Nat.le_of_ble_eq_true rfl) ((P2_15, rm2_15) : (Int → Int) × Int) ⟨rfl, hP_15, hm_15⟩ hG
        · skip
          refine lv_aload_n S.1 S.2.1 dX9_dropShot_48 rfl (lv_at hl 0 rfl) ?_
          refine g_get S C hG iX90 0 rfl rfl 1 (by decide) (List.mem_of_getElem? (i := 1) rfl) rfl dX9_dropShot_49 ?_
          refine lv_iload_n S.1 S.2.1 dX9_dropShot_52 rfl (lv_at hl 2 rfl) ?_
          refine lv_aload_n S.1 S.2.1 dX9_dropShot_53 rfl (lv_at hl 0 rfl) ?_
          refine g_get S C hG iX90 0 rfl rfl 1 (by decide) (List.mem_of_getElem? (i := 1) rfl) rfl dX9_dropShot_54 ?_
          refine lv_iload_n S.1 S.2.1 dX9_dropShot_57 rfl (lv_at hl 2 rfl) ?_
          refine g_iconst S dX9_dropShot_58 ?_
          refine g_iadd S dX9_dropShot_59 rfl ?_
          refine g_iald S C hG 1 rfl (by omega) (by omega) (by omega) dX9_dropShot_60 ?_
          refine g_iast (gs' := [gMdl K am (thr (bI (0 ≤ y ∧ y < NF 4)) 1 1) (am 1) lg mr en pw sl ly dn iz tz nx st tk vl ef ep hO hB ol rm2_15 oz, gArr K 95 (am 1) (upI F1 w (F1 (w + 3))), gArr K 570 (am 18) P2_15]) S C hG 1 rfl (by omega) (by omega) (by omega) rfl dX9_dropShot_61 (fun H locs hG => ?_)
          refine lv_iinc (v := iI (w + 1)) (lv' := [(2, .int (iI (w + 1))), (0, .ref (am 0)), (1, .int (iI y))]) S.1 S.2.1 dX9_dropShot_62 hl (k := 2) rfl (g_iinc rfl) (by decide) rfl (fun ls hl => ?_)
          refine lv_goto (tgt := 35) S.1 S.2.1 dX9_dropShot_65 (by decide) ?_
          exact ih (w + 1) (upI F1 w (F1 (w + 3))) _ _ _ (by omega) (by omega) (fun j => by (unfold upI <;> have z1 := hz j <;> have z2 := hz (w + 3) <;> rw [if_neg (by omega), if_neg (by omega)] at z2 <;> (repeat' split) <;> first | (rw [z2] <;> congr 1 <;> omega) | omega | (rw [z1] <;> (repeat' split) <;> first | rfl | omega))) (lv_sub hl [1, 2, 0] rfl) hG
    exact L35 (Nat.succ (((95 : Int) - (35 + (3 * y))).toNat)) (35 + (3 * y)) (upI NF 4 ((NF 4) - 1)) _ _ _ (Nat.lt_succ_self _) (by omega) (fun j => by (simp only [upI] <;> (repeat' split) <;> first | rfl | omega)) (lv_sub hl [1, 2, 0] rfl) hG
  · skip
    exact absurd (bI_t g1) q9

set_option maxHeartbeats 1000000 in
set_option maxRecDepth 100000 in
theorem b_X9_dropShot (l : Launch) (K : KC) (am : Nat → Nat) (th : Int) (lg : Int) (mr : Int) (en : Int) (pw : Int) (sl : Int) (ly : Int) (dn : Int) (iz : Int) (tz : Int) (nx : Int) (st : Int) (tk : Int) (vl : Int) (ef : Int) (ep : Int) (hO : Int) (hB : Int) (ol : Int) (rm : Int) (oz : Int) (NF : Int → Int) (y : Int) (hN : NOk0 NF) (hv : -2147483648 ≤ y ∧ y < 2147483648) (hbad : ¬ ((0 ≤ y ∧ y < NF 4))) : mG l yX9_dropShot wsX9_dropShot 2 46 K [.ref (am 0), .int (iI y)] [gMdl K am th (am 1) lg mr en pw sl ly dn iz tz nx st tk vl ef ep hO hB ol rm oz, gArr K 95 (am 1) NF] (fun (v : Value) (u : Unit) => (v = .int (iI 0))) (fun (u : Unit) => [gMdl K am (thr (bI (0 ≤ y ∧ y < NF 4)) 1 1) (am 1) lg mr en pw sl ly dn iz tz nx st tk vl ef ep hO hB ol rm oz, gArr K 95 (am 1) NF]) 0 0 := by
  refine mG_of cX9_dropShot 3 (by decide) rfl (Nat.le_of_ble_eq_true rfl) ?_
  intro p e s m below meth c A ls Q S C hG hl hr hlk hin hQ
  have S : CallFix p m c cX9_dropShot 3 s ([.ref (am 0), .int (iI y)] : List Value).toArray wsX9_dropShot RX9 := S
  have iX90 : ∀ w ∈ wsX90, w ∈ wsX9_dropShot := fun _ h => List.mem_cons_of_mem _ (List.mem_append_right _ (h))
  have hl : lv_has ls 3 [(0, .ref (am 0)), (1, .int (iI y))] := hl
  have hG : gW K A s.heap [gMdl K am th (am 1) lg mr en pw sl ly dn iz tz nx st tk vl ef ep hO hB ol rm oz, gArr K 95 (am 1) NF] s.heap [] := hG
  have n0 := hN.1
  have n3 := hN.2.2.2.1
  refine lv_aload_n S.1 S.2.1 dX9_dropShot_0 rfl (lv_at hl 0 rfl) ?_
  refine lv_aload_n S.1 S.2.1 dX9_dropShot_1 rfl (lv_at hl 0 rfl) ?_
  refine lv_iload_n S.1 S.2.1 dX9_dropShot_2 rfl (lv_at hl 1 rfl) ?_
  refine g_invV (As := [.int (iI y)]) (rest := [.ref (am 0)]) (gs' := (fun u : Unit => [gMdl K am th (am 1) lg mr en pw sl ly dn iz tz nx st tk vl ef ep hO hB ol rm oz, gArr K 95 (am 1) NF])) S C hG [0, 1] (c_X9_isShot l K am th (am 1) lg mr en pw sl ly dn iz tz nx st tk vl ef ep hO hB ol rm oz NF y hN hv) rfl rfl 0 rfl rfl (cwV 1 S.2.2.2.2 gX9_dropShot_X9_isShot rfl rfl rfl (by decide +kernel) ⟨Nat.le_of_ble_eq_true rfl, Nat.le_of_ble_eq_true rfl⟩) rfl hl.1 rfl (Nat.le_of_ble_eq_true rfl) dX9_dropShot_3 ⟨Nat.le_of_ble_eq_true rfl, Nat.le_of_ble_eq_true rfl⟩ (fun _ => Nat.le_of_ble_eq_true rfl) (fun _ => rfl) (fun v u H locs hp hG => ?_)
  subst hp
  refine g_invV (As := [.int (iI (bI (0 ≤ y ∧ y < NF 4)))]) (rest := []) (gs' := (fun u : Unit => [gMdl K am (thr (bI (0 ≤ y ∧ y < NF 4)) 1 1) (am 1) lg mr en pw sl ly dn iz tz nx st tk vl ef ep hO hB ol rm oz, gArr K 95 (am 1) NF])) S C hG [0] (c_X9_passes l K am th (am 1) lg mr en pw sl ly dn iz tz nx st tk vl ef ep hO hB ol rm oz (bI (0 ≤ y ∧ y < NF 4)) (bI_01 _)) rfl rfl 0 rfl rfl (cwV 1 S.2.2.2.2 gX9_dropShot_X9_passes rfl rfl rfl (by decide +kernel) ⟨Nat.le_of_ble_eq_true rfl, Nat.le_of_ble_eq_true rfl⟩) rfl hl.1 rfl (Nat.le_of_ble_eq_true rfl) dX9_dropShot_6 ⟨Nat.le_of_ble_eq_true rfl, Nat.le_of_ble_eq_true rfl⟩ (fun _ => Nat.le_of_ble_eq_true rfl) (fun _ => rfl) (fun v u H locs hp hG => ?_)
  subst hp
  refine g_ifne_b (B := ((bI (0 ≤ y ∧ y < NF 4)) = 1)) (tgt := 14) S dX9_dropShot_9 (by decide) (fun q9 => ?_) (fun q9 => ?_)
  · skip
    exact absurd (bI1 q9) hbad
  · skip
    refine g_iconst S dX9_dropShot_12 ?_
    have hG : gW K A s.heap [gMdl K am (thr (bI (0 ≤ y ∧ y < NF 4)) 1 1) (am 1) lg mr en pw sl ly dn iz tz nx st tk vl ef ep hO hB ol rm oz, gArr K 95 (am 1) NF] _ _ := hG
    exact g_iret S hr hlk hQ dX9_dropShot_13 (Nat.le_of_ble_eq_true rfl) (Nat.le_of_ble_eq_true rfl) (() : Unit) rfl hG

set_option maxHeartbeats 1000000 in
set_option maxRecDepth 100000 in
theorem c_X9_endIf (l : Launch) (K : KC) (am : Nat → Nat) (th : Int) (lg : Int) (mr : Int) (en : Int) (pw : Int) (sl : Int) (ly : Int) (dn : Int) (iz : Int) (tz : Int) (nx : Int) (st : Int) (tk : Int) (vl : Int) (ef : Int) (ep : Int) (hO : Int) (hB : Int) (ol : Int) (rm : Int) (oz : Int) (NF : Int → Int) (A0 : Int → Int) (A1 : Int → Int) (A2 : Int → Int) (A3 : Int → Int) (A4 : Int → Int) (A5 : Int → Int) (A6 : Int → Int) (GA : Int → Int) (y : Int) (w : Int) (x : Int) (hN : NOk0 NF) (hv : -2147483648 ≤ y ∧ y < 2147483648) (hw_ : -2147483648 ≤ w ∧ w < 2147483648) (hx : -2147483648 ≤ x ∧ x < 2147483648) : mG l yX9_endIf wsX9_endIf 7 156 K [.ref (am 0), .int (iI y), .int (iI w), .int (iI x)] [gMdl K am th (am 1) lg mr en pw sl ly dn iz tz nx st tk vl ef ep hO hB ol rm oz, gArr K 95 (am 1) NF, gArr K 60 (am 3) A0, gArrZ K 60 (am 4) A1, gArr K 60 (am 5) A2, gArr K 60 (am 6) A3, gArr K 60 (am 7) A4, gArr K 60 (am 8) A5, gArr K 60 (am 9) A6, gArr K 95 (am 14) GA] (fun (v : Value) (u : Int × Int × Int × Int × Int × Int × Int × Int × (Int → Int) × (Int → Int) × (Int → Int) × (Int → Int) × (Int → Int) × (Int → Int) × (Int → Int) × (Int → Int)) => (v = .int (iI u.1)) ∧ (((0 ≤ y ∧ y < NF 4) ∧ 0 ≤ w ∧ w < NF 0) ∧ (1000 ≤ x ∧ x ≤ 4000) → u.1 = eS (upI NF (5 + 3 * w + 0) x) y)) (fun (u : Int × Int × Int × Int × Int × Int × Int × Int × (Int → Int) × (Int → Int) × (Int → Int) × (Int → Int) × (Int → Int) × (Int → Int) × (Int → Int) × (Int → Int)) => [gMdl K am (thr (bI ((0 ≤ y ∧ y < NF 4) ∧ 0 ≤ w ∧ w < NF 0)) (bI (1000 ≤ x ∧ x ≤ 4000)) 1) (am 1) u.2.1 u.2.2.1 u.2.2.2.1 u.2.2.2.2.1 u.2.2.2.2.2.1 u.2.2.2.2.2.2.1 u.2.2.2.2.2.2.2.1 iz tz nx st tk vl ef ep hO hB ol rm oz, gArr K 95 (am 1) NF, gArr K 60 (am 3) u.2.2.2.2.2.2.2.2.1, gArrZ K 60 (am 4) u.2.2.2.2.2.2.2.2.2.1, gArr K 60 (am 5) u.2.2.2.2.2.2.2.2.2.2.1, gArr K 60 (am 6) u.2.2.2.2.2.2.2.2.2.2.2.1, gArr K 60 (am 7) u.2.2.2.2.2.2.2.2.2.2.2.2.1, gArr K 60 (am 8) u.2.2.2.2.2.2.2.2.2.2.2.2.2.1, gArr K 60 (am 9) u.2.2.2.2.2.2.2.2.2.2.2.2.2.2.1, gArr K 95 (am 14) u.2.2.2.2.2.2.2.2.2.2.2.2.2.2.2]) 0 0 := by
  refine mG_of cX9_endIf 5 (by decide) rfl (Nat.le_of_ble_eq_true rfl) ?_
  intro p e s m below meth c A ls Q S C hG hl hr hlk hin hQ
  have S : CallFix p m c cX9_endIf 5 s ([.ref (am 0), .int (iI y), .int (iI w), .int (iI x)] : List Value).toArray wsX9_endIf RX9 := S
  have iX90 : ∀ w ∈ wsX90, w ∈ wsX9_endIf := fun _ h => List.mem_cons_of_mem _ (List.mem_append_right _ (h))
  have hl : lv_has ls 5 [(0, .ref (am 0)), (1, .int (iI y)), (2, .int (iI w)), (3, .int (iI x))] := hl
  have hG : gW K A s.heap [gMdl K am th (am 1) lg mr en pw sl ly dn iz tz nx st tk vl ef ep hO hB ol rm oz, gArr K 95 (am 1) NF, gArr K 60 (am 3) A0, gArrZ K 60 (am 4) A1, gArr K 60 (am 5) A2, gArr K 60 (am 6) A3, gArr K 60 (am 7) A4, gArr K 60 (am 8) A5, gArr K 60 (am 9) A6, gArr K 95 (am 14) GA] s.heap [] := hG
  have n0 := hN.1
  have n3 := hN.2.2.2.1
  refine lv_aload_n S.1 S.2.1 dX9_endIf_0 rfl (lv_at hl 0 rfl) ?_
  refine lv_aload_n S.1 S.2.1 dX9_endIf_1 rfl (lv_at hl 0 rfl) ?_
  refine lv_iload_n S.1 S.2.1 dX9_endIf_2 rfl (lv_at hl 1 rfl) ?_
  refine g_invV (As := [.int (iI y)]) (rest := [.ref (am 0)]) (gs' := (fun u : Unit => [gMdl K am th (am 1) lg mr en pw sl ly dn iz tz nx st tk vl ef ep hO hB ol rm oz, gArr K 95 (am 1) NF, gArr K 60 (am 3) A0, gArrZ K 60 (am 4) A1, gArr K 60 (am 5) A2, gArr K 60 (am 6) A3, gArr K 60 (am 7) A4, gArr K 60 (am 8) A5, gArr K 60 (am 9) A6, gArr K 95 (am 14) GA])) S C hG [0, 1] (c_X9_isShot l K am th (am 1) lg mr en pw sl ly dn iz tz nx st tk vl ef ep hO hB ol rm oz NF y hN hv) rfl rfl 0 rfl rfl (cwV 1 S.2.2.2.2 gX9_endIf_X9_isShot rfl rfl rfl (by decide +kernel) ⟨Nat.le_of_ble_eq_true rfl, Nat.le_of_ble_eq_true rfl⟩) rfl hl.1 rfl (Nat.le_of_ble_eq_true rfl) dX9_endIf_3 ⟨Nat.le_of_ble_eq_true rfl, Nat.le_of_ble_eq_true rfl⟩ (fun _ => Nat.le_of_ble_eq_true rfl) (fun _ => rfl) (fun v u H locs hp hG => ?_)
  subst hp
  have J22 : ∀ (H : Heap) (locs : List Loc) (ls : Array Slot), lv_has ls 5 [(0, .ref (am 0)), (1, .int (iI y)), (2, .int (iI w)), (3, .int (iI x))] → gW K A s.heap [gMdl K am th (am 1) lg mr en pw sl ly dn iz tz nx st tk vl ef ep hO hB ol rm oz, gArr K 95 (am 1) NF, gArr K 60 (am 3) A0, gArrZ K 60 (am 4) A1, gArr K 60 (am 5) A2, gArr K 60 (am 6) A3, gArr K 60 (am 7) A4, gArr K 60 (am 8) A5, gArr K 60 (am 9) A6, gArr K 95 (am 14) GA] H locs → W p l e { frames := 7, cells := 0, slots := 0, locals := 156 } s m ([.ref (am 0), .int (iI y), .int (iI w), .int (iI x)] : List Value).toArray below meth c H locs 0 0 Q (F0 m 22 ls [.int (iI (bI ((0 ≤ y ∧ y < NF 4) ∧ 0 ≤ w ∧ w < NF 0))), .ref (am 0)]) := by
    intro  H locs ls  hl hG
    refine lv_iload_n S.1 S.2.1 dX9_endIf_22 rfl (lv_at hl 3 rfl) ?_
    refine g_invS (As := [.int (iI x)]) (rest := [.int (iI (bI ((0 ≤ y ∧ y < NF 4) ∧ 0 ≤ w ∧ w < NF 0))), .ref (am 0)]) (gs' := (fun u : Unit => [gMdl K am th (am 1) lg mr en pw sl ly dn iz tz nx st tk vl ef ep hO hB ol rm oz, gArr K 95 (am 1) NF, gArr K 60 (am 3) A0, gArrZ K 60 (am 4) A1, gArr K 60 (am 5) A2, gArr K 60 (am 6) A3, gArr K 60 (am 7) A4, gArr K 60 (am 8) A5, gArr K 60 (am 9) A6, gArr K 95 (am 14) GA])) S C hG [] (c_X9_isIndex l K x hx) rfl rfl (va_cwS 1 S.2.2.2.2 gX9_endIf_X9_isIndex rfl rfl rfl (by decide +kernel) ⟨Nat.le_of_ble_eq_true rfl, Nat.le_of_ble_eq_true rfl⟩) rfl hl.1 rfl (Nat.le_of_ble_eq_true rfl) dX9_endIf_23 ⟨Nat.le_of_ble_eq_true rfl, Nat.le_of_ble_eq_true rfl⟩ (fun _ => Nat.le_of_ble_eq_true rfl) (fun _ => rfl) (fun v u H locs hp hG => ?_)
    subst hp
    refine g_invV (As := [.int (iI (bI ((0 ≤ y ∧ y < NF 4) ∧ 0 ≤ w ∧ w < NF 0))), .int (iI (bI (1000 ≤ x ∧ x ≤ 4000)))]) (rest := []) (gs' := (fun u : Unit => [gMdl K am (thr (bI ((0 ≤ y ∧ y < NF 4) ∧ 0 ≤ w ∧ w < NF 0)) (bI (1000 ≤ x ∧ x ≤ 4000)) 1) (am 1) lg mr en pw sl ly dn iz tz nx st tk vl ef ep hO hB ol rm oz, gArr K 95 (am 1) NF, gArr K 60 (am 3) A0, gArrZ K 60 (am 4) A1, gArr K 60 (am 5) A2, gArr K 60 (am 6) A3, gArr K 60 (am 7) A4, gArr K 60 (am 8) A5, gArr K 60 (am 9) A6, gArr K 95 (am 14) GA])) S C hG [0] (c_X9_passes2 l K am th (am 1) lg mr en pw sl ly dn iz tz nx st tk vl ef ep hO hB ol rm oz (bI ((0 ≤ y ∧ y < NF 4) ∧ 0 ≤ w ∧ w < NF 0)) (bI (1000 ≤ x ∧ x ≤ 4000)) (bI_01 _) (bI_01 _)) rfl rfl 0 rfl rfl (cwV 2 S.2.2.2.2 gX9_endIf_X9_passes2 rfl rfl rfl (by decide +kernel) ⟨Nat.le_of_ble_eq_true rfl, Nat.le_of_ble_eq_true rfl⟩) rfl hl.1 rfl (Nat.le_of_ble_eq_true rfl) dX9_endIf_26 ⟨Nat.le_of_ble_eq_true rfl, Nat.le_of_ble_eq_true rfl⟩ (fun _ => Nat.le_of_ble_eq_true rfl) (fun _ => rfl) (fun v u H locs hp hG => ?_)
    subst hp
    refine g_ifne_b (B := ((bI ((0 ≤ y ∧ y < NF 4) ∧ 0 ≤ w ∧ w < NF 0)) = 1 ∧ (bI (1000 ≤ x ∧ x ≤ 4000)) = 1)) (tgt := 34) S dX9_endIf_29 (by decide) (fun q29 => ?_) (fun q29 => ?_)
    · skip
      have qa := bI1 q29.1
      have qb := bI1 q29.2
      refine lv_aload_n S.1 S.2.1 dX9_endIf_34 rfl (lv_at hl 0 rfl) ?_
      refine g_invVv (As := []) (rest := []) (gs' := (fun u : (Int → Int) => [gMdl K am (thr (bI ((0 ≤ y ∧ y < NF 4) ∧ 0 ≤ w ∧ w < NF 0)) (bI (1000 ≤ x ∧ x ≤ 4000)) 1) (am 1) lg mr en pw sl ly dn iz tz nx st tk vl ef ep hO hB ol rm oz, gArr K 95 (am 1) NF, gArr K 60 (am 3) A0, gArrZ K 60 (am 4) A1, gArr K 60 (am 5) A2, gArr K 60 (am 6) A3, gArr K 60 (am 7) A4, gArr K 60 (am 8) A5, gArr K 60 (am 9) A6, gArr K 95 (am 14) u])) S C hG [0, 1, 9] (c_X9_keepAside l K am (thr (bI ((0 ≤ y ∧ y < NF 4) ∧ 0 ≤ w ∧ w < NF 0)) (bI (1000 ≤ x ∧ x ≤ 4000)) 1) lg mr en pw sl ly dn iz tz nx st tk vl ef ep hO hB ol rm oz NF GA) rfl rfl 0 rfl rfl (cwV 0 S.2.2.2.2 gX9_endIf_X9_keepAside rfl rfl rfl (by decide +kernel) ⟨Nat.le_of_ble_eq_true rfl, Nat.le_of_ble_eq_true rfl⟩) rfl hl.1 rfl (Nat.le_of_ble_eq_true rfl) dX9_endIf_35 ⟨Nat.le_of_ble_eq_true rfl, Nat.le_of_ble_eq_true rfl⟩ (fun _ => Nat.le_of_ble_eq_true rfl) (fun _ => rfl) (fun u H locs hp hG => ?_)
      obtain ⟨G2_35, rfl⟩ : ∃ z, z = u := ⟨_, rfl⟩
      have hg_35 := hp
      have hg_35 : G2_35 = cpyI NF GA 95 := hg_35
      have hG : gW K A s.heap [gMdl K am (thr (bI ((0 ≤ y ∧ y < NF 4) ∧ 0 ≤ w ∧ w < NF 0)) (bI (1000 ≤ x ∧ x ≤ 4000)) 1) (am 1) lg mr en pw sl ly dn iz tz nx st tk vl ef ep hO hB ol rm oz, gArr K 95 (am 1) NF, gArr K 60 (am 3) A0, gArrZ K 60 (am 4) A1, gArr K 60 (am 5) A2, gArr K 60 (am 6) A3, gArr K 60 (am 7) A4, gArr K 60 (am 8) A5, gArr K 60 (am 9) A6, gArr K 95 (am 14) G2_35] _ _ := hG
      refine lv_aload_n S.1 S.2.1 dX9_endIf_38 rfl (lv_at hl 0 rfl) ?_
      refine g_get S C hG iX90 0 rfl rfl 1 (by decide) (List.mem_of_getElem? (i := 1) rfl) rfl dX9_endIf_39 ?_
      refine g_iconst S dX9_endIf_42 ?_
      refine g_iconst S dX9_endIf_43 ?_
      refine lv_iload_n S.1 S.2.1 dX9_endIf_44 rfl (lv_at hl 2 rfl) ?_
      refine g_imul S dX9_endIf_45 rfl ?_
      refine g_iadd S dX9_endIf_46 rfl ?_
      refine g_iconst S dX9_endIf_47 ?_
      refine g_iadd S dX9_endIf_48 rfl ?_
      refine lv_iload_n S.1 S.2.1 dX9_endIf_49 rfl (lv_at hl 3 rfl) ?_
      refine g_iast (gs' := [gMdl K am (thr (bI ((0 ≤ y ∧ y < NF 4) ∧ 0 ≤ w ∧ w < NF 0)) (bI (1000 ≤ x ∧ x ≤ 4000)) 1) (am 1) lg mr en pw sl ly dn iz tz nx st tk vl ef ep hO hB ol rm oz, gArr K 95 (am 1) (upI NF ((5 + (3 * w)) + 0) x), gArr K 60 (am 3) A0, gArrZ K 60 (am 4) A1, gArr K 60 (am 5) A2, gArr K 60 (am 6) A3, gArr K 60 (am 7) A4, gArr K 60 (am 8) A5, gArr K 60 (am 9) A6, gArr K 95 (am 14) G2_35]) S C hG 1 rfl (by omega) (by omega) (by omega) rfl dX9_endIf_50 (fun H locs hG => ?_)
      refine lv_aload_n S.1 S.2.1 dX9_endIf_51 rfl (lv_at hl 0 rfl) ?_
      refine lv_iload_n S.1 S.2.1 dX9_endIf_52 rfl (lv_at hl 1 rfl) ?_
      refine g_invV (As := [.int (iI y)]) (rest := []) (gs' := (fun u : Int × Int × Int × Int × Int × Int × Int × (Int → Int) × (Int → Int) × (Int → Int) × (Int → Int) × (Int → Int) × (Int → Int) × (Int → Int) => [gMdl K am (thr (bI ((0 ≤ y ∧ y < NF 4) ∧ 0 ≤ w ∧ w < NF 0)) (bI (1000 ≤ x ∧ x ≤ 4000)) 1) (am 1) u.1 u.2.1 u.2.2.1 u.2.2.2.1 u.2.2.2.2.1 u.2.2.2.2.2.1 u.2.2.2.2.2.2.1 iz tz nx st tk vl ef ep hO hB ol rm oz, gArr K 95 (am 1) (upI NF ((5 + (3 * w)) + 0) x), gArr K 60 (am 3) u.2.2.2.2.2.2.2.1, gArrZ K 60 (am 4) u.2.2.2.2.2.2.2.2.1, gArr K 60 (am 5) u.2.2.2.2.2.2.2.2.2.1, gArr K 60 (am 6) u.2.2.2.2.2.2.2.2.2.2.1, gArr K 60 (am 7) u.2.2.2.2.2.2.2.2.2.2.2.1, gArr K 60 (am 8) u.2.2.2.2.2.2.2.2.2.2.2.2.1, gArr K 60 (am 9) u.2.2.2.2.2.2.2.2.2.2.2.2.2, gArr K 95 (am 14) G2_35])) S C hG [0, 1, 2, 3, 4, 5, 6, 7, 8] (c_X9_endOfShot l K am (thr (bI ((0 ≤ y ∧ y < NF 4) ∧ 0 ≤ w ∧ w < NF 0)) (bI (1000 ≤ x ∧ x ≤ 4000)) 1) (am 1) lg mr en pw sl ly dn iz tz nx st tk vl ef ep hO hB ol rm oz (upI NF ((5 + (3 * w)) + 0) x) A0 A1 A2 A3 A4 A5 A6 y (hN.setL qa.2 (Or.inl ⟨rfl, qb⟩)) (by rw [upI_n _ _ (by omega)] <;> exact qa.1)) rfl rfl 0 rfl rfl (cwV 1 S.2.2.2.2 gX9_endIf_X9_endOfShot rfl rfl rfl (by decide +kernel) ⟨Nat.le_of_ble_eq_true rfl, Nat.le_of_ble_eq_true rfl⟩) rfl hl.1 rfl (Nat.le_of_ble_eq_true rfl) dX9_endIf_53 ⟨Nat.le_of_ble_eq_true rfl, Nat.le_of_ble_eq_true rfl⟩ (fun _ => Nat.le_of_ble_eq_true rfl) (fun _ => rfl) (fun v u H locs hp hG => ?_)
      obtain ⟨lg2_53, mr2_53, en2_53, pw2_53, sl2_53, ly2_53, dn2_53, B0_53, B1_53, B2_53, B3_53, B4_53, B5_53, B6_53⟩ := u
      obtain ⟨rfl, hf_53⟩ := hp
      have hf_53 : FolS (upI NF ((5 + (3 * w)) + 0) x) y lg2_53 mr2_53 en2_53 pw2_53 B0_53 B1_53 B2_53 B3_53 B4_53 B5_53 B6_53 := hf_53
      have hG : gW K A s.heap [gMdl K am (thr (bI ((0 ≤ y ∧ y < NF 4) ∧ 0 ≤ w ∧ w < NF 0)) (bI (1000 ≤ x ∧ x ≤ 4000)) 1) (am 1) lg2_53 mr2_53 en2_53 pw2_53 sl2_53 ly2_53 dn2_53 iz tz nx st tk vl ef ep hO hB ol rm oz, gArr K 95 (am 1) (upI NF ((5 + (3 * w)) + 0) x), gArr K 60 (am 3) B0_53, gArrZ K 60 (am 4) B1_53, gArr K 60 (am 5) B2_53, gArr K 60 (am 6) B3_53, gArr K 60 (am 7) B4_53, gArr K 60 (am 8) B5_53, gArr K 60 (am 9) B6_53, gArr K 95 (am 14) G2_35] _ _ := hG
      refine lv_istore (lv' := [(4, .int (iI (eS (upI NF ((5 + (3 * w)) + 0) x) y))), (0, .ref (am 0)), (1, .int (iI y)), (2, .int (iI w)), (3, .int (iI x))]) S.1 S.2.1 dX9_endIf_56 hl (by decide) rfl (fun ls hl => ?_)
      refine lv_aload_n S.1 S.2.1 dX9_endIf_58 rfl (lv_at hl 1 rfl) ?_
      refine g_invVv (As := []) (rest := []) (gs' := (fun u : (Int → Int) => [gMdl K am (thr (bI ((0 ≤ y ∧ y < NF 4) ∧ 0 ≤ w ∧ w < NF 0)) (bI (1000 ≤ x ∧ x ≤ 4000)) 1) (am 1) lg2_53 mr2_53 en2_53 pw2_53 sl2_53 ly2_53 dn2_53 iz tz nx st tk vl ef ep hO hB ol rm oz, gArr K 95 (am 1) u, gArr K 60 (am 3) B0_53, gArrZ K 60 (am 4) B1_53, gArr K 60 (am 5) B2_53, gArr K 60 (am 6) B3_53, gArr K 60 (am 7) B4_53, gArr K 60 (am 8) B5_53, gArr K 60 (am 9) B6_53, gArr K 95 (am 14) G2_35])) S C hG [0, 1, 9] (c_X9_layBack l K am (thr (bI ((0 ≤ y ∧ y < NF 4) ∧ 0 ≤ w ∧ w < NF 0)) (bI (1000 ≤ x ∧ x ≤ 4000)) 1) lg2_53 mr2_53 en2_53 pw2_53 sl2_53 ly2_53 dn2_53 iz tz nx st tk vl ef ep hO hB ol rm oz (upI NF ((5 + (3 * w)) + 0) x) G2_35) rfl rfl 0 rfl rfl (cwV 0 S.2.2.2.2 gX9_endIf_X9_layBack rfl rfl rfl (by decide +kernel) ⟨Nat.le_of_ble_eq_true rfl, Nat.le_of_ble_eq_true rfl⟩) rfl hl.1 rfl (Nat.le_of_ble_eq_true rfl) dX9_endIf_59 ⟨Nat.le_of_ble_eq_true rfl, Nat.le_of_ble_eq_true rfl⟩ (fun _ => Nat.le_of_ble_eq_true rfl) (fun _ => rfl) (fun u H locs hp hG => ?_)
      obtain ⟨F2_59, rfl⟩ : ∃ z, z = u := ⟨_, rfl⟩
      have hF_59 := hp
      have hF_59 : F2_59 = cpyI G2_35 (upI NF ((5 + (3 * w)) + 0) x) 95 := hF_59
      have hG : gW K A s.heap [gMdl K am (thr (bI ((0 ≤ y ∧ y < NF 4) ∧ 0 ≤ w ∧ w < NF 0)) (bI (1000 ≤ x ∧ x ≤ 4000)) 1) (am 1) lg2_53 mr2_53 en2_53 pw2_53 sl2_53 ly2_53 dn2_53 iz tz nx st tk vl ef ep hO hB ol rm oz, gArr K 95 (am 1) F2_59, gArr K 60 (am 3) B0_53, gArrZ K 60 (am 4) B1_53, gArr K 60 (am 5) B2_53, gArr K 60 (am 6) B3_53, gArr K 60 (am 7) B4_53, gArr K 60 (am 8) B5_53, gArr K 60 (am 9) B6_53, gArr K 95 (am 14) G2_35] _ _ := hG
      have e9 : NF = F2_59 := Eq.symm (by rw [hF_59, hg_35] <;> exact back_up (by omega))
      subst e9
      refine lv_iload S.1 S.2.1 dX9_endIf_62 (lv_at hl 0 rfl) ?_
      have hG : gW K A s.heap [gMdl K am (thr (bI ((0 ≤ y ∧ y < NF 4) ∧ 0 ≤ w ∧ w < NF 0)) (bI (1000 ≤ x ∧ x ≤ 4000)) 1) (am 1) lg2_53 mr2_53 en2_53 pw2_53 sl2_53 ly2_53 dn2_53 iz tz nx st tk vl ef ep hO hB ol rm oz, gArr K 95 (am 1) NF, gArr K 60 (am 3) B0_53, gArrZ K 60 (am 4) B1_53, gArr K 60 (am 5) B2_53, gArr K 60 (am 6) B3_53, gArr K 60 (am 7) B4_53, gArr K 60 (am 8) B5_53, gArr K 60 (am 9) B6_53, gArr K 95 (am 14) G2_35] _ _ := hG
      exact g_iret S hr hlk hQ dX9_endIf_64 (Nat.le_of_ble_eq_true rfl) (Nat.le_of_ble_eq_true rfl) ((eS (upI NF ((5 + (3 * w)) + 0) x) y, lg2_53, mr2_53, en2_53, pw2_53, sl2_53, ly2_53, dn2_53, B0_53, B1_53, B2_53, B3_53, B4_53, B5_53, B6_53, G2_35) : Int × Int × Int × Int × Int × Int × Int × Int × (Int → Int) × (Int → Int) × (Int → Int) × (Int → Int) × (Int → Int) × (Int → Int) × (Int → Int) × (Int → Int)) ⟨rfl, (fun _ => rfl)⟩ hG
    · skip
      refine g_iconst S dX9_endIf_32 ?_
      have hG : gW K A s.heap [gMdl K am (thr (bI ((0 ≤ y ∧ y < NF 4) ∧ 0 ≤ w ∧ w < NF 0)) (bI (1000 ≤ x ∧ x ≤ 4000)) 1) (am 1) lg mr en pw sl ly dn iz tz nx st tk vl ef ep hO hB ol rm oz, gArr K 95 (am 1) NF, gArr K 60 (am 3) A0, gArrZ K 60 (am 4) A1, gArr K 60 (am 5) A2, gArr K 60 (am 6) A3, gArr K 60 (am 7) A4, gArr K 60 (am 8) A5, gArr K 60 (am 9) A6, gArr K 95 (am 14) GA] _ _ := hG
      exact g_iret S hr hlk hQ dX9_endIf_33 (Nat.le_of_ble_eq_true rfl) (Nat.le_of_ble_eq_true rfl) ((0, lg, mr, en, pw, sl, ly, dn, A0, A1, A2, A3, A4, A5, A6, GA) : Int × Int × Int × Int × Int × Int × Int × Int × (Int → Int) × (Int → Int) × (Int → Int) × (Int → Int) × (Int → Int) × (Int → Int) × (Int → Int) × (Int → Int)) ⟨rfl, (fun h => absurd ⟨bI_t h.1, bI_t h.2⟩ q29)⟩ hG
  refine g_ifeq_b (B := (0 ≤ y ∧ y < NF 4)) (tgt := 21) S dX9_endIf_6 (by decide) (fun q6 => ?_) (fun q6 => ?_)
  · skip
    refine g_iconst S dX9_endIf_21 ?_
    refine g_top (w := .int (iI (bI ((0 ≤ y ∧ y < NF 4) ∧ 0 ≤ w ∧ w < NF 0)))) (congrArg (fun z : Int => Value.int (iI z)) ((bI_f (by omega)).symm)) ?_
    exact J22 _ _ _ (lv_sub hl [0, 1, 2, 3] rfl) hG
  · skip
    refine lv_aload_n S.1 S.2.1 dX9_endIf_9 rfl (lv_at hl 0 rfl) ?_
    refine lv_iload_n S.1 S.2.1 dX9_endIf_10 rfl (lv_at hl 2 rfl) ?_
    refine g_invV (As := [.int (iI w)]) (rest := [.ref (am 0)]) (gs' := (fun u : Unit => [gMdl K am th (am 1) lg mr en pw sl ly dn iz tz nx st tk vl ef ep hO hB ol rm oz, gArr K 95 (am 1) NF, gArr K 60 (am 3) A0, gArrZ K 60 (am 4) A1, gArr K 60 (am 5) A2, gArr K 60 (am 6) A3, gArr K 60 (am 7) A4, gArr K 60 (am 8) A5, gArr K 60 (am 9) A6, gArr K 95 (am 14) GA])) S C hG [0, 1] (c_X9_isLayer l K am th (am 1) lg mr en pw sl ly dn iz tz nx st tk vl ef ep hO hB ol rm oz NF w hN hw_) rfl rfl 0 rfl rfl (cwV 1 S.2.2.2.2 gX9_endIf_X9_isLayer rfl rfl rfl (by decide +kernel) ⟨Nat.le_of_ble_eq_true rfl, Nat.le_of_ble_eq_true rfl⟩) rfl hl.1 rfl (Nat.le_of_ble_eq_true rfl) dX9_endIf_11 ⟨Nat.le_of_ble_eq_true rfl, Nat.le_of_ble_eq_true rfl⟩ (fun _ => Nat.le_of_ble_eq_true rfl) (fun _ => rfl) (fun v u H locs hp hG => ?_)
    subst hp
    refine g_ifeq_b (B := (0 ≤ w ∧ w < NF 0)) (tgt := 21) S dX9_endIf_14 (by decide) (fun q14 => ?_) (fun q14 => ?_)
    · skip
      refine g_iconst S dX9_endIf_21 ?_
      refine g_top (w := .int (iI (bI ((0 ≤ y ∧ y < NF 4) ∧ 0 ≤ w ∧ w < NF 0)))) (congrArg (fun z : Int => Value.int (iI z)) ((bI_f (by omega)).symm)) ?_
      exact J22 _ _ _ (lv_sub hl [0, 1, 2, 3] rfl) hG
    · skip
      refine g_iconst S dX9_endIf_17 ?_
      refine g_top (w := .int (iI (bI ((0 ≤ y ∧ y < NF 4) ∧ 0 ≤ w ∧ w < NF 0)))) (congrArg (fun z : Int => Value.int (iI z)) ((bI_t (by omega)).symm)) ?_
      refine lv_goto (tgt := 22) S.1 S.2.1 dX9_endIf_18 (by decide) ?_
      exact J22 _ _ _ (lv_sub hl [0, 1, 2, 3] rfl) hG

set_option maxHeartbeats 1000000 in
set_option maxRecDepth 100000 in
theorem c_X9_bestWithout (l : Launch) (K : KC) (am : Nat → Nat) (th : Int) (lg : Int) (mr : Int) (en : Int) (pw : Int) (sl : Int) (ly : Int) (dn : Int) (iz : Int) (tz : Int) (nx : Int) (st : Int) (tk : Int) (vl : Int) (ef : Int) (ep : Int) (hO : Int) (hB : Int) (ol : Int) (rm : Int) (oz : Int) (NF : Int → Int) (A0 : Int → Int) (A1 : Int → Int) (A2 : Int → Int) (A3 : Int → Int) (A4 : Int → Int) (A5 : Int → Int) (A6 : Int → Int) (GA : Int → Int) (y : Int) (hN : NOk0 NF) (hv : -2147483648 ≤ y ∧ y < 2147483648) : mG l yX9_bestWithout wsX9_bestWithout 6 135 K [.ref (am 0), .int (iI y)] [gMdl K am th (am 1) lg mr en pw sl ly dn iz tz nx st tk vl ef ep hO hB ol rm oz, gArr K 95 (am 1) NF, gArr K 60 (am 3) A0, gArrZ K 60 (am 4) A1, gArr K 60 (am 5) A2, gArr K 60 (am 6) A3, gArr K 60 (am 7) A4, gArr K 60 (am 8) A5, gArr K 60 (am 9) A6, gArr K 95 (am 14) GA] (fun (v : Value) (u : Int × Int × Int × Int × Int × Int × Int × Int × (Int → Int) × (Int → Int) × (Int → Int) × (Int → Int) × (Int → Int) × (Int → Int) × (Int → Int) × (Int → Int)) => (v = .int (iI u.1)) ∧ (0 ≤ y ∧ y < NF 4 → u.1 = if NF 0 < 2 then -1 else (bstN (fun _ : Nat => true) (fun i : Nat => pS (remLN NF (i : Int)) y) (NF 0).toNat).1)) (fun (u : Int × Int × Int × Int × Int × Int × Int × Int × (Int → Int) × (Int → Int) × (Int → Int) × (Int → Int) × (Int → Int) × (Int → Int) × (Int → Int) × (Int → Int)) => [gMdl K am (thr (bI (0 ≤ y ∧ y < NF 4)) 1 1) (am 1) u.2.1 u.2.2.1 u.2.2.2.1 u.2.2.2.2.1 u.2.2.2.2.2.1 u.2.2.2.2.2.2.1 u.2.2.2.2.2.2.2.1 iz tz nx st tk vl ef ep hO hB ol rm oz, gArr K 95 (am 1) NF, gArr K 60 (am 3) u.2.2.2.2.2.2.2.2.1, gArrZ K 60 (am 4) u.2.2.2.2.2.2.2.2.2.1, gArr K 60 (am 5) u.2.2.2.2.2.2.2.2.2.2.1, gArr K 60 (am 6) u.2.2.2.2.2.2.2.2.2.2.2.1, gArr K 60 (am 7) u.2.2.2.2.2.2.2.2.2.2.2.2.1, gArr K 60 (am 8) u.2.2.2.2.2.2.2.2.2.2.2.2.2.1, gArr K 60 (am 9) u.2.2.2.2.2.2.2.2.2.2.2.2.2.2.1, gArr K 95 (am 14) u.2.2.2.2.2.2.2.2.2.2.2.2.2.2.2]) 0 0 := by
  refine mG_of cX9_bestWithout 7 (by decide) rfl (Nat.le_of_ble_eq_true rfl) ?_
  intro p e s m below meth c A ls Q S C hG hl hr hlk hin hQ
  have S : CallFix p m c cX9_bestWithout 7 s ([.ref (am 0), .int (iI y)] : List Value).toArray wsX9_bestWithout RX9 := S
  have iX90 : ∀ w ∈ wsX90, w ∈ wsX9_bestWithout := fun _ h => List.mem_cons_of_mem _ (List.mem_append_right _ (h))
  have hl : lv_has ls 7 [(0, .ref (am 0)), (1, .int (iI y))] := hl
  have hG : gW K A s.heap [gMdl K am th (am 1) lg mr en pw sl ly dn iz tz nx st tk vl ef ep hO hB ol rm oz, gArr K 95 (am 1) NF, gArr K 60 (am 3) A0, gArrZ K 60 (am 4) A1, gArr K 60 (am 5) A2, gArr K 60 (am 6) A3, gArr K 60 (am 7) A4, gArr K 60 (am 8) A5, gArr K 60 (am 9) A6, gArr K 95 (am 14) GA] s.heap [] := hG
  have n0 := hN.1
  have n3 := hN.2.2.2.1
  refine lv_aload_n S.1 S.2.1 dX9_bestWithout_0 rfl (lv_at hl 0 rfl) ?_
  refine lv_aload_n S.1 S.2.1 dX9_bestWithout_1 rfl (lv_at hl 0 rfl) ?_
  refine lv_iload_n S.1 S.2.1 dX9_bestWithout_2 rfl (lv_at hl 1 rfl) ?_
  refine g_invV (As := [.int (iI y)]) (rest := [.ref (am 0)]) (gs' := (fun u : Unit => [gMdl K am th (am 1) lg mr en pw sl ly dn iz tz nx st tk vl ef ep hO hB ol rm oz, gArr K 95 (am 1) NF, gArr K 60 (am 3) A0, gArrZ K 60 (am 4) A1, gArr K 60 (am 5) A2, gArr K 60 (am 6) A3, gArr K 60 (am 7) A4, gArr K 60 (am 8) A5, gArr K 60 (am 9) A6, gArr K 95 (am 14) GA])) S C hG [0, 1] (c_X9_isShot l K am th (am 1) lg mr en pw sl ly dn iz tz nx st tk vl ef ep hO hB ol rm oz NF y hN hv) rfl rfl 0 rfl rfl (cwV 1 S.2.2.2.2 gX9_bestWithout_X9_isShot rfl rfl rfl (by decide +kernel) ⟨Nat.le_of_ble_eq_true rfl, Nat.le_of_ble_eq_true rfl⟩) rfl hl.1 rfl (Nat.le_of_ble_eq_true rfl) dX9_bestWithout_3 ⟨Nat.le_of_ble_eq_true rfl, Nat.le_of_ble_eq_true rfl⟩ (fun _ => Nat.le_of_ble_eq_true rfl) (fun _ => rfl) (fun v u H locs hp hG => ?_)
  subst hp
  refine g_invV (As := [.int (iI (bI (0 ≤ y ∧ y < NF 4)))]) (rest := []) (gs' := (fun u : Unit => [gMdl K am (thr (bI (0 ≤ y ∧ y < NF 4)) 1 1) (am 1) lg mr en pw sl ly dn iz tz nx st tk vl ef ep hO hB ol rm oz, gArr K 95 (am 1) NF, gArr K 60 (am 3) A0, gArrZ K 60 (am 4) A1, gArr K 60 (am 5) A2, gArr K 60 (am 6) A3, gArr K 60 (am 7) A4, gArr K 60 (am 8) A5, gArr K 60 (am 9) A6, gArr K 95 (am 14) GA])) S C hG [0] (c_X9_passes l K am th (am 1) lg mr en pw sl ly dn iz tz nx st tk vl ef ep hO hB ol rm oz (bI (0 ≤ y ∧ y < NF 4)) (bI_01 _)) rfl rfl 0 rfl rfl (cwV 1 S.2.2.2.2 gX9_bestWithout_X9_passes rfl rfl rfl (by decide +kernel) ⟨Nat.le_of_ble_eq_true rfl, Nat.le_of_ble_eq_true rfl⟩) rfl hl.1 rfl (Nat.le_of_ble_eq_true rfl) dX9_bestWithout_6 ⟨Nat.le_of_ble_eq_true rfl, Nat.le_of_ble_eq_true rfl⟩ (fun _ => Nat.le_of_ble_eq_true rfl) (fun _ => rfl) (fun v u H locs hp hG => ?_)
  subst hp
  refine g_ifne_b (B := ((bI (0 ≤ y ∧ y < NF 4)) = 1)) (tgt := 14) S dX9_bestWithout_9 (by decide) (fun q9 => ?_) (fun q9 => ?_)
  · skip
    have qa := bI1 q9
    refine g_iconst S dX9_bestWithout_14 ?_
    refine lv_istore_n (lv' := [(2, .int (iI (-1))), (0, .ref (am 0)), (1, .int (iI y))]) S.1 S.2.1 dX9_bestWithout_15 rfl hl (by decide) rfl (fun ls hl => ?_)
    refine g_ldc2 (z := (-1)) S dX9_bestWithout_16 (List.mem_of_getElem? (i := 1) rfl) rfl ?_
    refine lv_lstore_n (lv' := [(3, .long (iL (-1))), (2, .int (iI (-1))), (0, .ref (am 0)), (1, .int (iI y))]) S.1 S.2.1 dX9_bestWithout_19 rfl hl (by decide) rfl (fun ls hl => ?_)
    refine lv_aload_n S.1 S.2.1 dX9_bestWithout_20 rfl (lv_at hl 2 rfl) ?_
    refine g_invV (As := []) (rest := []) (gs' := (fun u : Unit => [gMdl K am (thr (bI (0 ≤ y ∧ y < NF 4)) 1 1) (am 1) lg mr en pw sl ly dn iz tz nx st tk vl ef ep hO hB ol rm oz, gArr K 95 (am 1) NF, gArr K 60 (am 3) A0, gArrZ K 60 (am 4) A1, gArr K 60 (am 5) A2, gArr K 60 (am 6) A3, gArr K 60 (am 7) A4, gArr K 60 (am 8) A5, gArr K 60 (am 9) A6, gArr K 95 (am 14) GA])) S C hG [0, 1] (c_X9_layers l K am (thr (bI (0 ≤ y ∧ y < NF 4)) 1 1) (am 1) lg mr en pw sl ly dn iz tz nx st tk vl ef ep hO hB ol rm oz NF) rfl rfl 0 rfl rfl (cwV 0 S.2.2.2.2 gX9_bestWithout_X9_layers rfl rfl rfl (by decide +kernel) ⟨Nat.le_of_ble_eq_true rfl, Nat.le_of_ble_eq_true rfl⟩) rfl hl.1 rfl (Nat.le_of_ble_eq_true rfl) dX9_bestWithout_21 ⟨Nat.le_of_ble_eq_true rfl, Nat.le_of_ble_eq_true rfl⟩ (fun _ => Nat.le_of_ble_eq_true rfl) (fun _ => rfl) (fun v u H locs hp hG => ?_)
    subst hp
    refine lv_istore (lv' := [(5, .int (iI (NF 0))), (3, .long (iL (-1))), (2, .int (iI (-1))), (0, .ref (am 0)), (1, .int (iI y))]) S.1 S.2.1 dX9_bestWithout_24 hl (by decide) rfl (fun ls hl => ?_)
    refine g_iconst S dX9_bestWithout_26 ?_
    refine lv_istore (lv' := [(6, .int (iI 0)), (5, .int (iI (NF 0))), (3, .long (iL (-1))), (2, .int (iI (-1))), (0, .ref (am 0)), (1, .int (iI y))]) S.1 S.2.1 dX9_bestWithout_27 hl (by decide) rfl (fun ls hl => ?_)
    have L29 : ∀ (fu : Nat) (k : Nat) (w : Int) (bb : Int) (mm : Int) (G1 : Int → Int) (lg1 : Int) (mr1 : Int) (en1 : Int) (pw1 : Int) (sl1 : Int) (ly1 : Int) (dn1 : Int) (E0 : Int → Int) (E1 : Int → Int) (E2 : Int → Int) (E3 : Int → Int) (E4 : Int → Int) (E5 : Int → Int) (E6 : Int → Int) (H : Heap) (locs : List Loc) (ls : Array Slot), ((NF 0 - w).toNat) < fu → (w = (k : Int) ∧ w ≤ NF 0) → (k = 0 ∨ 1 < NF 0) → (bb = (bstN (fun _ : Nat => true) (fun i : Nat => pS (remLN NF (i : Int)) y) k).1 ∧ (bb = -1 ∧ mm = -1 ∨ ¬ bb = -1 ∧ mm = (bstN (fun _ : Nat => true) (fun i : Nat => pS (remLN NF (i : Int)) y) k).2)) → (-1 ≤ mm ∧ mm ≤ 1000000 ∧ -1 ≤ bb ∧ bb ≤ 10) → lv_has ls 7 [(0, .ref (am 0)), (1, .int (iI y)), (2, .int (iI bb)), (3, .long (iL mm)), (5, .int (iI (NF 0))), (6, .int (iI w))] → gW K A s.heap [gMdl K am (thr (bI (0 ≤ y ∧ y < NF 4)) 1 1) (am 1) lg1 mr1 en1 pw1 sl1 ly1 dn1 iz tz nx st tk vl ef ep hO hB ol rm oz, gArr K 95 (am 1) NF, gArr K 60 (am 3) E0, gArrZ K 60 (am 4) E1, gArr K 60 (am 5) E2, gArr K 60 (am 6) E3, gArr K 60 (am 7) E4, gArr K 60 (am 8) E5, gArr K 60 (am 9) E6, gArr K 95 (am 14) G1] H locs → W p l e { frames := 6, cells := 0, slots := 0, locals := 135 } s m ([.ref (am 0), .int (iI y)] : List Value).toArray below meth c H locs 0 0 Q (F0 m 29 ls []) := by
      intro fu
      induction fu with
      | zero => intro k w bb mm G1 lg1 mr1 en1 pw1 sl1 ly1 dn1 E0 E1 E2 E3 E4 E5 E6 H locs ls hfu; exact absurd hfu (Nat.not_lt_zero _)
      | succ fu ih =>
        intro k w bb mm G1 lg1 mr1 en1 pw1 sl1 ly1 dn1 E0 E1 E2 E3 E4 E5 E6 H locs ls hfu hw hk hb hm hl hG
        refine lv_iload S.1 S.2.1 dX9_bestWithout_29 (lv_at hl 5 rfl) ?_
        refine lv_iload S.1 S.2.1 dX9_bestWithout_31 (lv_at hl 4 rfl) ?_
        refine g_icmp_ge (tgt := 92) S dX9_bestWithout_33 (by decide) (by omega) (by omega) (fun q33 => ?_) (fun q33 => ?_)
        · skip
          refine lv_iload_n S.1 S.2.1 dX9_bestWithout_92 rfl (lv_at hl 2 rfl) ?_
          have hG : gW K A s.heap [gMdl K am (thr (bI (0 ≤ y ∧ y < NF 4)) 1 1) (am 1) lg1 mr1 en1 pw1 sl1 ly1 dn1 iz tz nx st tk vl ef ep hO hB ol rm oz, gArr K 95 (am 1) NF, gArr K 60 (am 3) E0, gArrZ K 60 (am 4) E1, gArr K 60 (am 5) E2, gArr K 60 (am 6) E3, gArr K 60 (am 7) E4, gArr K 60 (am 8) E5, gArr K 60 (am 9) E6, gArr K 95 (am 14) G1] _ _ := hG
          exact g_iret S hr hlk hQ dX9_bestWithout_93 (Nat.le_of_ble_eq_true rfl) (Nat.le_of_ble_eq_true rfl) ((bb, lg1, mr1, en1, pw1, sl1, ly1, dn1, E0, E1, E2, E3, E4, E5, E6, G1) : Int × Int × Int × Int × Int × Int × Int × Int × (Int → Int) × (Int → Int) × (Int → Int) × (Int → Int) × (Int → Int) × (Int → Int) × (Int → Int) × (Int → Int)) ⟨rfl, (fun _ => bw_out hb.1 (fun _ => by omega) (fun _ => by omega))⟩ hG
        · skip
          refine lv_iload S.1 S.2.1 dX9_bestWithout_36 (lv_at hl 4 rfl) ?_
          refine g_iconst S dX9_bestWithout_38 ?_
          refine g_icmp_le (tgt := 92) S dX9_bestWithout_39 (by decide) (by omega) (by omega) (fun q39 => ?_) (fun q39 => ?_)
          · skip
            refine lv_iload_n S.1 S.2.1 dX9_bestWithout_92 rfl (lv_at hl 2 rfl) ?_
            have hG : gW K A s.heap [gMdl K am (thr (bI (0 ≤ y ∧ y < NF 4)) 1 1) (am 1) lg1 mr1 en1 pw1 sl1 ly1 dn1 iz tz nx st tk vl ef ep hO hB ol rm oz, gArr K 95 (am 1) NF, gArr K 60 (am 3) E0, gArrZ K 60 (am 4) E1, gArr K 60 (am 5) E2, gArr K 60 (am 6) E3, gArr K 60 (am 7) E4, gArr K 60 (am 8) E5, gArr K 60 (am 9) E6, gArr K 95 (am 14) G1] _ _ := hG
            exact g_iret S hr hlk hQ dX9_bestWithout_93 (Nat.le_of_ble_eq_true rfl) (Nat.le_of_ble_eq_true rfl) ((bb, lg1, mr1, en1, pw1, sl1, ly1, dn1, E0, E1, E2, E3, E4, E5, E6, G1) : Int × Int × Int × Int × Int × Int × Int × Int × (Int → Int) × (Int → Int) × (Int → Int) × (Int → Int) × (Int → Int) × (Int → Int) × (Int → Int) × (Int → Int)) ⟨rfl, (fun _ => bw_out hb.1 (fun _ => by omega) (fun _ => by omega))⟩ hG
          · skip
            refine lv_aload_n S.1 S.2.1 dX9_bestWithout_42 rfl (lv_at hl 0 rfl) ?_
            refine g_invVv (As := []) (rest := []) (gs' := (fun u : (Int → Int) => [gMdl K am (thr (bI (0 ≤ y ∧ y < NF 4)) 1 1) (am 1) lg1 mr1 en1 pw1 sl1 ly1 dn1 iz tz nx st tk vl ef ep hO hB ol rm oz, gArr K 95 (am 1) NF, gArr K 60 (am 3) E0, gArrZ K 60 (am 4) E1, gArr K 60 (am 5) E2, gArr K 60 (am 6) E3, gArr K 60 (am 7) E4, gArr K 60 (am 8) E5, gArr K 60 (am 9) E6, gArr K 95 (am 14) u])) S C hG [0, 1, 9] (c_X9_keepAside l K am (thr (bI (0 ≤ y ∧ y < NF 4)) 1 1) lg1 mr1 en1 pw1 sl1 ly1 dn1 iz tz nx st tk vl ef ep hO hB ol rm oz NF G1) rfl rfl 0 rfl rfl (cwV 0 S.2.2.2.2 gX9_bestWithout_X9_keepAside rfl rfl rfl (by decide +kernel) ⟨Nat.le_of_ble_eq_true rfl, Nat.le_of_ble_eq_true rfl⟩) rfl hl.1 rfl (Nat.le_of_ble_eq_true rfl) dX9_bestWithout_43 ⟨Nat.le_of_ble_eq_true rfl, Nat.le_of_ble_eq_true rfl⟩ (fun _ => Nat.le_of_ble_eq_true rfl) (fun _ => rfl) (fun u H locs hp hG => ?_)
            obtain ⟨G2_43, rfl⟩ : ∃ z, z = u := ⟨_, rfl⟩
            have hg_43 := hp
            have hg_43 : G2_43 = cpyI NF G1 95 := hg_43
            have hG : gW K A s.heap [gMdl K am (thr (bI (0 ≤ y ∧ y < NF 4)) 1 1) (am 1) lg1 mr1 en1 pw1 sl1 ly1 dn1 iz tz nx st tk vl ef ep hO hB ol rm oz, gArr K 95 (am 1) NF, gArr K 60 (am 3) E0, gArrZ K 60 (am 4) E1, gArr K 60 (am 5) E2, gArr K 60 (am 6) E3, gArr K 60 (am 7) E4, gArr K 60 (am 8) E5, gArr K 60 (am 9) E6, gArr K 95 (am 14) G2_43] _ _ := hG
            refine lv_aload_n S.1 S.2.1 dX9_bestWithout_46 rfl (lv_at hl 0 rfl) ?_
            refine lv_iload S.1 S.2.1 dX9_bestWithout_47 (lv_at hl 5 rfl) ?_
            refine g_invVv (As := [.int (iI w)]) (rest := []) (gs' := (fun u : (Int → Int) => [gMdl K am (thr (bI (0 ≤ y ∧ y < NF 4)) 1 1) (am 1) lg1 mr1 en1 pw1 sl1 ly1 dn1 iz tz nx st tk vl ef ep hO hB ol rm oz, gArr K 95 (am 1) u, gArr K 60 (am 3) E0, gArrZ K 60 (am 4) E1, gArr K 60 (am 5) E2, gArr K 60 (am 6) E3, gArr K 60 (am 7) E4, gArr K 60 (am 8) E5, gArr K 60 (am 9) E6, gArr K 95 (am 14) G2_43])) S C hG [0, 1] (c_X9_removeOne l K am (thr (bI (0 ≤ y ∧ y < NF 4)) 1 1) (am 1) lg1 mr1 en1 pw1 sl1 ly1 dn1 iz tz nx st tk vl ef ep hO hB ol rm oz NF w (by omega) (by omega)) rfl rfl 0 rfl rfl (cwV 1 S.2.2.2.2 gX9_bestWithout_X9_removeOne rfl rfl rfl (by decide +kernel) ⟨Nat.le_of_ble_eq_true rfl, Nat.le_of_ble_eq_true rfl⟩) rfl hl.1 rfl (Nat.le_of_ble_eq_true rfl) dX9_bestWithout_49 ⟨Nat.le_of_ble_eq_true rfl, Nat.le_of_ble_eq_true rfl⟩ (fun _ => Nat.le_of_ble_eq_true rfl) (fun _ => rfl) (fun u H locs hp hG => ?_)
            obtain ⟨F2_49, rfl⟩ : ∃ z, z = u := ⟨_, rfl⟩
            have hF_49 := hp
            have hF_49 : F2_49 = remLN NF w := hF_49
            have hG : gW K A s.heap [gMdl K am (thr (bI (0 ≤ y ∧ y < NF 4)) 1 1) (am 1) lg1 mr1 en1 pw1 sl1 ly1 dn1 iz tz nx st tk vl ef ep hO hB ol rm oz, gArr K 95 (am 1) F2_49, gArr K 60 (am 3) E0, gArrZ K 60 (am 4) E1, gArr K 60 (am 5) E2, gArr K 60 (am 6) E3, gArr K 60 (am 7) E4, gArr K 60 (am 8) E5, gArr K 60 (am 9) E6, gArr K 95 (am 14) G2_43] _ _ := hG
            subst hF_49
            have hNr := hN.rem (y := w) ⟨by omega, by omega⟩
            have h4r : remLN NF w 4 = NF 4 := by (simp only [remLN] <;> rw [if_neg (by omega), if_neg (by omega)])
            refine lv_aload_n S.1 S.2.1 dX9_bestWithout_52 rfl (lv_at hl 0 rfl) ?_
            refine lv_iload_n S.1 S.2.1 dX9_bestWithout_53 rfl (lv_at hl 1 rfl) ?_
            refine g_invVv (As := [.int (iI y)]) (rest := []) (gs' := (fun u : Int × Int × Int × Int × Int × Int × Int × (Int → Int) × (Int → Int) × (Int → Int) × (Int → Int) × (Int → Int) × (Int → Int) × (Int → Int) => [gMdl K am (thr (bI (0 ≤ y ∧ y < NF 4)) 1 1) (am 1) u.1 u.2.1 u.2.2.1 u.2.2.2.1 u.2.2.2.2.1 u.2.2.2.2.2.1 u.2.2.2.2.2.2.1 iz tz nx st tk vl ef ep hO hB ol rm oz, gArr K 95 (am 1) (remLN NF w), gArr K 60 (am 3) u.2.2.2.2.2.2.2.1, gArrZ K 60 (am 4) u.2.2.2.2.2.2.2.2.1, gArr K 60 (am 5) u.2.2.2.2.2.2.2.2.2.1, gArr K 60 (am 6) u.2.2.2.2.2.2.2.2.2.2.1, gArr K 60 (am 7) u.2.2.2.2.2.2.2.2.2.2.2.1, gArr K 60 (am 8) u.2.2.2.2.2.2.2.2.2.2.2.2.1, gArr K 60 (am 9) u.2.2.2.2.2.2.2.2.2.2.2.2.2, gArr K 95 (am 14) G2_43])) S C hG [0, 1, 2, 3, 4, 5, 6, 7, 8] (c_X9_followShot l K am (thr (bI (0 ≤ y ∧ y < NF 4)) 1 1) (am 1) lg1 mr1 en1 pw1 sl1 ly1 dn1 iz tz nx st tk vl ef ep hO hB ol rm oz (remLN NF w) E0 E1 E2 E3 E4 E5 E6 y hNr ⟨qa.1, by rw [h4r] <;> exact qa.2⟩) rfl rfl 0 rfl rfl (cwV 1 S.2.2.2.2 gX9_bestWithout_X9_followShot rfl rfl rfl (by decide +kernel) ⟨Nat.le_of_ble_eq_true rfl, Nat.le_of_ble_eq_true rfl⟩) rfl hl.1 rfl (Nat.le_of_ble_eq_true rfl) dX9_bestWithout_54 ⟨Nat.le_of_ble_eq_true rfl, Nat.le_of_ble_eq_true rfl⟩ (fun _ => Nat.le_of_ble_eq_true rfl) (fun _ => rfl) (fun u H locs hp hG => ?_)
            obtain ⟨lg2_54, mr2_54, en2_54, pw2_54, sl2_54, ly2_54, dn2_54, B0_54, B1_54, B2_54, B3_54, B4_54, B5_54, B6_54⟩ := u
            have hf_54 := hp
            have hf_54 : FolS (remLN NF w) y lg2_54 mr2_54 en2_54 pw2_54 B0_54 B1_54 B2_54 B3_54 B4_54 B5_54 B6_54 := hf_54
            have hG : gW K A s.heap [gMdl K am (thr (bI (0 ≤ y ∧ y < NF 4)) 1 1) (am 1) lg2_54 mr2_54 en2_54 pw2_54 sl2_54 ly2_54 dn2_54 iz tz nx st tk vl ef ep hO hB ol rm oz, gArr K 95 (am 1) (remLN NF w), gArr K 60 (am 3) B0_54, gArrZ K 60 (am 4) B1_54, gArr K 60 (am 5) B2_54, gArr K 60 (am 6) B3_54, gArr K 60 (am 7) B4_54, gArr K 60 (am 8) B5_54, gArr K 60 (am 9) B6_54, gArr K 95 (am 14) G2_43] _ _ := hG
            have g5 := sho_bd hNr (r := y) qa.1 (by rw [h4r] <;> exact qa.2)
            have g6 := (shF_bd hNr (p := sP (remLN NF w) y) (y := sY (remLN NF w) y) (e := sD (remLN NF w) y) g5.2.2.1 g5.2.1).2.2
            have g7 : pw2_54 = pS (remLN NF (k : Int)) y := by rw [← hw.1] <;> exact hf_54.2.2.2.1
            have g8 : 0 ≤ pS (remLN NF (k : Int)) y ∧ pS (remLN NF (k : Int)) y ≤ 1000000 := by rw [← hw.1] <;> exact g6
            refine lv_aload_n S.1 S.2.1 dX9_bestWithout_57 rfl (lv_at hl 0 rfl) ?_
            refine g_invVv (As := []) (rest := []) (gs' := (fun u : (Int → Int) => [gMdl K am (thr (bI (0 ≤ y ∧ y < NF 4)) 1 1) (am 1) lg2_54 mr2_54 en2_54 pw2_54 sl2_54 ly2_54 dn2_54 iz tz nx st tk vl ef ep hO hB ol rm oz, gArr K 95 (am 1) u, gArr K 60 (am 3) B0_54, gArrZ K 60 (am 4) B1_54, gArr K 60 (am 5) B2_54, gArr K 60 (am 6) B3_54, gArr K 60 (am 7) B4_54, gArr K 60 (am 8) B5_54, gArr K 60 (am 9) B6_54, gArr K 95 (am 14) G2_43])) S C hG [0, 1, 9] (c_X9_layBack l K am (thr (bI (0 ≤ y ∧ y < NF 4)) 1 1) lg2_54 mr2_54 en2_54 pw2_54 sl2_54 ly2_54 dn2_54 iz tz nx st tk vl ef ep hO hB ol rm oz (remLN NF w) G2_43) rfl rfl 0 rfl rfl (cwV 0 S.2.2.2.2 gX9_bestWithout_X9_layBack rfl rfl rfl (by decide +kernel) ⟨Nat.le_of_ble_eq_true rfl, Nat.le_of_ble_eq_true rfl⟩) rfl hl.1 rfl (Nat.le_of_ble_eq_true rfl) dX9_bestWithout_58 ⟨Nat.le_of_ble_eq_true rfl, Nat.le_of_ble_eq_true rfl⟩ (fun _ => Nat.le_of_ble_eq_true rfl) (fun _ => rfl) (fun u H locs hp hG => ?_)
            obtain ⟨F2_58, rfl⟩ : ∃ z, z = u := ⟨_, rfl⟩
            have hF_58 := hp
            have hF_58 : F2_58 = cpyI G2_43 (remLN NF w) 95 := hF_58
            have hG : gW K A s.heap [gMdl K am (thr (bI (0 ≤ y ∧ y < NF 4)) 1 1) (am 1) lg2_54 mr2_54 en2_54 pw2_54 sl2_54 ly2_54 dn2_54 iz tz nx st tk vl ef ep hO hB ol rm oz, gArr K 95 (am 1) F2_58, gArr K 60 (am 3) B0_54, gArrZ K 60 (am 4) B1_54, gArr K 60 (am 5) B2_54, gArr K 60 (am 6) B3_54, gArr K 60 (am 7) B4_54, gArr K 60 (am 8) B5_54, gArr K 60 (am 9) B6_54, gArr K 95 (am 14) G2_43] _ _ := hG
            have e9 : NF = F2_58 := Eq.symm (by rw [hF_58, hg_43] <;> exact back_rem ⟨by omega, by omega⟩ (by omega))
            subst e9
            refine lv_aload_n S.1 S.2.1 dX9_bestWithout_61 rfl (lv_at hl 0 rfl) ?_
            refine g_get S C hG iX90 0 rfl rfl 14 (by decide) (List.mem_of_getElem? (i := 2) rfl) rfl dX9_bestWithout_62 ?_
            refine lv_lload_n S.1 S.2.1 dX9_bestWithout_65 rfl (lv_at hl 3 rfl) ?_
            refine g_lcmp S dX9_bestWithout_66 (by omega) (by omega) ?_
            refine g_if_le (tgt := 75) S dX9_bestWithout_67 (by decide) (by omega) (fun q67 => ?_) (fun q67 => ?_)
            · skip
              refine lv_iload_n S.1 S.2.1 dX9_bestWithout_75 rfl (lv_at hl 2 rfl) ?_
              refine lv_istore_n (lv' := [(2, .int (iI bb)), (0, .ref (am 0)), (1, .int (iI y)), (3, .long (iL mm)), (5, .int (iI (NF 0))), (6, .int (iI w))]) S.1 S.2.1 dX9_bestWithout_76 rfl hl (by decide) rfl (fun ls hl => ?_)
              refine lv_lload_n S.1 S.2.1 dX9_bestWithout_77 rfl (lv_at hl 3 rfl) ?_
              refine lv_aload_n S.1 S.2.1 dX9_bestWithout_78 rfl (lv_at hl 1 rfl) ?_
              refine g_get S C hG iX90 0 rfl rfl 14 (by decide) (List.mem_of_getElem? (i := 2) rfl) rfl dX9_bestWithout_79 ?_
              refine va_mmax_long S.1 S.2.1 (by rw [S.2.2.1]; exact hl.1.symm) S.2.2.2.1 (S.2.2.2.2 _ (List.mem_of_getElem? (i := 3) rfl)) (S.2.2.2.2 _ (List.mem_of_getElem? (i := 4) rfl)) (S.2.2.2.2 _ (List.mem_of_getElem? (i := 5) rfl)) (S.2.2.2.2 _ (List.mem_of_getElem? (i := 6) rfl)) (Nat.le_of_ble_eq_true rfl) (Nat.le_of_ble_eq_true rfl) (Nat.le_of_ble_eq_true rfl) (Nat.le_of_ble_eq_true rfl) dX9_bestWithout_82 ?_
              refine g_top (w := .long (iL (max mm pw2_54))) (lmax_eq (by omega) (by omega)) ?_
              refine lv_lstore_n (lv' := [(3, .long (iL (max mm pw2_54))), (2, .int (iI bb)), (0, .ref (am 0)), (1, .int (iI y)), (5, .int (iI (NF 0))), (6, .int (iI w))]) S.1 S.2.1 dX9_bestWithout_85 rfl hl (by decide) rfl (fun ls hl => ?_)
              refine lv_iinc (v := iI (w + 1)) (lv' := [(6, .int (iI (w + 1))), (3, .long (iL (max mm pw2_54))), (2, .int (iI bb)), (0, .ref (am 0)), (1, .int (iI y)), (5, .int (iI (NF 0)))]) S.1 S.2.1 dX9_bestWithout_86 hl (k := 5) rfl (g_iinc rfl) (by decide) rfl (fun ls hl => ?_)
              refine lv_goto (tgt := 29) S.1 S.2.1 dX9_bestWithout_89 (by decide) ?_
              exact ih (k + 1) (w + 1) bb (max mm pw2_54) G2_43 lg2_54 mr2_54 en2_54 pw2_54 sl2_54 ly2_54 dn2_54 B0_54 B1_54 B2_54 B3_54 B4_54 B5_54 B6_54 _ _ _ (by omega) ⟨by omega, by omega⟩ (by omega) (by rw [bst_keep (by omega) (by omega)] <;> exact ⟨hb.1, by omega⟩) (by omega) (lv_sub hl [3, 4, 2, 1, 5, 0] rfl) hG
            · skip
              refine lv_iload S.1 S.2.1 dX9_bestWithout_70 (lv_at hl 5 rfl) ?_
              refine lv_goto (tgt := 76) S.1 S.2.1 dX9_bestWithout_72 (by decide) ?_
              refine lv_istore_n (lv' := [(2, .int (iI w)), (0, .ref (am 0)), (1, .int (iI y)), (3, .long (iL mm)), (5, .int (iI (NF 0))), (6, .int (iI w))]) S.1 S.2.1 dX9_bestWithout_76 rfl hl (by decide) rfl (fun ls hl => ?_)
              refine lv_lload_n S.1 S.2.1 dX9_bestWithout_77 rfl (lv_at hl 3 rfl) ?_
              refine lv_aload_n S.1 S.2.1 dX9_bestWithout_78 rfl (lv_at hl 1 rfl) ?_
              refine g_get S C hG iX90 0 rfl rfl 14 (by decide) (List.mem_of_getElem? (i := 2) rfl) rfl dX9_bestWithout_79 ?_
              refine va_mmax_long S.1 S.2.1 (by rw [S.2.2.1]; exact hl.1.symm) S.2.2.2.1 (S.2.2.2.2 _ (List.mem_of_getElem? (i := 3) rfl)) (S.2.2.2.2 _ (List.mem_of_getElem? (i := 4) rfl)) (S.2.2.2.2 _ (List.mem_of_getElem? (i := 5) rfl)) (S.2.2.2.2 _ (List.mem_of_getElem? (i := 6) rfl)) (Nat.le_of_ble_eq_true rfl) (Nat.le_of_ble_eq_true rfl) (Nat.le_of_ble_eq_true rfl) (Nat.le_of_ble_eq_true rfl) dX9_bestWithout_82 ?_
              refine g_top (w := .long (iL (max mm pw2_54))) (lmax_eq (by omega) (by omega)) ?_
              refine lv_lstore_n (lv' := [(3, .long (iL (max mm pw2_54))), (2, .int (iI w)), (0, .ref (am 0)), (1, .int (iI y)), (5, .int (iI (NF 0))), (6, .int (iI w))]) S.1 S.2.1 dX9_bestWithout_85 rfl hl (by decide) rfl (fun ls hl => ?_)
              refine lv_iinc (v := iI (w + 1)) (lv' := [(6, .int (iI (w + 1))), (3, .long (iL (max mm pw2_54))), (2, .int (iI w)), (0, .ref (am 0)), (1, .int (iI y)), (5, .int (iI (NF 0)))]) S.1 S.2.1 dX9_bestWithout_86 hl (k := 5) rfl (g_iinc rfl) (by decide) rfl (fun ls hl => ?_)
              refine lv_goto (tgt := 29) S.1 S.2.1 dX9_bestWithout_89 (by decide) ?_
              exact ih (k + 1) (w + 1) w (max mm pw2_54) G2_43 lg2_54 mr2_54 en2_54 pw2_54 sl2_54 ly2_54 dn2_54 B0_54 B1_54 B2_54 B3_54 B4_54 B5_54 B6_54 _ _ _ (by omega) ⟨by omega, by omega⟩ (by omega) (by rw [bst_yes rfl (by omega)] <;> exact ⟨hw.1, Or.inr ⟨by omega, by show max mm pw2_54 = _ <;> omega⟩⟩) (by omega) (lv_sub hl [3, 4, 2, 1, 5, 0] rfl) hG
    exact L29 (Nat.succ ((NF 0 - 0).toNat)) 0 0 (-1) (-1) GA lg mr en pw sl ly dn A0 A1 A2 A3 A4 A5 A6 _ _ _ (Nat.lt_succ_self _) ⟨rfl, by omega⟩ (Or.inl rfl) ⟨rfl, Or.inl ⟨rfl, rfl⟩⟩ (by omega) (lv_sub hl [4, 5, 3, 2, 1, 0] rfl) hG
  · skip
    refine g_iconst S dX9_bestWithout_12 ?_
    have hG : gW K A s.heap [gMdl K am (thr (bI (0 ≤ y ∧ y < NF 4)) 1 1) (am 1) lg mr en pw sl ly dn iz tz nx st tk vl ef ep hO hB ol rm oz, gArr K 95 (am 1) NF, gArr K 60 (am 3) A0, gArrZ K 60 (am 4) A1, gArr K 60 (am 5) A2, gArr K 60 (am 6) A3, gArr K 60 (am 7) A4, gArr K 60 (am 8) A5, gArr K 60 (am 9) A6, gArr K 95 (am 14) GA] _ _ := hG
    exact g_iret S hr hlk hQ dX9_bestWithout_13 (Nat.le_of_ble_eq_true rfl) (Nat.le_of_ble_eq_true rfl) ((0, lg, mr, en, pw, sl, ly, dn, A0, A1, A2, A3, A4, A5, A6, GA) : Int × Int × Int × Int × Int × Int × Int × Int × (Int → Int) × (Int → Int) × (Int → Int) × (Int → Int) × (Int → Int) × (Int → Int) × (Int → Int) × (Int → Int)) ⟨rfl, (fun h => absurd (bI_t h) q9)⟩ hG

set_option maxHeartbeats 1000000 in
set_option maxRecDepth 100000 in
theorem c_X9_swapLayers (l : Launch) (K : KC) (am : Nat → Nat) (th : Int) (lg : Int) (mr : Int) (en : Int) (pw : Int) (sl : Int) (ly : Int) (dn : Int) (iz : Int) (tz : Int) (nx : Int) (st : Int) (tk : Int) (vl : Int) (ef : Int) (ep : Int) (hO : Int) (hB : Int) (ol : Int) (rm : Int) (oz : Int) (NF : Int → Int) (A0 : Int → Int) (A1 : Int → Int) (A2 : Int → Int) (A3 : Int → Int) (A4 : Int → Int) (A5 : Int → Int) (A6 : Int → Int) (PA : Int → Int) (EB : Int → Int) (y : Int) (x : Int) (hN : NOk0 NF) (hrm : 0 ≤ rm ∧ rm ≤ 6) (hv : -2147483648 ≤ y ∧ y < 2147483648) (hx : -2147483648 ≤ x ∧ x < 2147483648) (g1 : (0 ≤ y ∧ y < NF 0) ∧ 0 ≤ x ∧ x < NF 0) (g2 : ¬ y = x) : mG l yX9_swapLayers wsX9_swapLayers 7 156 K [.ref (am 0), .int (iI y), .int (iI x)] [gMdl K am th (am 1) lg mr en pw sl ly dn iz tz nx st tk vl ef ep hO hB ol rm oz, gArr K 95 (am 1) NF, gArr K 60 (am 3) A0, gArrZ K 60 (am 4) A1, gArr K 60 (am 5) A2, gArr K 60 (am 6) A3, gArr K 60 (am 7) A4, gArr K 60 (am 8) A5, gArr K 60 (am 9) A6, gArr K 570 (am 18) PA, gArr K 20 (am 15) EB] (fun (v : Value) (u : Int × Int × Int × Int × Int × Int × Int × (Int → Int) × (Int → Int) × (Int → Int) × (Int → Int) × (Int → Int) × (Int → Int) × (Int → Int) × (Int → Int) × Int × (Int → Int)) => (v = .int (iI (cntB (fun i : Nat => decide (eS (swpLN NF y x) (i : Int) ≠ eS NF (i : Int))) (NF 4).toNat))) ∧ (∀ j : Int, 0 ≤ j → j < 570 → u.2.2.2.2.2.2.2.2.2.2.2.2.2.2.1 j = remP rm PA NF j) ∧ (u.2.2.2.2.2.2.2.2.2.2.2.2.2.2.2.1 = min (rm + 1) 6)) (fun (u : Int × Int × Int × Int × Int × Int × Int × (Int → Int) × (Int → Int) × (Int → Int) × (Int → Int) × (Int → Int) × (Int → Int) × (Int → Int) × (Int → Int) × Int × (Int → Int)) => [gMdl K am (thr (bI ((0 ≤ y ∧ y < NF 0) ∧ 0 ≤ x ∧ x < NF 0)) (bI (¬ y = x)) 1) (am 1) u.1 u.2.1 u.2.2.1 u.2.2.2.1 u.2.2.2.2.1 u.2.2.2.2.2.1 u.2.2.2.2.2.2.1 iz tz nx st tk vl ef ep hO hB ol u.2.2.2.2.2.2.2.2.2.2.2.2.2.2.2.1 oz, gArr K 95 (am 1) (swpLN NF y x), gArr K 60 (am 3) u.2.2.2.2.2.2.2.1, gArrZ K 60 (am 4) u.2.2.2.2.2.2.2.2.1, gArr K 60 (am 5) u.2.2.2.2.2.2.2.2.2.1, gArr K 60 (am 6) u.2.2.2.2.2.2.2.2.2.2.1, gArr K 60 (am 7) u.2.2.2.2.2.2.2.2.2.2.2.1, gArr K 60 (am 8) u.2.2.2.2.2.2.2.2.2.2.2.2.1, gArr K 60 (am 9) u.2.2.2.2.2.2.2.2.2.2.2.2.2.1, gArr K 570 (am 18) u.2.2.2.2.2.2.2.2.2.2.2.2.2.2.1, gArr K 20 (am 15) u.2.2.2.2.2.2.2.2.2.2.2.2.2.2.2.2]) 0 0 := by
  refine mG_of cX9_swapLayers 5 (by decide) rfl (Nat.le_of_ble_eq_true rfl) ?_
  intro p e s m below meth c A ls Q S C hG hl hr hlk hin hQ
  have S : CallFix p m c cX9_swapLayers 5 s ([.ref (am 0), .int (iI y), .int (iI x)] : List Value).toArray wsX9_swapLayers RX9 := S
  have iX90 : ∀ w ∈ wsX90, w ∈ wsX9_swapLayers := fun _ h => List.mem_cons_of_mem _ (List.mem_append_right _ (h))
  have hl : lv_has ls 5 [(0, .ref (am 0)), (1, .int (iI y)), (2, .int (iI x))] := hl
  have hG : gW K A s.heap [gMdl K am th (am 1) lg mr en pw sl ly dn iz tz nx st tk vl ef ep hO hB ol rm oz, gArr K 95 (am 1) NF, gArr K 60 (am 3) A0, gArrZ K 60 (am 4) A1, gArr K 60 (am 5) A2, gArr K 60 (am 6) A3, gArr K 60 (am 7) A4, gArr K 60 (am 8) A5, gArr K 60 (am 9) A6, gArr K 570 (am 18) PA, gArr K 20 (am 15) EB] s.heap [] := hG
  have n0 := hN.1
  have n3 := hN.2.2.2.1
  have hN2 : ((0 ≤ y ∧ y < NF 0) ∧ 0 ≤ x ∧ x < NF 0) → NOk0 (swpLN NF y x) := fun g => hN.swp g.1 g.2
  have h42 : ((0 ≤ y ∧ y < NF 0) ∧ 0 ≤ x ∧ x < NF 0) → swpLN NF y x 4 = NF 4 := fun g => by (simp only [swpLN] <;> rw [if_neg (by omega), if_neg (by omega)])
  refine lv_aload_n S.1 S.2.1 dX9_swapLayers_0 rfl (lv_at hl 0 rfl) ?_
  refine lv_aload_n S.1 S.2.1 dX9_swapLayers_1 rfl (lv_at hl 0 rfl) ?_
  refine lv_iload_n S.1 S.2.1 dX9_swapLayers_2 rfl (lv_at hl 1 rfl) ?_
  refine g_invV (As := [.int (iI y)]) (rest := [.ref (am 0)]) (gs' := (fun u : Unit => [gMdl K am th (am 1) lg mr en pw sl ly dn iz tz nx st tk vl ef ep hO hB ol rm oz, gArr K 95 (am 1) NF, gArr K 60 (am 3) A0, gArrZ K 60 (am 4) A1, gArr K 60 (am 5) A2, gArr K 60 (am 6) A3, gArr K 60 (am 7) A4, gArr K 60 (am 8) A5, gArr K 60 (am 9) A6, gArr K 570 (am 18) PA, gArr K 20 (am 15) EB])) S C hG [0, 1] (c_X9_isLayer l K am th (am 1) lg mr en pw sl ly dn iz tz nx st tk vl ef ep hO hB ol rm oz NF y hN hv) rfl rfl 0 rfl rfl (cwV 1 S.2.2.2.2 gX9_swapLayers_X9_isLayer rfl rfl rfl (by decide +kernel) ⟨Nat.le_of_ble_eq_true rfl, Nat.le_of_ble_eq_true rfl⟩) rfl hl.1 rfl (Nat.le_of_ble_eq_true rfl) dX9_swapLayers_3 ⟨Nat.le_of_ble_eq_true rfl, Nat.le_of_ble_eq_true rfl⟩ (fun _ => Nat.le_of_ble_eq_true rfl) (fun _ => rfl) (fun v u H locs hp hG => ?_)
  subst hp
  have J22 : ∀ (H : Heap) (locs : List Loc) (ls : Array Slot), lv_has ls 5 [(0, .ref (am 0)), (1, .int (iI y)), (2, .int (iI x))] → gW K A s.heap [gMdl K am th (am 1) lg mr en pw sl ly dn iz tz nx st tk vl ef ep hO hB ol rm oz, gArr K 95 (am 1) NF, gArr K 60 (am 3) A0, gArrZ K 60 (am 4) A1, gArr K 60 (am 5) A2, gArr K 60 (am 6) A3, gArr K 60 (am 7) A4, gArr K 60 (am 8) A5, gArr K 60 (am 9) A6, gArr K 570 (am 18) PA, gArr K 20 (am 15) EB] H locs → W p l e { frames := 7, cells := 0, slots := 0, locals := 156 } s m ([.ref (am 0), .int (iI y), .int (iI x)] : List Value).toArray below meth c H locs 0 0 Q (F0 m 22 ls [.int (iI (bI ((0 ≤ y ∧ y < NF 0) ∧ 0 ≤ x ∧ x < NF 0))), .ref (am 0)]) := by
    intro  H locs ls  hl hG
    refine lv_iload_n S.1 S.2.1 dX9_swapLayers_22 rfl (lv_at hl 1 rfl) ?_
    refine lv_iload_n S.1 S.2.1 dX9_swapLayers_23 rfl (lv_at hl 2 rfl) ?_
    have J32 : ∀ (H : Heap) (locs : List Loc) (ls : Array Slot), lv_has ls 5 [(0, .ref (am 0)), (1, .int (iI y)), (2, .int (iI x))] → gW K A s.heap [gMdl K am th (am 1) lg mr en pw sl ly dn iz tz nx st tk vl ef ep hO hB ol rm oz, gArr K 95 (am 1) NF, gArr K 60 (am 3) A0, gArrZ K 60 (am 4) A1, gArr K 60 (am 5) A2, gArr K 60 (am 6) A3, gArr K 60 (am 7) A4, gArr K 60 (am 8) A5, gArr K 60 (am 9) A6, gArr K 570 (am 18) PA, gArr K 20 (am 15) EB] H locs → W p l e { frames := 7, cells := 0, slots := 0, locals := 156 } s m ([.ref (am 0), .int (iI y), .int (iI x)] : List Value).toArray below meth c H locs 0 0 Q (F0 m 32 ls [.int (iI (bI (¬ y = x))), .int (iI (bI ((0 ≤ y ∧ y < NF 0) ∧ 0 ≤ x ∧ x < NF 0))), .ref (am 0)]) := by
      intro  H locs ls  hl hG
      refine g_invV (As := [.int (iI (bI ((0 ≤ y ∧ y < NF 0) ∧ 0 ≤ x ∧ x < NF 0))), .int (iI (bI (¬ y = x)))]) (rest := []) (gs' := (fun u : Unit => [gMdl K am (thr (bI ((0 ≤ y ∧ y < NF 0) ∧ 0 ≤ x ∧ x < NF 0)) (bI (¬ y = x)) 1) (am 1) lg mr en pw sl ly dn iz tz nx st tk vl ef ep hO hB ol rm oz, gArr K 95 (am 1) NF, gArr K 60 (am 3) A0, gArrZ K 60 (am 4) A1, gArr K 60 (am 5) A2, gArr K 60 (am 6) A3, gArr K 60 (am 7) A4, gArr K 60 (am 8) A5, gArr K 60 (am 9) A6, gArr K 570 (am 18) PA, gArr K 20 (am 15) EB])) S C hG [0] (c_X9_passes2 l K am th (am 1) lg mr en pw sl ly dn iz tz nx st tk vl ef ep hO hB ol rm oz (bI ((0 ≤ y ∧ y < NF 0) ∧ 0 ≤ x ∧ x < NF 0)) (bI (¬ y = x)) (bI_01 _) (bI_01 _)) rfl rfl 0 rfl rfl (cwV 2 S.2.2.2.2 gX9_swapLayers_X9_passes2 rfl rfl rfl (by decide +kernel) ⟨Nat.le_of_ble_eq_true rfl, Nat.le_of_ble_eq_true rfl⟩) rfl hl.1 rfl (Nat.le_of_ble_eq_true rfl) dX9_swapLayers_32 ⟨Nat.le_of_ble_eq_true rfl, Nat.le_of_ble_eq_true rfl⟩ (fun _ => Nat.le_of_ble_eq_true rfl) (fun _ => rfl) (fun v u H locs hp hG => ?_)
      subst hp
      refine g_ifne_b (B := ((bI ((0 ≤ y ∧ y < NF 0) ∧ 0 ≤ x ∧ x < NF 0)) = 1 ∧ (bI (¬ y = x)) = 1)) (tgt := 40) S dX9_swapLayers_35 (by decide) (fun q35 => ?_) (fun q35 => ?_)
      · skip
        refine lv_aload_n S.1 S.2.1 dX9_swapLayers_40 rfl (lv_at hl 0 rfl) ?_
        refine g_invVv (As := []) (rest := []) (gs' := (fun u : (Int → Int) × Int => [gMdl K am (thr (bI ((0 ≤ y ∧ y < NF 0) ∧ 0 ≤ x ∧ x < NF 0)) (bI (¬ y = x)) 1) (am 1) lg mr en pw sl ly dn iz tz nx st tk vl ef ep hO hB ol u.2 oz, gArr K 95 (am 1) NF, gArr K 60 (am 3) A0, gArrZ K 60 (am 4) A1, gArr K 60 (am 5) A2, gArr K 60 (am 6) A3, gArr K 60 (am 7) A4, gArr K 60 (am 8) A5, gArr K 60 (am 9) A6, gArr K 570 (am 18) u.1, gArr K 20 (am 15) EB])) S C hG [0, 1, 9] (c_X9_remember l K am (thr (bI ((0 ≤ y ∧ y < NF 0) ∧ 0 ≤ x ∧ x < NF 0)) (bI (¬ y = x)) 1) lg mr en pw sl ly dn iz tz nx st tk vl ef ep hO hB ol rm oz NF PA hrm) rfl rfl 0 rfl rfl (cwV 0 S.2.2.2.2 gX9_swapLayers_X9_remember rfl rfl rfl (by decide +kernel) ⟨Nat.le_of_ble_eq_true rfl, Nat.le_of_ble_eq_true rfl⟩) rfl hl.1 rfl (Nat.le_of_ble_eq_true rfl) dX9_swapLayers_41 ⟨Nat.le_of_ble_eq_true rfl, Nat.le_of_ble_eq_true rfl⟩ (fun _ => Nat.le_of_ble_eq_true rfl) (fun _ => rfl) (fun u H locs hp hG => ?_)
        obtain ⟨P2_41, rm2_41⟩ := u
        obtain ⟨hP_41, hm_41⟩ := hp
        have hP_41 : ∀ j : Int, 0 ≤ j → j < 570 → P2_41 j = remP rm PA NF j := hP_41
        have hm_41 : rm2_41 = min (rm + 1) 6 := hm_41
        have hG : gW K A s.heap [gMdl K am (thr (bI ((0 ≤ y ∧ y < NF 0) ∧ 0 ≤ x ∧ x < NF 0)) (bI (¬ y = x)) 1) (am 1) lg mr en pw sl ly dn iz tz nx st tk vl ef ep hO hB ol rm2_41 oz, gArr K 95 (am 1) NF, gArr K 60 (am 3) A0, gArrZ K 60 (am 4) A1, gArr K 60 (am 5) A2, gArr K 60 (am 6) A3, gArr K 60 (am 7) A4, gArr K 60 (am 8) A5, gArr K 60 (am 9) A6, gArr K 570 (am 18) P2_41, gArr K 20 (am 15) EB] _ _ := hG
        refine g_iconst S dX9_swapLayers_44 ?_
        refine lv_istore_n (lv' := [(3, .int (iI 0)), (0, .ref (am 0)), (1, .int (iI y)), (2, .int (iI x))]) S.1 S.2.1 dX9_swapLayers_45 rfl hl (by decide) rfl (fun ls hl => ?_)
        have L46 : ∀ (fu : Nat) (k : Nat) (w : Int) (W1 : Int → Int) (lg1 : Int) (mr1 : Int) (en1 : Int) (pw1 : Int) (sl1 : Int) (ly1 : Int) (dn1 : Int) (E0 : Int → Int) (E1 : Int → Int) (E2 : Int → Int) (E3 : Int → Int) (E4 : Int → Int) (E5 : Int → Int) (E6 : Int → Int) (H : Heap) (locs : List Loc) (ls : Array Slot), ((NF 4 - w).toNat) < fu → (w = (k : Int) ∧ w ≤ NF 4) → (∀ i : Nat, i < k → W1 (i : Int) = eS NF (i : Int)) → lv_has ls 5 [(0, .ref (am 0)), (1, .int (iI y)), (2, .int (iI x)), (3, .int (iI w))] → gW K A s.heap [gMdl K am (thr (bI ((0 ≤ y ∧ y < NF 0) ∧ 0 ≤ x ∧ x < NF 0)) (bI (¬ y = x)) 1) (am 1) lg1 mr1 en1 pw1 sl1 ly1 dn1 iz tz nx st tk vl ef ep hO hB ol rm2_41 oz, gArr K 95 (am 1) NF, gArr K 60 (am 3) E0, gArrZ K 60 (am 4) E1, gArr K 60 (am 5) E2, gArr K 60 (am 6) E3, gArr K 60 (am 7) E4, gArr K 60 (am 8) E5, gArr K 60 (am 9) E6, gArr K 570 (am 18) P2_41, gArr K 20 (am 15) W1] H locs → W p l e { frames := 7, cells := 0, slots := 0, locals := 156 } s m ([.ref (am 0), .int (iI y), .int (iI x)] : List Value).toArray below meth c H locs 0 0 Q (F0 m 46 ls []) := by
          intro fu
          induction fu with
          | zero => intro k w W1 lg1 mr1 en1 pw1 sl1 ly1 dn1 E0 E1 E2 E3 E4 E5 E6 H locs ls hfu; exact absurd hfu (Nat.not_lt_zero _)
          | succ fu ih =>
            intro k w W1 lg1 mr1 en1 pw1 sl1 ly1 dn1 E0 E1 E2 E3 E4 E5 E6 H locs ls hfu hw hE hl hG
            refine lv_iload_n S.1 S.2.1 dX9_swapLayers_46 rfl (lv_at hl 3 rfl) ?_
            refine lv_aload_n S.1 S.2.1 dX9_swapLayers_47 rfl (lv_at hl 0 rfl) ?_
            refine g_invV (As := []) (rest := [.int (iI w)]) (gs' := (fun u : Unit => [gMdl K am (thr (bI ((0 ≤ y ∧ y < NF 0) ∧ 0 ≤ x ∧ x < NF 0)) (bI (¬ y = x)) 1) (am 1) lg1 mr1 en1 pw1 sl1 ly1 dn1 iz tz nx st tk vl ef ep hO hB ol rm2_41 oz, gArr K 95 (am 1) NF, gArr K 60 (am 3) E0, gArrZ K 60 (am 4) E1, gArr K 60 (am 5) E2, gArr K 60 (am 6) E3, gArr K 60 (am 7) E4, gArr K 60 (am 8) E5, gArr K 60 (am 9) E6, gArr K 570 (am 18) P2_41, gArr K 20 (am 15) W1])) S C hG [0, 1] (c_X9_shots l K am (thr (bI ((0 ≤ y ∧ y < NF 0) ∧ 0 ≤ x ∧ x < NF 0)) (bI (¬ y = x)) 1) (am 1) lg1 mr1 en1 pw1 sl1 ly1 dn1 iz tz nx st tk vl ef ep hO hB ol rm2_41 oz NF) rfl rfl 0 rfl rfl (cwV 0 S.2.2.2.2 gX9_swapLayers_X9_shots rfl rfl rfl (by decide +kernel) ⟨Nat.le_of_ble_eq_true rfl, Nat.le_of_ble_eq_true rfl⟩) rfl hl.1 rfl (Nat.le_of_ble_eq_true rfl) dX9_swapLayers_48 ⟨Nat.le_of_ble_eq_true rfl, Nat.le_of_ble_eq_true rfl⟩ (fun _ => Nat.le_of_ble_eq_true rfl) (fun _ => rfl) (fun v u H locs hp hG => ?_)
            subst hp
            refine g_icmp_ge (tgt := 71) S dX9_swapLayers_51 (by decide) (by omega) (by omega) (fun q51 => ?_) (fun q51 => ?_)
            · skip
              refine g_iconst S dX9_swapLayers_71 ?_
              refine lv_istore_n (lv' := [(3, .int (iI 0)), (0, .ref (am 0)), (1, .int (iI y)), (2, .int (iI x))]) S.1 S.2.1 dX9_swapLayers_72 rfl hl (by decide) rfl (fun ls hl => ?_)
              have L73 : ∀ (fu : Nat) (u1 : Int) (N1 : Int → Int) (H : Heap) (locs : List Loc) (ls : Array Slot), (((3 : Int) - u1).toNat) < fu → (0 ≤ u1 ∧ u1 ≤ 3) → (∀ j : Int, N1 j = if 5 + 3 * y ≤ j ∧ j < 5 + 3 * y + u1 then NF (j - 3 * y + 3 * x) else if 5 + 3 * x ≤ j ∧ j < 5 + 3 * x + u1 then NF (j - 3 * x + 3 * y) else NF j) → lv_has ls 5 [(0, .ref (am 0)), (1, .int (iI y)), (2, .int (iI x)), (3, .int (iI u1))] → gW K A s.heap [gMdl K am (thr (bI ((0 ≤ y ∧ y < NF 0) ∧ 0 ≤ x ∧ x < NF 0)) (bI (¬ y = x)) 1) (am 1) lg1 mr1 en1 pw1 sl1 ly1 dn1 iz tz nx st tk vl ef ep hO hB ol rm2_41 oz, gArr K 95 (am 1) N1, gArr K 60 (am 3) E0, gArrZ K 60 (am 4) E1, gArr K 60 (am 5) E2, gArr K 60 (am 6) E3, gArr K 60 (am 7) E4, gArr K 60 (am 8) E5, gArr K 60 (am 9) E6, gArr K 570 (am 18) P2_41, gArr K 20 (am 15) W1] H locs → W p l e { frames := 7, cells := 0, slots := 0, locals := 156 } s m ([.ref (am 0), .int (iI y), .int (iI x)] : List Value).toArray below meth c H locs 0 0 Q (F0 m 73 ls []) := by
                intro fu
                induction fu with
                | zero => intro u1 N1 H locs ls hfu; exact absurd hfu (Nat.not_lt_zero _)
                | succ fu ih73 =>
                  intro u1 N1 H locs ls hfu hu hz hl hG
                  refine lv_iload_n S.1 S.2.1 dX9_swapLayers_73 rfl (lv_at hl 3 rfl) ?_
                  refine g_iconst S dX9_swapLayers_74 ?_
                  refine g_icmp_ge (tgt := 136) S dX9_swapLayers_75 (by decide) (by omega) (by omega) (fun q75 => ?_) (fun q75 => ?_)
                  · skip
                    have e9 : N1 = swpLN NF y x := funext fun j => by (rw [hz j, show u1 = 3 by omega, show 5 + 3 * y + 3 = 8 + 3 * y by omega, show 5 + 3 * x + 3 = 8 + 3 * x by omega] <;> rfl)
                    subst e9
                    refine g_iconst S dX9_swapLayers_136 ?_
                    refine lv_istore_n (lv' := [(3, .int (iI 0)), (0, .ref (am 0)), (1, .int (iI y)), (2, .int (iI x))]) S.1 S.2.1 dX9_swapLayers_137 rfl hl (by decide) rfl (fun ls hl => ?_)
                    refine g_iconst S dX9_swapLayers_138 ?_
                    refine lv_istore (lv' := [(4, .int (iI 0)), (3, .int (iI 0)), (0, .ref (am 0)), (1, .int (iI y)), (2, .int (iI x))]) S.1 S.2.1 dX9_swapLayers_139 hl (by decide) rfl (fun ls hl => ?_)
                    have L141 : ∀ (fu : Nat) (j : Nat) (w3 : Int) (f : Int) (lg1 : Int) (mr1 : Int) (en1 : Int) (pw1 : Int) (sl1 : Int) (ly1 : Int) (dn1 : Int) (E0 : Int → Int) (E1 : Int → Int) (E2 : Int → Int) (E3 : Int → Int) (E4 : Int → Int) (E5 : Int → Int) (E6 : Int → Int) (H : Heap) (locs : List Loc) (ls : Array Slot), ((NF 4 - w3).toNat) < fu → (w3 = (j : Int) ∧ w3 ≤ NF 4) → (f = cntB (fun i : Nat => decide (eS (swpLN NF y x) (i : Int) ≠ eS NF (i : Int))) j) → (0 ≤ f ∧ f ≤ w3) → lv_has ls 5 [(0, .ref (am 0)), (1, .int (iI y)), (2, .int (iI x)), (3, .int (iI f)), (4, .int (iI w3))] → gW K A s.heap [gMdl K am (thr (bI ((0 ≤ y ∧ y < NF 0) ∧ 0 ≤ x ∧ x < NF 0)) (bI (¬ y = x)) 1) (am 1) lg1 mr1 en1 pw1 sl1 ly1 dn1 iz tz nx st tk vl ef ep hO hB ol rm2_41 oz, gArr K 95 (am 1) (swpLN NF y x), gArr K 60 (am 3) E0, gArrZ K 60 (am 4) E1, gArr K 60 (am 5) E2, gArr K 60 (am 6) E3, gArr K 60 (am 7) E4, gArr K 60 (am 8) E5, gArr K 60 (am 9) E6, gArr K 570 (am 18) P2_41, gArr K 20 (am 15) W1] H locs → W p l e { frames := 7, cells := 0, slots := 0, locals := 156 } s m ([.ref (am 0), .int (iI y), .int (iI x)] : List Value).toArray below meth c H locs 0 0 Q (F0 m 141 ls []) := by
                      intro fu
                      induction fu with
                      | zero => intro j w3 f lg1 mr1 en1 pw1 sl1 ly1 dn1 E0 E1 E2 E3 E4 E5 E6 H locs ls hfu; exact absurd hfu (Nat.not_lt_zero _)
                      | succ fu ih141 =>
                        intro j w3 f lg1 mr1 en1 pw1 sl1 ly1 dn1 E0 E1 E2 E3 E4 E5 E6 H locs ls hfu hw3 hb hf hl hG
                        refine lv_iload S.1 S.2.1 dX9_swapLayers_141 (lv_at hl 4 rfl) ?_
                        refine lv_aload_n S.1 S.2.1 dX9_swapLayers_143 rfl (lv_at hl 0 rfl) ?_
                        refine g_invV (As := []) (rest := [.int (iI w3)]) (gs' := (fun u : Unit => [gMdl K am (thr (bI ((0 ≤ y ∧ y < NF 0) ∧ 0 ≤ x ∧ x < NF 0)) (bI (¬ y = x)) 1) (am 1) lg1 mr1 en1 pw1 sl1 ly1 dn1 iz tz nx st tk vl ef ep hO hB ol rm2_41 oz, gArr K 95 (am 1) (swpLN NF y x), gArr K 60 (am 3) E0, gArrZ K 60 (am 4) E1, gArr K 60 (am 5) E2, gArr K 60 (am 6) E3, gArr K 60 (am 7) E4, gArr K 60 (am 8) E5, gArr K 60 (am 9) E6, gArr K 570 (am 18) P2_41, gArr K 20 (am 15) W1])) S C hG [0, 1] (c_X9_shots l K am (thr (bI ((0 ≤ y ∧ y < NF 0) ∧ 0 ≤ x ∧ x < NF 0)) (bI (¬ y = x)) 1) (am 1) lg1 mr1 en1 pw1 sl1 ly1 dn1 iz tz nx st tk vl ef ep hO hB ol rm2_41 oz (swpLN NF y x)) rfl rfl 0 rfl rfl (cwV 0 S.2.2.2.2 gX9_swapLayers_X9_shots rfl rfl rfl (by decide +kernel) ⟨Nat.le_of_ble_eq_true rfl, Nat.le_of_ble_eq_true rfl⟩) rfl hl.1 rfl (Nat.le_of_ble_eq_true rfl) dX9_swapLayers_144 ⟨Nat.le_of_ble_eq_true rfl, Nat.le_of_ble_eq_true rfl⟩ (fun _ => Nat.le_of_ble_eq_true rfl) (fun _ => rfl) (fun v u H locs hp hG => ?_)
                        subst hp
                        refine g_top (w := .int (iI (NF 4))) (congrArg (fun z : Int => Value.int (iI z)) ((h42 g1))) ?_
                        refine g_icmp_ge (tgt := 180) S dX9_swapLayers_147 (by decide) (by omega) (by omega) (fun q147 => ?_) (fun q147 => ?_)
                        · skip
                          refine lv_iload_n S.1 S.2.1 dX9_swapLayers_180 rfl (lv_at hl 3 rfl) ?_
                          have hG : gW K A s.heap [gMdl K am (thr (bI ((0 ≤ y ∧ y < NF 0) ∧ 0 ≤ x ∧ x < NF 0)) (bI (¬ y = x)) 1) (am 1) lg1 mr1 en1 pw1 sl1 ly1 dn1 iz tz nx st tk vl ef ep hO hB ol rm2_41 oz, gArr K 95 (am 1) (swpLN NF y x), gArr K 60 (am 3) E0, gArrZ K 60 (am 4) E1, gArr K 60 (am 5) E2, gArr K 60 (am 6) E3, gArr K 60 (am 7) E4, gArr K 60 (am 8) E5, gArr K 60 (am 9) E6, gArr K 570 (am 18) P2_41, gArr K 20 (am 15) W1] _ _ := hG
                          exact g_iret S hr hlk hQ dX9_swapLayers_181 (Nat.le_of_ble_eq_true rfl) (Nat.le_of_ble_eq_true rfl) ((lg1, mr1, en1, pw1, sl1, ly1, dn1, E0, E1, E2, E3, E4, E5, E6, P2_41, rm2_41, W1) : Int × Int × Int × Int × Int × Int × Int × (Int → Int) × (Int → Int) × (Int → Int) × (Int → Int) × (Int → Int) × (Int → Int) × (Int → Int) × (Int → Int) × Int × (Int → Int)) ⟨(congrArg (fun z : Int => Value.int (iI z)) (by rw [hb, show (NF 4).toNat = j by omega])), hP_41, hm_41⟩ hG
                        · skip
                          refine lv_iload_n S.1 S.2.1 dX9_swapLayers_150 rfl (lv_at hl 3 rfl) ?_
                          refine lv_aload_n S.1 S.2.1 dX9_swapLayers_151 rfl (lv_at hl 0 rfl) ?_
                          refine lv_iload S.1 S.2.1 dX9_swapLayers_152 (lv_at hl 4 rfl) ?_
                          refine g_invV (As := [.int (iI w3)]) (rest := [.int (iI f)]) (gs' := (fun u : Int × Int × Int × Int × Int × Int × Int × (Int → Int) × (Int → Int) × (Int → Int) × (Int → Int) × (Int → Int) × (Int → Int) × (Int → Int) => [gMdl K am (thr (bI ((0 ≤ y ∧ y < NF 0) ∧ 0 ≤ x ∧ x < NF 0)) (bI (¬ y = x)) 1) (am 1) u.1 u.2.1 u.2.2.1 u.2.2.2.1 u.2.2.2.2.1 u.2.2.2.2.2.1 u.2.2.2.2.2.2.1 iz tz nx st tk vl ef ep hO hB ol rm2_41 oz, gArr K 95 (am 1) (swpLN NF y x), gArr K 60 (am 3) u.2.2.2.2.2.2.2.1, gArrZ K 60 (am 4) u.2.2.2.2.2.2.2.2.1, gArr K 60 (am 5) u.2.2.2.2.2.2.2.2.2.1, gArr K 60 (am 6) u.2.2.2.2.2.2.2.2.2.2.1, gArr K 60 (am 7) u.2.2.2.2.2.2.2.2.2.2.2.1, gArr K 60 (am 8) u.2.2.2.2.2.2.2.2.2.2.2.2.1, gArr K 60 (am 9) u.2.2.2.2.2.2.2.2.2.2.2.2.2, gArr K 570 (am 18) P2_41, gArr K 20 (am 15) W1])) S C hG [0, 1, 2, 3, 4, 5, 6, 7, 8] (c_X9_endOfShot l K am (thr (bI ((0 ≤ y ∧ y < NF 0) ∧ 0 ≤ x ∧ x < NF 0)) (bI (¬ y = x)) 1) (am 1) lg1 mr1 en1 pw1 sl1 ly1 dn1 iz tz nx st tk vl ef ep hO hB ol rm2_41 oz (swpLN NF y x) E0 E1 E2 E3 E4 E5 E6 w3 (hN2 g1) ⟨by omega, by rw [h42 g1] <;> omega⟩) rfl rfl 0 rfl rfl (cwV 1 S.2.2.2.2 gX9_swapLayers_X9_endOfShot rfl rfl rfl (by decide +kernel) ⟨Nat.le_of_ble_eq_true rfl, Nat.le_of_ble_eq_true rfl⟩) rfl hl.1 rfl (Nat.le_of_ble_eq_true rfl) dX9_swapLayers_154 ⟨Nat.le_of_ble_eq_true rfl, Nat.le_of_ble_eq_true rfl⟩ (fun _ => Nat.le_of_ble_eq_true rfl) (fun _ => rfl) (fun v u H locs hp hG => ?_)
                          obtain ⟨lg2_154, mr2_154, en2_154, pw2_154, sl2_154, ly2_154, dn2_154, B0_154, B1_154, B2_154, B3_154, B4_154, B5_154, B6_154⟩ := u
                          obtain ⟨rfl, hf_154⟩ := hp
                          have hf_154 : FolS (swpLN NF y x) w3 lg2_154 mr2_154 en2_154 pw2_154 B0_154 B1_154 B2_154 B3_154 B4_154 B5_154 B6_154 := hf_154
                          have hG : gW K A s.heap [gMdl K am (thr (bI ((0 ≤ y ∧ y < NF 0) ∧ 0 ≤ x ∧ x < NF 0)) (bI (¬ y = x)) 1) (am 1) lg2_154 mr2_154 en2_154 pw2_154 sl2_154 ly2_154 dn2_154 iz tz nx st tk vl ef ep hO hB ol rm2_41 oz, gArr K 95 (am 1) (swpLN NF y x), gArr K 60 (am 3) B0_154, gArrZ K 60 (am 4) B1_154, gArr K 60 (am 5) B2_154, gArr K 60 (am 6) B3_154, gArr K 60 (am 7) B4_154, gArr K 60 (am 8) B5_154, gArr K 60 (am 9) B6_154, gArr K 570 (am 18) P2_41, gArr K 20 (am 15) W1] _ _ := hG
                          refine g_top (w := .int (iI (eS (swpLN NF y x) (j : Int)))) (congrArg (fun z : Int => Value.int (iI z)) ((by rw [hw3.1]))) ?_
                          refine lv_aload_n S.1 S.2.1 dX9_swapLayers_157 rfl (lv_at hl 0 rfl) ?_
                          refine g_get S C hG iX90 0 rfl rfl 34 (by decide) (List.mem_of_getElem? (i := 1) rfl) rfl dX9_swapLayers_158 ?_
                          refine lv_iload S.1 S.2.1 dX9_swapLayers_161 (lv_at hl 4 rfl) ?_
                          refine g_iald S C hG 10 rfl (by omega) (by omega) (by omega) dX9_swapLayers_163 ?_
                          refine g_top (w := .int (iI (eS NF (j : Int)))) (congrArg (fun z : Int => Value.int (iI z)) ((by rw [hw3.1] <;> exact hE j (by omega)))) ?_
                          have ea : 0 ≤ eS NF (j : Int) ∧ eS NF (j : Int) ≤ 4 := enF_bd _ _ _ _
                          have eb : 0 ≤ eS (swpLN NF y x) (j : Int) ∧ eS (swpLN NF y x) (j : Int) ≤ 4 := enF_bd _ _ _ _
                          refine g_icmp_eq (tgt := 171) S dX9_swapLayers_164 (by decide) (by omega) (by omega) (fun q164 => ?_) (fun q164 => ?_)
                          · skip
                            refine g_iconst S dX9_swapLayers_171 ?_
                            refine g_iadd S dX9_swapLayers_172 rfl ?_
                            refine lv_istore_n (lv' := [(3, .int (iI (f + 0))), (0, .ref (am 0)), (1, .int (iI y)), (2, .int (iI x)), (4, .int (iI w3))]) S.1 S.2.1 dX9_swapLayers_173 rfl hl (by decide) rfl (fun ls hl => ?_)
                            refine lv_iinc (v := iI (w3 + 1)) (lv' := [(4, .int (iI (w3 + 1))), (3, .int (iI (f + 0))), (0, .ref (am 0)), (1, .int (iI y)), (2, .int (iI x))]) S.1 S.2.1 dX9_swapLayers_174 hl (k := 4) rfl (g_iinc rfl) (by decide) rfl (fun ls hl => ?_)
                            refine lv_goto (tgt := 141) S.1 S.2.1 dX9_swapLayers_177 (by decide) ?_
                            exact ih141 (j + 1) (w3 + 1) (f + 0) lg2_154 mr2_154 en2_154 pw2_154 sl2_154 ly2_154 dn2_154 B0_154 B1_154 B2_154 B3_154 B4_154 B5_154 B6_154 _ _ _ (by omega) ⟨by omega, by omega⟩ (by simp only [cntB] <;> rw [← hb, if_neg (by simpa using q164)] <;> omega) (by omega) (lv_sub hl [2, 3, 4, 1, 0] rfl) hG
                          · skip
                            refine g_iconst S dX9_swapLayers_167 ?_
                            refine lv_goto (tgt := 172) S.1 S.2.1 dX9_swapLayers_168 (by decide) ?_
                            refine g_iadd S dX9_swapLayers_172 rfl ?_
                            refine lv_istore_n (lv' := [(3, .int (iI (f + 1))), (0, .ref (am 0)), (1, .int (iI y)), (2, .int (iI x)), (4, .int (iI w3))]) S.1 S.2.1 dX9_swapLayers_173 rfl hl (by decide) rfl (fun ls hl => ?_)
                            refine lv_iinc (v := iI (w3 + 1)) (lv' := [(4, .int (iI (w3 + 1))), (3, .int (iI (f + 1))), (0, .ref (am 0)), (1, .int (iI y)), (2, .int (iI x))]) S.1 S.2.1 dX9_swapLayers_174 hl (k := 4) rfl (g_iinc rfl) (by decide) rfl (fun ls hl => ?_)
                            refine lv_goto (tgt := 141) S.1 S.2.1 dX9_swapLayers_177 (by decide) ?_
                            exact ih141 (j + 1) (w3 + 1) (f + 1) lg2_154 mr2_154 en2_154 pw2_154 sl2_154 ly2_154 dn2_154 B0_154 B1_154 B2_154 B3_154 B4_154 B5_154 B6_154 _ _ _ (by omega) ⟨by omega, by omega⟩ (by simp only [cntB] <;> rw [← hb, if_pos (by simpa using q164)]) (by omega) (lv_sub hl [2, 3, 4, 1, 0] rfl) hG
                    exact L141 (Nat.succ ((NF 4 - 0).toNat)) 0 0 0 lg1 mr1 en1 pw1 sl1 ly1 dn1 E0 E1 E2 E3 E4 E5 E6 _ _ _ (Nat.lt_succ_self _) ⟨rfl, by omega⟩ rfl (by omega) (lv_sub hl [2, 3, 4, 1, 0] rfl) hG
                  · skip
                    refine lv_aload_n S.1 S.2.1 dX9_swapLayers_78 rfl (lv_at hl 0 rfl) ?_
                    refine g_get S C hG iX90 0 rfl rfl 1 (by decide) (List.mem_of_getElem? (i := 2) rfl) rfl dX9_swapLayers_79 ?_
                    refine g_iconst S dX9_swapLayers_82 ?_
                    refine g_iconst S dX9_swapLayers_83 ?_
                    refine lv_iload_n S.1 S.2.1 dX9_swapLayers_84 rfl (lv_at hl 1 rfl) ?_
                    refine g_imul S dX9_swapLayers_85 rfl ?_
                    refine g_iadd S dX9_swapLayers_86 rfl ?_
                    refine lv_iload_n S.1 S.2.1 dX9_swapLayers_87 rfl (lv_at hl 3 rfl) ?_
                    refine g_iadd S dX9_swapLayers_88 rfl ?_
                    refine g_iald S C hG 1 rfl (by omega) (by omega) (by omega) dX9_swapLayers_89 ?_
                    refine lv_istore (lv' := [(4, .int (iI (N1 ((5 + (3 * y)) + u1)))), (0, .ref (am 0)), (1, .int (iI y)), (2, .int (iI x)), (3, .int (iI u1))]) S.1 S.2.1 dX9_swapLayers_90 hl (by decide) rfl (fun ls hl => ?_)
                    refine lv_aload_n S.1 S.2.1 dX9_swapLayers_92 rfl (lv_at hl 1 rfl) ?_
                    refine g_get S C hG iX90 0 rfl rfl 1 (by decide) (List.mem_of_getElem? (i := 2) rfl) rfl dX9_swapLayers_93 ?_
                    refine g_iconst S dX9_swapLayers_96 ?_
                    refine g_iconst S dX9_swapLayers_97 ?_
                    refine lv_iload_n S.1 S.2.1 dX9_swapLayers_98 rfl (lv_at hl 2 rfl) ?_
                    refine g_imul S dX9_swapLayers_99 rfl ?_
                    refine g_iadd S dX9_swapLayers_100 rfl ?_
                    refine lv_iload_n S.1 S.2.1 dX9_swapLayers_101 rfl (lv_at hl 4 rfl) ?_
                    refine g_iadd S dX9_swapLayers_102 rfl ?_
                    refine lv_aload_n S.1 S.2.1 dX9_swapLayers_103 rfl (lv_at hl 1 rfl) ?_
                    refine g_get S C hG iX90 0 rfl rfl 1 (by decide) (List.mem_of_getElem? (i := 2) rfl) rfl dX9_swapLayers_104 ?_
                    refine g_iconst S dX9_swapLayers_107 ?_
                    refine g_iconst S dX9_swapLayers_108 ?_
                    refine lv_iload_n S.1 S.2.1 dX9_swapLayers_109 rfl (lv_at hl 3 rfl) ?_
                    refine g_imul S dX9_swapLayers_110 rfl ?_
                    refine g_iadd S dX9_swapLayers_111 rfl ?_
                    refine lv_iload_n S.1 S.2.1 dX9_swapLayers_112 rfl (lv_at hl 4 rfl) ?_
                    refine g_iadd S dX9_swapLayers_113 rfl ?_
                    refine g_iald S C hG 1 rfl (by omega) (by omega) (by omega) dX9_swapLayers_114 ?_
                    refine g_iast (gs' := [gMdl K am (thr (bI ((0 ≤ y ∧ y < NF 0) ∧ 0 ≤ x ∧ x < NF 0)) (bI (¬ y = x)) 1) (am 1) lg1 mr1 en1 pw1 sl1 ly1 dn1 iz tz nx st tk vl ef ep hO hB ol rm2_41 oz, gArr K 95 (am 1) (upI N1 ((5 + (3 * y)) + u1) (N1 ((5 + (3 * x)) + u1))), gArr K 60 (am 3) E0, gArrZ K 60 (am 4) E1, gArr K 60 (am 5) E2, gArr K 60 (am 6) E3, gArr K 60 (am 7) E4, gArr K 60 (am 8) E5, gArr K 60 (am 9) E6, gArr K 570 (am 18) P2_41, gArr K 20 (am 15) W1]) S C hG 1 rfl (by omega) (by omega) (by omega) rfl dX9_swapLayers_115 (fun H locs hG => ?_)
                    refine lv_aload_n S.1 S.2.1 dX9_swapLayers_116 rfl (lv_at hl 1 rfl) ?_
                    refine g_get S C hG iX90 0 rfl rfl 1 (by decide) (List.mem_of_getElem? (i := 2) rfl) rfl dX9_swapLayers_117 ?_
                    refine g_iconst S dX9_swapLayers_120 ?_
                    refine g_iconst S dX9_swapLayers_121 ?_
                    refine lv_iload_n S.1 S.2.1 dX9_swapLayers_122 rfl (lv_at hl 3 rfl) ?_
                    refine g_imul S dX9_swapLayers_123 rfl ?_
                    refine g_iadd S dX9_swapLayers_124 rfl ?_
                    refine lv_iload_n S.1 S.2.1 dX9_swapLayers_125 rfl (lv_at hl 4 rfl) ?_
                    refine g_iadd S dX9_swapLayers_126 rfl ?_
                    refine lv_iload S.1 S.2.1 dX9_swapLayers_127 (lv_at hl 0 rfl) ?_
                    refine g_iast (gs' := [gMdl K am (thr (bI ((0 ≤ y ∧ y < NF 0) ∧ 0 ≤ x ∧ x < NF 0)) (bI (¬ y = x)) 1) (am 1) lg1 mr1 en1 pw1 sl1 ly1 dn1 iz tz nx st tk vl ef ep hO hB ol rm2_41 oz, gArr K 95 (am 1) (upI (upI N1 ((5 + (3 * y)) + u1) (N1 ((5 + (3 * x)) + u1))) ((5 + (3 * x)) + u1) (N1 ((5 + (3 * y)) + u1))), gArr K 60 (am 3) E0, gArrZ K 60 (am 4) E1, gArr K 60 (am 5) E2, gArr K 60 (am 6) E3, gArr K 60 (am 7) E4, gArr K 60 (am 8) E5, gArr K 60 (am 9) E6, gArr K 570 (am 18) P2_41, gArr K 20 (am 15) W1]) S C hG 1 rfl (by omega) (by omega) (by omega) rfl dX9_swapLayers_129 (fun H locs hG => ?_)
                    refine lv_iinc (v := iI (u1 + 1)) (lv' := [(3, .int (iI (u1 + 1))), (4, .int (iI (N1 ((5 + (3 * y)) + u1)))), (0, .ref (am 0)), (1, .int (iI y)), (2, .int (iI x))]) S.1 S.2.1 dX9_swapLayers_130 hl (k := 4) rfl (g_iinc rfl) (by decide) rfl (fun ls hl => ?_)
                    refine lv_goto (tgt := 73) S.1 S.2.1 dX9_swapLayers_133 (by decide) ?_
                    exact ih73 (u1 + 1) (upI (upI N1 ((5 + (3 * y)) + u1) (N1 ((5 + (3 * x)) + u1))) ((5 + (3 * x)) + u1) (N1 ((5 + (3 * y)) + u1))) _ _ _ (by omega) (by omega) (fun j => by (unfold upI <;> have z1 := hz j <;> have z2 := hz (5 + 3 * y + u1) <;> have z3 := hz (5 + 3 * x + u1) <;> rw [if_neg (by omega), if_neg (by omega)] at z2 z3 <;> (repeat' split) <;> first | (rw [z2] <;> congr 1 <;> omega) | (rw [z3] <;> congr 1 <;> omega) | omega | (rw [z1] <;> (repeat' split) <;> first | rfl | omega))) (lv_sub hl [2, 3, 4, 0] rfl) hG
              exact L73 (Nat.succ (((3 : Int) - 0).toNat)) 0 NF _ _ _ (Nat.lt_succ_self _) (by omega) (fun j => by rw [if_neg (by omega), if_neg (by omega)]) (lv_sub hl [1, 2, 3, 0] rfl) hG
            · skip
              refine lv_aload_n S.1 S.2.1 dX9_swapLayers_54 rfl (lv_at hl 0 rfl) ?_
              refine g_get S C hG iX90 0 rfl rfl 34 (by decide) (List.mem_of_getElem? (i := 1) rfl) rfl dX9_swapLayers_55 ?_
              refine lv_iload_n S.1 S.2.1 dX9_swapLayers_58 rfl (lv_at hl 3 rfl) ?_
              refine lv_aload_n S.1 S.2.1 dX9_swapLayers_59 rfl (lv_at hl 0 rfl) ?_
              refine lv_iload_n S.1 S.2.1 dX9_swapLayers_60 rfl (lv_at hl 3 rfl) ?_
              refine g_invV (As := [.int (iI w)]) (rest := [.int (iI w), .ref (am 15)]) (gs' := (fun u : Int × Int × Int × Int × Int × Int × Int × (Int → Int) × (Int → Int) × (Int → Int) × (Int → Int) × (Int → Int) × (Int → Int) × (Int → Int) => [gMdl K am (thr (bI ((0 ≤ y ∧ y < NF 0) ∧ 0 ≤ x ∧ x < NF 0)) (bI (¬ y = x)) 1) (am 1) u.1 u.2.1 u.2.2.1 u.2.2.2.1 u.2.2.2.2.1 u.2.2.2.2.2.1 u.2.2.2.2.2.2.1 iz tz nx st tk vl ef ep hO hB ol rm2_41 oz, gArr K 95 (am 1) NF, gArr K 60 (am 3) u.2.2.2.2.2.2.2.1, gArrZ K 60 (am 4) u.2.2.2.2.2.2.2.2.1, gArr K 60 (am 5) u.2.2.2.2.2.2.2.2.2.1, gArr K 60 (am 6) u.2.2.2.2.2.2.2.2.2.2.1, gArr K 60 (am 7) u.2.2.2.2.2.2.2.2.2.2.2.1, gArr K 60 (am 8) u.2.2.2.2.2.2.2.2.2.2.2.2.1, gArr K 60 (am 9) u.2.2.2.2.2.2.2.2.2.2.2.2.2, gArr K 570 (am 18) P2_41, gArr K 20 (am 15) W1])) S C hG [0, 1, 2, 3, 4, 5, 6, 7, 8] (c_X9_endOfShot l K am (thr (bI ((0 ≤ y ∧ y < NF 0) ∧ 0 ≤ x ∧ x < NF 0)) (bI (¬ y = x)) 1) (am 1) lg1 mr1 en1 pw1 sl1 ly1 dn1 iz tz nx st tk vl ef ep hO hB ol rm2_41 oz NF E0 E1 E2 E3 E4 E5 E6 w hN ⟨by omega, by omega⟩) rfl rfl 0 rfl rfl (cwV 1 S.2.2.2.2 gX9_swapLayers_X9_endOfShot rfl rfl rfl (by decide +kernel) ⟨Nat.le_of_ble_eq_true rfl, Nat.le_of_ble_eq_true rfl⟩) rfl hl.1 rfl (Nat.le_of_ble_eq_true rfl) dX9_swapLayers_61 ⟨Nat.le_of_ble_eq_true rfl, Nat.le_of_ble_eq_true rfl⟩ (fun _ => Nat.le_of_ble_eq_true rfl) (fun _ => rfl) (fun v u H locs hp hG => ?_)
              obtain ⟨lg2_61, mr2_61, en2_61, pw2_61, sl2_61, ly2_61, dn2_61, B0_61, B1_61, B2_61, B3_61, B4_61, B5_61, B6_61⟩ := u
              obtain ⟨rfl, hf_61⟩ := hp
              have hf_61 : FolS NF w lg2_61 mr2_61 en2_61 pw2_61 B0_61 B1_61 B2_61 B3_61 B4_61 B5_61 B6_61 := hf_61
              have hG : gW K A s.heap [gMdl K am (thr (bI ((0 ≤ y ∧ y < NF 0) ∧ 0 ≤ x ∧ x < NF 0)) (bI (¬ y = x)) 1) (am 1) lg2_61 mr2_61 en2_61 pw2_61 sl2_61 ly2_61 dn2_61 iz tz nx st tk vl ef ep hO hB ol rm2_41 oz, gArr K 95 (am 1) NF, gArr K 60 (am 3) B0_61, gArrZ K 60 (am 4) B1_61, gArr K 60 (am 5) B2_61, gArr K 60 (am 6) B3_61, gArr K 60 (am 7) B4_61, gArr K 60 (am 8) B5_61, gArr K 60 (am 9) B6_61, gArr K 570 (am 18) P2_41, gArr K 20 (am 15) W1] _ _ := hG
              refine g_top (w := .int (iI (eS NF (k : Int)))) (congrArg (fun z : Int => Value.int (iI z)) ((by rw [hw.1]))) ?_
              have eb2 : 0 ≤ eS NF (k : Int) ∧ eS NF (k : Int) ≤ 4 := enF_bd NF (sP NF (k : Int)) (sY NF (k : Int)) (sD NF (k : Int))
              refine g_iast (gs' := [gMdl K am (thr (bI ((0 ≤ y ∧ y < NF 0) ∧ 0 ≤ x ∧ x < NF 0)) (bI (¬ y = x)) 1) (am 1) lg2_61 mr2_61 en2_61 pw2_61 sl2_61 ly2_61 dn2_61 iz tz nx st tk vl ef ep hO hB ol rm2_41 oz, gArr K 95 (am 1) NF, gArr K 60 (am 3) B0_61, gArrZ K 60 (am 4) B1_61, gArr K 60 (am 5) B2_61, gArr K 60 (am 6) B3_61, gArr K 60 (am 7) B4_61, gArr K 60 (am 8) B5_61, gArr K 60 (am 9) B6_61, gArr K 570 (am 18) P2_41, gArr K 20 (am 15) (upI W1 w (eS NF (k : Int)))]) S C hG 10 rfl (by omega) (by omega) (by omega) rfl dX9_swapLayers_64 (fun H locs hG => ?_)
              refine lv_iinc (v := iI (w + 1)) (lv' := [(3, .int (iI (w + 1))), (0, .ref (am 0)), (1, .int (iI y)), (2, .int (iI x))]) S.1 S.2.1 dX9_swapLayers_65 hl (k := 3) rfl (g_iinc rfl) (by decide) rfl (fun ls hl => ?_)
              refine lv_goto (tgt := 46) S.1 S.2.1 dX9_swapLayers_68 (by decide) ?_
              exact ih (k + 1) (w + 1) (upI W1 w (eS NF (k : Int))) lg2_61 mr2_61 en2_61 pw2_61 sl2_61 ly2_61 dn2_61 B0_61 B1_61 B2_61 B3_61 B4_61 B5_61 B6_61 _ _ _ (by omega) ⟨by omega, by omega⟩ (fun i hi => if g : i < k then by rw [upI_n _ _ (by omega)] <;> exact hE i g else by rw [upI_e _ _ (by omega), show i = k by omega]) (lv_sub hl [1, 2, 3, 0] rfl) hG
        exact L46 (Nat.succ ((NF 4 - 0).toNat)) 0 0 EB lg mr en pw sl ly dn A0 A1 A2 A3 A4 A5 A6 _ _ _ (Nat.lt_succ_self _) ⟨rfl, by omega⟩ (fun i hi => absurd hi (Nat.not_lt_zero i)) (lv_sub hl [1, 2, 3, 0] rfl) hG
      · skip
        exact absurd ⟨bI_t g1, bI_t g2⟩ q35
    refine g_icmp_eq (tgt := 31) S dX9_swapLayers_24 (by decide) (by omega) (by omega) (fun q24 => ?_) (fun q24 => ?_)
    · skip
      refine g_iconst S dX9_swapLayers_31 ?_
      refine g_top (w := .int (iI (bI (¬ y = x)))) (congrArg (fun z : Int => Value.int (iI z)) ((bI_f (by omega)).symm)) ?_
      exact J32 _ _ _ (lv_sub hl [0, 1, 2] rfl) hG
    · skip
      refine g_iconst S dX9_swapLayers_27 ?_
      refine g_top (w := .int (iI (bI (¬ y = x)))) (congrArg (fun z : Int => Value.int (iI z)) ((bI_t (by omega)).symm)) ?_
      refine lv_goto (tgt := 32) S.1 S.2.1 dX9_swapLayers_28 (by decide) ?_
      exact J32 _ _ _ (lv_sub hl [0, 1, 2] rfl) hG
  refine g_ifeq_b (B := (0 ≤ y ∧ y < NF 0)) (tgt := 21) S dX9_swapLayers_6 (by decide) (fun q6 => ?_) (fun q6 => ?_)
  · skip
    refine g_iconst S dX9_swapLayers_21 ?_
    refine g_top (w := .int (iI (bI ((0 ≤ y ∧ y < NF 0) ∧ 0 ≤ x ∧ x < NF 0)))) (congrArg (fun z : Int => Value.int (iI z)) ((bI_f (by omega)).symm)) ?_
    exact J22 _ _ _ (lv_sub hl [0, 1, 2] rfl) hG
  · skip
    refine lv_aload_n S.1 S.2.1 dX9_swapLayers_9 rfl (lv_at hl 0 rfl) ?_
    refine lv_iload_n S.1 S.2.1 dX9_swapLayers_10 rfl (lv_at hl 2 rfl) ?_
    refine g_invV (As := [.int (iI x)]) (rest := [.ref (am 0)]) (gs' := (fun u : Unit => [gMdl K am th (am 1) lg mr en pw sl ly dn iz tz nx st tk vl ef ep hO hB ol rm oz, gArr K 95 (am 1) NF, gArr K 60 (am 3) A0, gArrZ K 60 (am 4) A1, gArr K 60 (am 5) A2, gArr K 60 (am 6) A3, gArr K 60 (am 7) A4, gArr K 60 (am 8) A5, gArr K 60 (am 9) A6, gArr K 570 (am 18) PA, gArr K 20 (am 15) EB])) S C hG [0, 1] (c_X9_isLayer l K am th (am 1) lg mr en pw sl ly dn iz tz nx st tk vl ef ep hO hB ol rm oz NF x hN hx) rfl rfl 0 rfl rfl (cwV 1 S.2.2.2.2 gX9_swapLayers_X9_isLayer rfl rfl rfl (by decide +kernel) ⟨Nat.le_of_ble_eq_true rfl, Nat.le_of_ble_eq_true rfl⟩) rfl hl.1 rfl (Nat.le_of_ble_eq_true rfl) dX9_swapLayers_11 ⟨Nat.le_of_ble_eq_true rfl, Nat.le_of_ble_eq_true rfl⟩ (fun _ => Nat.le_of_ble_eq_true rfl) (fun _ => rfl) (fun v u H locs hp hG => ?_)
    subst hp
    refine g_ifeq_b (B := (0 ≤ x ∧ x < NF 0)) (tgt := 21) S dX9_swapLayers_14 (by decide) (fun q14 => ?_) (fun q14 => ?_)
    · skip
      refine g_iconst S dX9_swapLayers_21 ?_
      refine g_top (w := .int (iI (bI ((0 ≤ y ∧ y < NF 0) ∧ 0 ≤ x ∧ x < NF 0)))) (congrArg (fun z : Int => Value.int (iI z)) ((bI_f (by omega)).symm)) ?_
      exact J22 _ _ _ (lv_sub hl [0, 1, 2] rfl) hG
    · skip
      refine g_iconst S dX9_swapLayers_17 ?_
      refine g_top (w := .int (iI (bI ((0 ≤ y ∧ y < NF 0) ∧ 0 ≤ x ∧ x < NF 0)))) (congrArg (fun z : Int => Value.int (iI z)) ((bI_t (by omega)).symm)) ?_
      refine lv_goto (tgt := 22) S.1 S.2.1 dX9_swapLayers_18 (by decide) ?_
      exact J22 _ _ _ (lv_sub hl [0, 1, 2] rfl) hG

set_option maxHeartbeats 1000000 in
set_option maxRecDepth 100000 in
theorem b_X9_swapLayers (l : Launch) (K : KC) (am : Nat → Nat) (th : Int) (lg : Int) (mr : Int) (en : Int) (pw : Int) (sl : Int) (ly : Int) (dn : Int) (iz : Int) (tz : Int) (nx : Int) (st : Int) (tk : Int) (vl : Int) (ef : Int) (ep : Int) (hO : Int) (hB : Int) (ol : Int) (rm : Int) (oz : Int) (NF : Int → Int) (y : Int) (x : Int) (hN : NOk0 NF) (hv : -2147483648 ≤ y ∧ y < 2147483648) (hx : -2147483648 ≤ x ∧ x < 2147483648) (hbad : ¬ (((0 ≤ y ∧ y < NF 0) ∧ 0 ≤ x ∧ x < NF 0) ∧ (¬ y = x))) : mG l yX9_swapLayers wsX9_swapLayers 2 46 K [.ref (am 0), .int (iI y), .int (iI x)] [gMdl K am th (am 1) lg mr en pw sl ly dn iz tz nx st tk vl ef ep hO hB ol rm oz, gArr K 95 (am 1) NF] (fun (v : Value) (u : Unit) => (v = .int (iI 0))) (fun (u : Unit) => [gMdl K am (thr (bI ((0 ≤ y ∧ y < NF 0) ∧ 0 ≤ x ∧ x < NF 0)) (bI (¬ y = x)) 1) (am 1) lg mr en pw sl ly dn iz tz nx st tk vl ef ep hO hB ol rm oz, gArr K 95 (am 1) NF]) 0 0 := by
  refine mG_of cX9_swapLayers 5 (by decide) rfl (Nat.le_of_ble_eq_true rfl) ?_
  intro p e s m below meth c A ls Q S C hG hl hr hlk hin hQ
  have S : CallFix p m c cX9_swapLayers 5 s ([.ref (am 0), .int (iI y), .int (iI x)] : List Value).toArray wsX9_swapLayers RX9 := S
  have iX90 : ∀ w ∈ wsX90, w ∈ wsX9_swapLayers := fun _ h => List.mem_cons_of_mem _ (List.mem_append_right _ (h))
  have hl : lv_has ls 5 [(0, .ref (am 0)), (1, .int (iI y)), (2, .int (iI x))] := hl
  have hG : gW K A s.heap [gMdl K am th (am 1) lg mr en pw sl ly dn iz tz nx st tk vl ef ep hO hB ol rm oz, gArr K 95 (am 1) NF] s.heap [] := hG
  have n0 := hN.1
  have n3 := hN.2.2.2.1
  refine lv_aload_n S.1 S.2.1 dX9_swapLayers_0 rfl (lv_at hl 0 rfl) ?_
  refine lv_aload_n S.1 S.2.1 dX9_swapLayers_1 rfl (lv_at hl 0 rfl) ?_
  refine lv_iload_n S.1 S.2.1 dX9_swapLayers_2 rfl (lv_at hl 1 rfl) ?_
  refine g_invV (As := [.int (iI y)]) (rest := [.ref (am 0)]) (gs' := (fun u : Unit => [gMdl K am th (am 1) lg mr en pw sl ly dn iz tz nx st tk vl ef ep hO hB ol rm oz, gArr K 95 (am 1) NF])) S C hG [0, 1] (c_X9_isLayer l K am th (am 1) lg mr en pw sl ly dn iz tz nx st tk vl ef ep hO hB ol rm oz NF y hN hv) rfl rfl 0 rfl rfl (cwV 1 S.2.2.2.2 gX9_swapLayers_X9_isLayer rfl rfl rfl (by decide +kernel) ⟨Nat.le_of_ble_eq_true rfl, Nat.le_of_ble_eq_true rfl⟩) rfl hl.1 rfl (Nat.le_of_ble_eq_true rfl) dX9_swapLayers_3 ⟨Nat.le_of_ble_eq_true rfl, Nat.le_of_ble_eq_true rfl⟩ (fun _ => Nat.le_of_ble_eq_true rfl) (fun _ => rfl) (fun v u H locs hp hG => ?_)
  subst hp
  have J22 : ∀ (H : Heap) (locs : List Loc) (ls : Array Slot), lv_has ls 5 [(0, .ref (am 0)), (1, .int (iI y)), (2, .int (iI x))] → gW K A s.heap [gMdl K am th (am 1) lg mr en pw sl ly dn iz tz nx st tk vl ef ep hO hB ol rm oz, gArr K 95 (am 1) NF] H locs → W p l e { frames := 2, cells := 0, slots := 0, locals := 46 } s m ([.ref (am 0), .int (iI y), .int (iI x)] : List Value).toArray below meth c H locs 0 0 Q (F0 m 22 ls [.int (iI (bI ((0 ≤ y ∧ y < NF 0) ∧ 0 ≤ x ∧ x < NF 0))), .ref (am 0)]) := by
    intro  H locs ls  hl hG
    refine lv_iload_n S.1 S.2.1 dX9_swapLayers_22 rfl (lv_at hl 1 rfl) ?_
    refine lv_iload_n S.1 S.2.1 dX9_swapLayers_23 rfl (lv_at hl 2 rfl) ?_
    have J32 : ∀ (H : Heap) (locs : List Loc) (ls : Array Slot), lv_has ls 5 [(0, .ref (am 0)), (1, .int (iI y)), (2, .int (iI x))] → gW K A s.heap [gMdl K am th (am 1) lg mr en pw sl ly dn iz tz nx st tk vl ef ep hO hB ol rm oz, gArr K 95 (am 1) NF] H locs → W p l e { frames := 2, cells := 0, slots := 0, locals := 46 } s m ([.ref (am 0), .int (iI y), .int (iI x)] : List Value).toArray below meth c H locs 0 0 Q (F0 m 32 ls [.int (iI (bI (¬ y = x))), .int (iI (bI ((0 ≤ y ∧ y < NF 0) ∧ 0 ≤ x ∧ x < NF 0))), .ref (am 0)]) := by
      intro  H locs ls  hl hG
      refine g_invV (As := [.int (iI (bI ((0 ≤ y ∧ y < NF 0) ∧ 0 ≤ x ∧ x < NF 0))), .int (iI (bI (¬ y = x)))]) (rest := []) (gs' := (fun u : Unit => [gMdl K am (thr (bI ((0 ≤ y ∧ y < NF 0) ∧ 0 ≤ x ∧ x < NF 0)) (bI (¬ y = x)) 1) (am 1) lg mr en pw sl ly dn iz tz nx st tk vl ef ep hO hB ol rm oz, gArr K 95 (am 1) NF])) S C hG [0] (c_X9_passes2 l K am th (am 1) lg mr en pw sl ly dn iz tz nx st tk vl ef ep hO hB ol rm oz (bI ((0 ≤ y ∧ y < NF 0) ∧ 0 ≤ x ∧ x < NF 0)) (bI (¬ y = x)) (bI_01 _) (bI_01 _)) rfl rfl 0 rfl rfl (cwV 2 S.2.2.2.2 gX9_swapLayers_X9_passes2 rfl rfl rfl (by decide +kernel) ⟨Nat.le_of_ble_eq_true rfl, Nat.le_of_ble_eq_true rfl⟩) rfl hl.1 rfl (Nat.le_of_ble_eq_true rfl) dX9_swapLayers_32 ⟨Nat.le_of_ble_eq_true rfl, Nat.le_of_ble_eq_true rfl⟩ (fun _ => Nat.le_of_ble_eq_true rfl) (fun _ => rfl) (fun v u H locs hp hG => ?_)
      subst hp
      refine g_ifne_b (B := ((bI ((0 ≤ y ∧ y < NF 0) ∧ 0 ≤ x ∧ x < NF 0)) = 1 ∧ (bI (¬ y = x)) = 1)) (tgt := 40) S dX9_swapLayers_35 (by decide) (fun q35 => ?_) (fun q35 => ?_)
      · skip
        exact absurd ⟨bI1 q35.1, bI1 q35.2⟩ hbad
      · skip
        refine g_iconst S dX9_swapLayers_38 ?_
        have hG : gW K A s.heap [gMdl K am (thr (bI ((0 ≤ y ∧ y < NF 0) ∧ 0 ≤ x ∧ x < NF 0)) (bI (¬ y = x)) 1) (am 1) lg mr en pw sl ly dn iz tz nx st tk vl ef ep hO hB ol rm oz, gArr K 95 (am 1) NF] _ _ := hG
        exact g_iret S hr hlk hQ dX9_swapLayers_39 (Nat.le_of_ble_eq_true rfl) (Nat.le_of_ble_eq_true rfl) (() : Unit) rfl hG
    refine g_icmp_eq (tgt := 31) S dX9_swapLayers_24 (by decide) (by omega) (by omega) (fun q24 => ?_) (fun q24 => ?_)
    · skip
      refine g_iconst S dX9_swapLayers_31 ?_
      refine g_top (w := .int (iI (bI (¬ y = x)))) (congrArg (fun z : Int => Value.int (iI z)) ((bI_f (by omega)).symm)) ?_
      exact J32 _ _ _ (lv_sub hl [0, 1, 2] rfl) hG
    · skip
      refine g_iconst S dX9_swapLayers_27 ?_
      refine g_top (w := .int (iI (bI (¬ y = x)))) (congrArg (fun z : Int => Value.int (iI z)) ((bI_t (by omega)).symm)) ?_
      refine lv_goto (tgt := 32) S.1 S.2.1 dX9_swapLayers_28 (by decide) ?_
      exact J32 _ _ _ (lv_sub hl [0, 1, 2] rfl) hG
  refine g_ifeq_b (B := (0 ≤ y ∧ y < NF 0)) (tgt := 21) S dX9_swapLayers_6 (by decide) (fun q6 => ?_) (fun q6 => ?_)
  · skip
    refine g_iconst S dX9_swapLayers_21 ?_
    refine g_top (w := .int (iI (bI ((0 ≤ y ∧ y < NF 0) ∧ 0 ≤ x ∧ x < NF 0)))) (congrArg (fun z : Int => Value.int (iI z)) ((bI_f (by omega)).symm)) ?_
    exact J22 _ _ _ (lv_sub hl [0, 1, 2] rfl) hG
  · skip
    refine lv_aload_n S.1 S.2.1 dX9_swapLayers_9 rfl (lv_at hl 0 rfl) ?_
    refine lv_iload_n S.1 S.2.1 dX9_swapLayers_10 rfl (lv_at hl 2 rfl) ?_
    refine g_invV (As := [.int (iI x)]) (rest := [.ref (am 0)]) (gs' := (fun u : Unit => [gMdl K am th (am 1) lg mr en pw sl ly dn iz tz nx st tk vl ef ep hO hB ol rm oz, gArr K 95 (am 1) NF])) S C hG [0, 1] (c_X9_isLayer l K am th (am 1) lg mr en pw sl ly dn iz tz nx st tk vl ef ep hO hB ol rm oz NF x hN hx) rfl rfl 0 rfl rfl (cwV 1 S.2.2.2.2 gX9_swapLayers_X9_isLayer rfl rfl rfl (by decide +kernel) ⟨Nat.le_of_ble_eq_true rfl, Nat.le_of_ble_eq_true rfl⟩) rfl hl.1 rfl (Nat.le_of_ble_eq_true rfl) dX9_swapLayers_11 ⟨Nat.le_of_ble_eq_true rfl, Nat.le_of_ble_eq_true rfl⟩ (fun _ => Nat.le_of_ble_eq_true rfl) (fun _ => rfl) (fun v u H locs hp hG => ?_)
    subst hp
    refine g_ifeq_b (B := (0 ≤ x ∧ x < NF 0)) (tgt := 21) S dX9_swapLayers_14 (by decide) (fun q14 => ?_) (fun q14 => ?_)
    · skip
      refine g_iconst S dX9_swapLayers_21 ?_
      refine g_top (w := .int (iI (bI ((0 ≤ y ∧ y < NF 0) ∧ 0 ≤ x ∧ x < NF 0)))) (congrArg (fun z : Int => Value.int (iI z)) ((bI_f (by omega)).symm)) ?_
      exact J22 _ _ _ (lv_sub hl [0, 1, 2] rfl) hG
    · skip
      refine g_iconst S dX9_swapLayers_17 ?_
      refine g_top (w := .int (iI (bI ((0 ≤ y ∧ y < NF 0) ∧ 0 ≤ x ∧ x < NF 0)))) (congrArg (fun z : Int => Value.int (iI z)) ((bI_t (by omega)).symm)) ?_
      refine lv_goto (tgt := 22) S.1 S.2.1 dX9_swapLayers_18 (by decide) ?_
      exact J22 _ _ _ (lv_sub hl [0, 1, 2] rfl) hG
