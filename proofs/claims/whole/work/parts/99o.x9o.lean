set_option maxHeartbeats 1000000 in
set_option maxRecDepth 100000 in
theorem c_X9_writeLayers (l : Launch) (K : KC) (am : Nat → Nat) (th : Int) (lg : Int) (mr : Int) (en : Int) (pw : Int) (sl : Int) (ly : Int) (dn : Int) (iz : Int) (tz : Int) (nx : Int) (st : Int) (tk : Int) (vl : Int) (ef : Int) (ep : Int) (hO : Int) (hB : Int) (ol : Int) (rm : Int) (oz : Int) (NF : Int → Int) (OF : Int → Int) (hN : NOk0 NF) : mG l yX9_writeLayers wsX9_writeLayers 2 44 K [.ref (am 0)] [gMdl K am th (am 1) lg mr en pw sl ly dn iz tz nx st tk vl ef ep hO hB ol rm oz, gArr K 95 (am 1) NF, gArrB K 200 (am 19) OF] (fun (v : Value) (u : Int × (Int → Int)) => (v = .int (iI u.1)) ∧ (OutI u.2 u.1 (layT NF)) ∧ (0 ≤ u.1 ∧ u.1 ≤ 120)) (fun (u : Int × (Int → Int)) => [gMdl K am 0 (am 1) lg mr en pw sl ly dn iz tz nx st tk vl ef ep hO hB ol rm u.1, gArr K 95 (am 1) NF, gArrB K 200 (am 19) u.2]) 0 0 := by
  refine mG_of cX9_writeLayers 2 (by decide) rfl (Nat.le_of_ble_eq_true rfl) ?_
  intro p e s m below meth c A ls Q S C hG hl hr hlk hin hQ
  have S : CallFix p m c cX9_writeLayers 2 s ([.ref (am 0)] : List Value).toArray wsX9_writeLayers RX9 := S
  have iX90 : ∀ w ∈ wsX90, w ∈ wsX9_writeLayers := fun _ h => List.mem_cons_of_mem _ (List.mem_append_right _ (h))
  have hl : lv_has ls 2 [(0, .ref (am 0))] := hl
  have hG : gW K A s.heap [gMdl K am th (am 1) lg mr en pw sl ly dn iz tz nx st tk vl ef ep hO hB ol rm oz, gArr K 95 (am 1) NF, gArrB K 200 (am 19) OF] s.heap [] := hG
  have n0 := hN.1
  have n3 := hN.2.2.2.1
  have n2_ := hN.2.2.1
  have d3 := dgs_bd (NF 3)
  refine lv_aload_n S.1 S.2.1 dX9_writeLayers_0 rfl (lv_at hl 0 rfl) ?_
  refine g_iconst S dX9_writeLayers_1 ?_
  refine g_put (gs' := [gMdl K am 0 (am 1) lg mr en pw sl ly dn iz tz nx st tk vl ef ep hO hB ol rm oz, gArr K 95 (am 1) NF, gArrB K 200 (am 19) OF]) S C hG iX90 tyX9 tyX9_ok nmX9 0 rfl rfl 0 (by decide) (List.mem_of_getElem? (i := 1) rfl) rfl rfl rfl (Nat.le_of_ble_eq_true rfl) rfl dX9_writeLayers_2 (fun H locs hG => ?_)
  refine lv_aload_n S.1 S.2.1 dX9_writeLayers_5 rfl (lv_at hl 0 rfl) ?_
  refine g_iconst S dX9_writeLayers_6 ?_
  refine g_put (gs' := [gMdl K am 0 (am 1) lg mr en pw sl ly dn iz tz nx st tk vl ef ep hO hB ol rm 0, gArr K 95 (am 1) NF, gArrB K 200 (am 19) OF]) S C hG iX90 tyX9 tyX9_ok nmX9 0 rfl rfl 40 (by decide) (List.mem_of_getElem? (i := 2) rfl) rfl rfl rfl (Nat.le_of_ble_eq_true rfl) rfl dX9_writeLayers_7 (fun H locs hG => ?_)
  refine g_iconst S dX9_writeLayers_10 ?_
  refine lv_istore_n (lv' := [(1, .int (iI 0)), (0, .ref (am 0))]) S.1 S.2.1 dX9_writeLayers_11 rfl hl (by decide) rfl (fun ls hl => ?_)
  have L12 : ∀ (fu : Nat) (k : Nat) (w : Int) (n1 : Int) (F1 : Int → Int) (H : Heap) (locs : List Loc) (ls : Array Slot), ((NF 0 - w).toNat) < fu → (w = (k : Int) ∧ w ≤ NF 0) → (OutI F1 n1 (lyT NF k)) → (0 ≤ n1 ∧ n1 ≤ 10 * w) → lv_has ls 2 [(0, .ref (am 0)), (1, .int (iI w))] → gW K A s.heap [gMdl K am 0 (am 1) lg mr en pw sl ly dn iz tz nx st tk vl ef ep hO hB ol rm n1, gArr K 95 (am 1) NF, gArrB K 200 (am 19) F1] H locs → W p l e { frames := 2, cells := 0, slots := 0, locals := 44 } s m ([.ref (am 0)] : List Value).toArray below meth c H locs 0 0 Q (F0 m 12 ls []) := by
    intro fu
    induction fu with
    | zero => intro k w n1 F1 H locs ls hfu; exact absurd hfu (Nat.not_lt_zero _)
    | succ fu ih =>
      intro k w n1 F1 H locs ls hfu hw ho hn hl hG
      refine lv_iload_n S.1 S.2.1 dX9_writeLayers_12 rfl (lv_at hl 1 rfl) ?_
      refine lv_aload_n S.1 S.2.1 dX9_writeLayers_13 rfl (lv_at hl 0 rfl) ?_
      refine g_invV (As := []) (rest := [.int (iI w)]) (gs' := (fun u : Unit => [gMdl K am 0 (am 1) lg mr en pw sl ly dn iz tz nx st tk vl ef ep hO hB ol rm n1, gArr K 95 (am 1) NF, gArrB K 200 (am 19) F1])) S C hG [0, 1] (c_X9_layers l K am 0 (am 1) lg mr en pw sl ly dn iz tz nx st tk vl ef ep hO hB ol rm n1 NF) rfl rfl 0 rfl rfl (cwV 0 S.2.2.2.2 gX9_writeLayers_X9_layers rfl rfl rfl (by decide +kernel) ⟨Nat.le_of_ble_eq_true rfl, Nat.le_of_ble_eq_true rfl⟩) rfl hl.1 rfl (Nat.le_of_ble_eq_true rfl) dX9_writeLayers_14 ⟨Nat.le_of_ble_eq_true rfl, Nat.le_of_ble_eq_true rfl⟩ (fun _ => Nat.le_of_ble_eq_true rfl) (fun _ => rfl) (fun v u H locs hp hG => ?_)
      subst hp
      refine g_icmp_ge (tgt := 62) S dX9_writeLayers_17 (by decide) (by omega) (by omega) (fun q17 => ?_) (fun q17 => ?_)
      · skip
        refine lv_aload_n S.1 S.2.1 dX9_writeLayers_62 rfl (lv_at hl 0 rfl) ?_
        refine lv_aload_n S.1 S.2.1 dX9_writeLayers_63 rfl (lv_at hl 0 rfl) ?_
        refine g_get S C hG iX90 0 rfl rfl 1 (by decide) (List.mem_of_getElem? (i := 3) rfl) rfl dX9_writeLayers_64 ?_
        refine g_iconst S dX9_writeLayers_67 ?_
        refine g_iald S C hG 1 rfl (by omega) (by omega) (by omega) dX9_writeLayers_68 ?_
        refine g_iconst S dX9_writeLayers_69 ?_
        refine g_icmp_ne (tgt := 78) S dX9_writeLayers_70 (by decide) (by omega) (by omega) (fun q70 => ?_) (fun q70 => ?_)
        · skip
          refine g_bipush S dX9_writeLayers_78 (by decide) ?_
          refine g_invVv (As := [.int (iI 124)]) (rest := []) (gs' := (fun u : Unit => [gMdl K am 0 (am 1) lg mr en pw sl ly dn iz tz nx st tk vl ef ep hO hB ol rm (n1 + 1), gArr K 95 (am 1) NF, gArrB K 200 (am 19) (upI F1 n1 124)])) S C hG [0, 2] (c_X9_write l K am 0 (am 1) lg mr en pw sl ly dn iz tz nx st tk vl ef ep hO hB ol rm n1 F1 124 (by omega)) rfl rfl 0 rfl rfl (cwV 1 S.2.2.2.2 gX9_writeLayers_X9_write rfl rfl rfl (by decide +kernel) ⟨Nat.le_of_ble_eq_true rfl, Nat.le_of_ble_eq_true rfl⟩) rfl hl.1 rfl (Nat.le_of_ble_eq_true rfl) dX9_writeLayers_80 ⟨Nat.le_of_ble_eq_true rfl, Nat.le_of_ble_eq_true rfl⟩ (fun _ => Nat.le_of_ble_eq_true rfl) (fun _ => rfl) (fun u H locs hp hG => ?_)
          refine lv_aload_n S.1 S.2.1 dX9_writeLayers_83 rfl (lv_at hl 0 rfl) ?_
          refine lv_aload_n S.1 S.2.1 dX9_writeLayers_84 rfl (lv_at hl 0 rfl) ?_
          refine g_get S C hG iX90 0 rfl rfl 1 (by decide) (List.mem_of_getElem? (i := 3) rfl) rfl dX9_writeLayers_85 ?_
          refine g_iconst S dX9_writeLayers_88 ?_
          refine g_iald S C hG 1 rfl (by omega) (by omega) (by omega) dX9_writeLayers_89 ?_
          refine g_invVv (As := [.int (iI (NF 3))]) (rest := []) (gs' := (fun u : (Int → Int) × Int => [gMdl K am 0 (am 1) lg mr en pw sl ly dn iz tz nx st tk vl ef ep hO hB ol rm u.2, gArr K 95 (am 1) NF, gArrB K 200 (am 19) u.1])) S C hG [0, 2] (c_X9_writeInt l K am 0 (am 1) lg mr en pw sl ly dn iz tz nx st tk vl ef ep hO hB ol rm (n1 + 1) (upI F1 n1 124) (NF 3) (by omega) (by omega)) rfl rfl 0 rfl rfl (cwV 1 S.2.2.2.2 gX9_writeLayers_X9_writeInt rfl rfl rfl (by decide +kernel) ⟨Nat.le_of_ble_eq_true rfl, Nat.le_of_ble_eq_true rfl⟩) rfl hl.1 rfl (Nat.le_of_ble_eq_true rfl) dX9_writeLayers_90 ⟨Nat.le_of_ble_eq_true rfl, Nat.le_of_ble_eq_true rfl⟩ (fun _ => Nat.le_of_ble_eq_true rfl) (fun _ => rfl) (fun u H locs hp hG => ?_)
          obtain ⟨F2_90, oz2_90⟩ := u
          obtain ⟨hF_90, hz_90⟩ := hp
          have hF_90 : ∀ j : Int, F2_90 j = if (n1 + 1) ≤ j ∧ j < (n1 + 1) + dgs (NF 3) then dgt (NF 3) (j - (n1 + 1)) else (upI F1 n1 124) j := hF_90
          have hz_90 : oz2_90 = (n1 + 1) + dgs (NF 3) := hz_90
          have hG : gW K A s.heap [gMdl K am 0 (am 1) lg mr en pw sl ly dn iz tz nx st tk vl ef ep hO hB ol rm oz2_90, gArr K 95 (am 1) NF, gArrB K 200 (am 19) F2_90] _ _ := hG
          refine lv_aload_n S.1 S.2.1 dX9_writeLayers_93 rfl (lv_at hl 0 rfl) ?_
          refine g_get S C hG iX90 0 rfl rfl 40 (by decide) (List.mem_of_getElem? (i := 2) rfl) rfl dX9_writeLayers_94 ?_
          have hG : gW K A s.heap [gMdl K am 0 (am 1) lg mr en pw sl ly dn iz tz nx st tk vl ef ep hO hB ol rm oz2_90, gArr K 95 (am 1) NF, gArrB K 200 (am 19) F2_90] _ _ := hG
          exact g_iret S hr hlk hQ dX9_writeLayers_97 (Nat.le_of_ble_eq_true rfl) (Nat.le_of_ble_eq_true rfl) ((oz2_90, F2_90) : Int × (Int → Int)) ⟨rfl, (by have z9 := (ho.add 124).numz hF_90 hz_90 <;> unfold layT <;> rw [show (NF 0).toNat = k by omega, if_neg (by omega)] <;> exact z9), (by omega)⟩ hG
        · skip
          refine g_bipush S dX9_writeLayers_73 (by decide) ?_
          refine lv_goto (tgt := 80) S.1 S.2.1 dX9_writeLayers_75 (by decide) ?_
          refine g_invVv (As := [.int (iI 35)]) (rest := []) (gs' := (fun u : Unit => [gMdl K am 0 (am 1) lg mr en pw sl ly dn iz tz nx st tk vl ef ep hO hB ol rm (n1 + 1), gArr K 95 (am 1) NF, gArrB K 200 (am 19) (upI F1 n1 35)])) S C hG [0, 2] (c_X9_write l K am 0 (am 1) lg mr en pw sl ly dn iz tz nx st tk vl ef ep hO hB ol rm n1 F1 35 (by omega)) rfl rfl 0 rfl rfl (cwV 1 S.2.2.2.2 gX9_writeLayers_X9_write rfl rfl rfl (by decide +kernel) ⟨Nat.le_of_ble_eq_true rfl, Nat.le_of_ble_eq_true rfl⟩) rfl hl.1 rfl (Nat.le_of_ble_eq_true rfl) dX9_writeLayers_80 ⟨Nat.le_of_ble_eq_true rfl, Nat.le_of_ble_eq_true rfl⟩ (fun _ => Nat.le_of_ble_eq_true rfl) (fun _ => rfl) (fun u H locs hp hG => ?_)
          refine lv_aload_n S.1 S.2.1 dX9_writeLayers_83 rfl (lv_at hl 0 rfl) ?_
          refine lv_aload_n S.1 S.2.1 dX9_writeLayers_84 rfl (lv_at hl 0 rfl) ?_
          refine g_get S C hG iX90 0 rfl rfl 1 (by decide) (List.mem_of_getElem? (i := 3) rfl) rfl dX9_writeLayers_85 ?_
          refine g_iconst S dX9_writeLayers_88 ?_
          refine g_iald S C hG 1 rfl (by omega) (by omega) (by omega) dX9_writeLayers_89 ?_
          refine g_invVv (As := [.int (iI (NF 3))]) (rest := []) (gs' := (fun u : (Int → Int) × Int => [gMdl K am 0 (am 1) lg mr en pw sl ly dn iz tz nx st tk vl ef ep hO hB ol rm u.2, gArr K 95 (am 1) NF, gArrB K 200 (am 19) u.1])) S C hG [0, 2] (c_X9_writeInt l K am 0 (am 1) lg mr en pw sl ly dn iz tz nx st tk vl ef ep hO hB ol rm (n1 + 1) (upI F1 n1 35) (NF 3) (by omega) (by omega)) rfl rfl 0 rfl rfl (cwV 1 S.2.2.2.2 gX9_writeLayers_X9_writeInt rfl rfl rfl (by decide +kernel) ⟨Nat.le_of_ble_eq_true rfl, Nat.le_of_ble_eq_true rfl⟩) rfl hl.1 rfl (Nat.le_of_ble_eq_true rfl) dX9_writeLayers_90 ⟨Nat.le_of_ble_eq_true rfl, Nat.le_of_ble_eq_true rfl⟩ (fun _ => Nat.le_of_ble_eq_true rfl) (fun _ => rfl) (fun u H locs hp hG => ?_)
          obtain ⟨F2_90, oz2_90⟩ := u
          obtain ⟨hF_90, hz_90⟩ := hp
          have hF_90 : ∀ j : Int, F2_90 j = if (n1 + 1) ≤ j ∧ j < (n1 + 1) + dgs (NF 3) then dgt (NF 3) (j - (n1 + 1)) else (upI F1 n1 35) j := hF_90
          have hz_90 : oz2_90 = (n1 + 1) + dgs (NF 3) := hz_90
          have hG : gW K A s.heap [gMdl K am 0 (am 1) lg mr en pw sl ly dn iz tz nx st tk vl ef ep hO hB ol rm oz2_90, gArr K 95 (am 1) NF, gArrB K 200 (am 19) F2_90] _ _ := hG
          refine lv_aload_n S.1 S.2.1 dX9_writeLayers_93 rfl (lv_at hl 0 rfl) ?_
          refine g_get S C hG iX90 0 rfl rfl 40 (by decide) (List.mem_of_getElem? (i := 2) rfl) rfl dX9_writeLayers_94 ?_
          have hG : gW K A s.heap [gMdl K am 0 (am 1) lg mr en pw sl ly dn iz tz nx st tk vl ef ep hO hB ol rm oz2_90, gArr K 95 (am 1) NF, gArrB K 200 (am 19) F2_90] _ _ := hG
          exact g_iret S hr hlk hQ dX9_writeLayers_97 (Nat.le_of_ble_eq_true rfl) (Nat.le_of_ble_eq_true rfl) ((oz2_90, F2_90) : Int × (Int → Int)) ⟨rfl, (by have z9 := (ho.add 35).numz hF_90 hz_90 <;> unfold layT <;> rw [show (NF 0).toNat = k by omega, if_pos (by omega)] <;> exact z9), (by omega)⟩ hG
      · skip
        have ly9 := lay_bd hN (y := (k : Int)) (by omega) (by omega)
        have ly1 : (1000 ≤ NF (5 + 3 * (k : Int) + 0) ∧ NF (5 + 3 * (k : Int) + 0) ≤ 4000) ∧ (1 ≤ NF (5 + 3 * (k : Int) + 1) ∧ NF (5 + 3 * (k : Int) + 1) ≤ 999) := ⟨ly9.1, ly9.2.1⟩
        have d1 := dgs_bd (NF (5 + 3 * (k : Int) + 0))
        have d2 := dgs_bd (NF (5 + 3 * (k : Int) + 1))
        refine lv_iload_n S.1 S.2.1 dX9_writeLayers_20 rfl (lv_at hl 1 rfl) ?_
        refine g_if_le (tgt := 30) S dX9_writeLayers_21 (by decide) (by omega) (fun q21 => ?_) (fun q21 => ?_)
        · skip
          refine lv_aload_n S.1 S.2.1 dX9_writeLayers_30 rfl (lv_at hl 0 rfl) ?_
          refine lv_aload_n S.1 S.2.1 dX9_writeLayers_31 rfl (lv_at hl 0 rfl) ?_
          refine lv_iload_n S.1 S.2.1 dX9_writeLayers_32 rfl (lv_at hl 1 rfl) ?_
          refine g_iconst S dX9_writeLayers_33 ?_
          refine g_invV (As := [.int (iI w), .int (iI 0)]) (rest := [.ref (am 0)]) (gs' := (fun u : Unit => [gMdl K am 0 (am 1) lg mr en pw sl ly dn iz tz nx st tk vl ef ep hO hB ol rm n1, gArr K 95 (am 1) NF, gArrB K 200 (am 19) F1])) S C hG [0, 1] (c_X9_ofLayer l K am 0 (am 1) lg mr en pw sl ly dn iz tz nx st tk vl ef ep hO hB ol rm n1 NF w 0 (by omega) (by decide)) rfl rfl 0 rfl rfl (cwV 2 S.2.2.2.2 gX9_writeLayers_X9_ofLayer rfl rfl rfl (by decide +kernel) ⟨Nat.le_of_ble_eq_true rfl, Nat.le_of_ble_eq_true rfl⟩) rfl hl.1 rfl (Nat.le_of_ble_eq_true rfl) dX9_writeLayers_34 ⟨Nat.le_of_ble_eq_true rfl, Nat.le_of_ble_eq_true rfl⟩ (fun _ => Nat.le_of_ble_eq_true rfl) (fun _ => rfl) (fun v u H locs hp hG => ?_)
          subst hp
          refine g_top (w := .int (iI (NF (5 + 3 * (k : Int) + 0)))) (congrArg (fun z : Int => Value.int (iI z)) ((by rw [hw.1]))) ?_
          refine g_invVv (As := [.int (iI (NF (5 + 3 * (k : Int) + 0)))]) (rest := []) (gs' := (fun u : (Int → Int) × Int => [gMdl K am 0 (am 1) lg mr en pw sl ly dn iz tz nx st tk vl ef ep hO hB ol rm u.2, gArr K 95 (am 1) NF, gArrB K 200 (am 19) u.1])) S C hG [0, 2] (c_X9_writeInt l K am 0 (am 1) lg mr en pw sl ly dn iz tz nx st tk vl ef ep hO hB ol rm n1 F1 (NF (5 + 3 * (k : Int) + 0)) (by omega) (by omega)) rfl rfl 0 rfl rfl (cwV 1 S.2.2.2.2 gX9_writeLayers_X9_writeInt rfl rfl rfl (by decide +kernel) ⟨Nat.le_of_ble_eq_true rfl, Nat.le_of_ble_eq_true rfl⟩) rfl hl.1 rfl (Nat.le_of_ble_eq_true rfl) dX9_writeLayers_37 ⟨Nat.le_of_ble_eq_true rfl, Nat.le_of_ble_eq_true rfl⟩ (fun _ => Nat.le_of_ble_eq_true rfl) (fun _ => rfl) (fun u H locs hp hG => ?_)
          obtain ⟨F2_37, oz2_37⟩ := u
          obtain ⟨hF_37, hz_37⟩ := hp
          have hF_37 : ∀ j : Int, F2_37 j = if n1 ≤ j ∧ j < n1 + dgs (NF (5 + 3 * (k : Int) + 0)) then dgt (NF (5 + 3 * (k : Int) + 0)) (j - n1) else F1 j := hF_37
          have hz_37 : oz2_37 = n1 + dgs (NF (5 + 3 * (k : Int) + 0)) := hz_37
          have hG : gW K A s.heap [gMdl K am 0 (am 1) lg mr en pw sl ly dn iz tz nx st tk vl ef ep hO hB ol rm oz2_37, gArr K 95 (am 1) NF, gArrB K 200 (am 19) F2_37] _ _ := hG
          refine lv_aload_n S.1 S.2.1 dX9_writeLayers_40 rfl (lv_at hl 0 rfl) ?_
          refine g_bipush S dX9_writeLayers_41 (by decide) ?_
          refine g_invVv (As := [.int (iI 120)]) (rest := []) (gs' := (fun u : Unit => [gMdl K am 0 (am 1) lg mr en pw sl ly dn iz tz nx st tk vl ef ep hO hB ol rm (oz2_37 + 1), gArr K 95 (am 1) NF, gArrB K 200 (am 19) (upI F2_37 oz2_37 120)])) S C hG [0, 2] (c_X9_write l K am 0 (am 1) lg mr en pw sl ly dn iz tz nx st tk vl ef ep hO hB ol rm oz2_37 F2_37 120 (by omega)) rfl rfl 0 rfl rfl (cwV 1 S.2.2.2.2 gX9_writeLayers_X9_write rfl rfl rfl (by decide +kernel) ⟨Nat.le_of_ble_eq_true rfl, Nat.le_of_ble_eq_true rfl⟩) rfl hl.1 rfl (Nat.le_of_ble_eq_true rfl) dX9_writeLayers_43 ⟨Nat.le_of_ble_eq_true rfl, Nat.le_of_ble_eq_true rfl⟩ (fun _ => Nat.le_of_ble_eq_true rfl) (fun _ => rfl) (fun u H locs hp hG => ?_)
          refine lv_aload_n S.1 S.2.1 dX9_writeLayers_46 rfl (lv_at hl 0 rfl) ?_
          refine lv_aload_n S.1 S.2.1 dX9_writeLayers_47 rfl (lv_at hl 0 rfl) ?_
          refine lv_iload_n S.1 S.2.1 dX9_writeLayers_48 rfl (lv_at hl 1 rfl) ?_
          refine g_iconst S dX9_writeLayers_49 ?_
          refine g_invV (As := [.int (iI w), .int (iI 1)]) (rest := [.ref (am 0)]) (gs' := (fun u : Unit => [gMdl K am 0 (am 1) lg mr en pw sl ly dn iz tz nx st tk vl ef ep hO hB ol rm (oz2_37 + 1), gArr K 95 (am 1) NF, gArrB K 200 (am 19) (upI F2_37 oz2_37 120)])) S C hG [0, 1] (c_X9_ofLayer l K am 0 (am 1) lg mr en pw sl ly dn iz tz nx st tk vl ef ep hO hB ol rm (oz2_37 + 1) NF w 1 (by omega) (by decide)) rfl rfl 0 rfl rfl (cwV 2 S.2.2.2.2 gX9_writeLayers_X9_ofLayer rfl rfl rfl (by decide +kernel) ⟨Nat.le_of_ble_eq_true rfl, Nat.le_of_ble_eq_true rfl⟩) rfl hl.1 rfl (Nat.le_of_ble_eq_true rfl) dX9_writeLayers_50 ⟨Nat.le_of_ble_eq_true rfl, Nat.le_of_ble_eq_true rfl⟩ (fun _ => Nat.le_of_ble_eq_true rfl) (fun _ => rfl) (fun v u H locs hp hG => ?_)
          subst hp
          refine g_top (w := .int (iI (NF (5 + 3 * (k : Int) + 1)))) (congrArg (fun z : Int => Value.int (iI z)) ((by rw [hw.1]))) ?_
          refine g_invVv (As := [.int (iI (NF (5 + 3 * (k : Int) + 1)))]) (rest := []) (gs' := (fun u : (Int → Int) × Int => [gMdl K am 0 (am 1) lg mr en pw sl ly dn iz tz nx st tk vl ef ep hO hB ol rm u.2, gArr K 95 (am 1) NF, gArrB K 200 (am 19) u.1])) S C hG [0, 2] (c_X9_writeInt l K am 0 (am 1) lg mr en pw sl ly dn iz tz nx st tk vl ef ep hO hB ol rm (oz2_37 + 1) (upI F2_37 oz2_37 120) (NF (5 + 3 * (k : Int) + 1)) (by omega) (by omega)) rfl rfl 0 rfl rfl (cwV 1 S.2.2.2.2 gX9_writeLayers_X9_writeInt rfl rfl rfl (by decide +kernel) ⟨Nat.le_of_ble_eq_true rfl, Nat.le_of_ble_eq_true rfl⟩) rfl hl.1 rfl (Nat.le_of_ble_eq_true rfl) dX9_writeLayers_53 ⟨Nat.le_of_ble_eq_true rfl, Nat.le_of_ble_eq_true rfl⟩ (fun _ => Nat.le_of_ble_eq_true rfl) (fun _ => rfl) (fun u H locs hp hG => ?_)
          obtain ⟨F2_53, oz2_53⟩ := u
          obtain ⟨hF_53, hz_53⟩ := hp
          have hF_53 : ∀ j : Int, F2_53 j = if (oz2_37 + 1) ≤ j ∧ j < (oz2_37 + 1) + dgs (NF (5 + 3 * (k : Int) + 1)) then dgt (NF (5 + 3 * (k : Int) + 1)) (j - (oz2_37 + 1)) else (upI F2_37 oz2_37 120) j := hF_53
          have hz_53 : oz2_53 = (oz2_37 + 1) + dgs (NF (5 + 3 * (k : Int) + 1)) := hz_53
          have hG : gW K A s.heap [gMdl K am 0 (am 1) lg mr en pw sl ly dn iz tz nx st tk vl ef ep hO hB ol rm oz2_53, gArr K 95 (am 1) NF, gArrB K 200 (am 19) F2_53] _ _ := hG
          refine lv_iinc (v := iI (w + 1)) (lv' := [(1, .int (iI (w + 1))), (0, .ref (am 0))]) S.1 S.2.1 dX9_writeLayers_56 hl (k := 1) rfl (g_iinc rfl) (by decide) rfl (fun ls hl => ?_)
          refine lv_goto (tgt := 12) S.1 S.2.1 dX9_writeLayers_59 (by decide) ?_
          exact ih (k + 1) (w + 1) oz2_53 F2_53 _ _ _ (by omega) ⟨by omega, by omega⟩ (by have z9 := (((ho.numz hF_37 hz_37).add 120).numz hF_53 hz_53) <;> simp only [lyT] <;> rw [if_neg (by omega)] <;> simpa [List.append_assoc] using z9) (by omega) (lv_sub hl [1, 0] rfl) hG
        · skip
          refine lv_aload_n S.1 S.2.1 dX9_writeLayers_24 rfl (lv_at hl 0 rfl) ?_
          refine g_bipush S dX9_writeLayers_25 (by decide) ?_
          refine g_invVv (As := [.int (iI 47)]) (rest := []) (gs' := (fun u : Unit => [gMdl K am 0 (am 1) lg mr en pw sl ly dn iz tz nx st tk vl ef ep hO hB ol rm (n1 + 1), gArr K 95 (am 1) NF, gArrB K 200 (am 19) (upI F1 n1 47)])) S C hG [0, 2] (c_X9_write l K am 0 (am 1) lg mr en pw sl ly dn iz tz nx st tk vl ef ep hO hB ol rm n1 F1 47 (by omega)) rfl rfl 0 rfl rfl (cwV 1 S.2.2.2.2 gX9_writeLayers_X9_write rfl rfl rfl (by decide +kernel) ⟨Nat.le_of_ble_eq_true rfl, Nat.le_of_ble_eq_true rfl⟩) rfl hl.1 rfl (Nat.le_of_ble_eq_true rfl) dX9_writeLayers_27 ⟨Nat.le_of_ble_eq_true rfl, Nat.le_of_ble_eq_true rfl⟩ (fun _ => Nat.le_of_ble_eq_true rfl) (fun _ => rfl) (fun u H locs hp hG => ?_)
          refine lv_aload_n S.1 S.2.1 dX9_writeLayers_30 rfl (lv_at hl 0 rfl) ?_
          refine lv_aload_n S.1 S.2.1 dX9_writeLayers_31 rfl (lv_at hl 0 rfl) ?_
          refine lv_iload_n S.1 S.2.1 dX9_writeLayers_32 rfl (lv_at hl 1 rfl) ?_
          refine g_iconst S dX9_writeLayers_33 ?_
          refine g_invV (As := [.int (iI w), .int (iI 0)]) (rest := [.ref (am 0)]) (gs' := (fun u : Unit => [gMdl K am 0 (am 1) lg mr en pw sl ly dn iz tz nx st tk vl ef ep hO hB ol rm (n1 + 1), gArr K 95 (am 1) NF, gArrB K 200 (am 19) (upI F1 n1 47)])) S C hG [0, 1] (c_X9_ofLayer l K am 0 (am 1) lg mr en pw sl ly dn iz tz nx st tk vl ef ep hO hB ol rm (n1 + 1) NF w 0 (by omega) (by decide)) rfl rfl 0 rfl rfl (cwV 2 S.2.2.2.2 gX9_writeLayers_X9_ofLayer rfl rfl rfl (by decide +kernel) ⟨Nat.le_of_ble_eq_true rfl, Nat.le_of_ble_eq_true rfl⟩) rfl hl.1 rfl (Nat.le_of_ble_eq_true rfl) dX9_writeLayers_34 ⟨Nat.le_of_ble_eq_true rfl, Nat.le_of_ble_eq_true rfl⟩ (fun _ => Nat.le_of_ble_eq_true rfl) (fun _ => rfl) (fun v u H locs hp hG => ?_)
          subst hp
          refine g_top (w := .int (iI (NF (5 + 3 * (k : Int) + 0)))) (congrArg (fun z : Int => Value.int (iI z)) ((by rw [hw.1]))) ?_
          refine g_invVv (As := [.int (iI (NF (5 + 3 * (k : Int) + 0)))]) (rest := []) (gs' := (fun u : (Int → Int) × Int => [gMdl K am 0 (am 1) lg mr en pw sl ly dn iz tz nx st tk vl ef ep hO hB ol rm u.2, gArr K 95 (am 1) NF, gArrB K 200 (am 19) u.1])) S C hG [0, 2] (c_X9_writeInt l K am 0 (am 1) lg mr en pw sl ly dn iz tz nx st tk vl ef ep hO hB ol rm (n1 + 1) (upI F1 n1 47) (NF (5 + 3 * (k : Int) + 0)) (by omega) (by omega)) rfl rfl 0 rfl rfl (cwV 1 S.2.2.2.2 gX9_writeLayers_X9_writeInt rfl rfl rfl (by decide +kernel) ⟨Nat.le_of_ble_eq_true rfl, Nat.le_of_ble_eq_true rfl⟩) rfl hl.1 rfl (Nat.le_of_ble_eq_true rfl) dX9_writeLayers_37 ⟨Nat.le_of_ble_eq_true rfl, Nat.le_of_ble_eq_true rfl⟩ (fun _ => Nat.le_of_ble_eq_true rfl) (fun _ => rfl) (fun u H locs hp hG => ?_)
          obtain ⟨F2_37, oz2_37⟩ := u
          obtain ⟨hF_37, hz_37⟩ := hp
          have hF_37 : ∀ j : Int, F2_37 j = if (n1 + 1) ≤ j ∧ j < (n1 + 1) + dgs (NF (5 + 3 * (k : Int) + 0)) then dgt (NF (5 + 3 * (k : Int) + 0)) (j - (n1 + 1)) else (upI F1 n1 47) j := hF_37
          have hz_37 : oz2_37 = (n1 + 1) + dgs (NF (5 + 3 * (k : Int) + 0)) := hz_37
          have hG : gW K A s.heap [gMdl K am 0 (am 1) lg mr en pw sl ly dn iz tz nx st tk vl ef ep hO hB ol rm oz2_37, gArr K 95 (am 1) NF, gArrB K 200 (am 19) F2_37] _ _ := hG
          refine lv_aload_n S.1 S.2.1 dX9_writeLayers_40 rfl (lv_at hl 0 rfl) ?_
          refine g_bipush S dX9_writeLayers_41 (by decide) ?_
          refine g_invVv (As := [.int (iI 120)]) (rest := []) (gs' := (fun u : Unit => [gMdl K am 0 (am 1) lg mr en pw sl ly dn iz tz nx st tk vl ef ep hO hB ol rm (oz2_37 + 1), gArr K 95 (am 1) NF, gArrB K 200 (am 19) (upI F2_37 oz2_37 120)])) S C hG [0, 2] (c_X9_write l K am 0 (am 1) lg mr en pw sl ly dn iz tz nx st tk vl ef ep hO hB ol rm oz2_37 F2_37 120 (by omega)) rfl rfl 0 rfl rfl (cwV 1 S.2.2.2.2 gX9_writeLayers_X9_write rfl rfl rfl (by decide +kernel) ⟨Nat.le_of_ble_eq_true rfl, Nat.le_of_ble_eq_true rfl⟩) rfl hl.1 rfl (Nat.le_of_ble_eq_true rfl) dX9_writeLayers_43 ⟨Nat.le_of_ble_eq_true rfl, Nat.le_of_ble_eq_true rfl⟩ (fun _ => Nat.le_of_ble_eq_true rfl) (fun _ => rfl) (fun u H locs hp hG => ?_)
          refine lv_aload_n S.1 S.2.1 dX9_writeLayers_46 rfl (lv_at hl 0 rfl) ?_
          refine lv_aload_n S.1 S.2.1 dX9_writeLayers_47 rfl (lv_at hl 0 rfl) ?_
          refine lv_iload_n S.1 S.2.1 dX9_writeLayers_48 rfl (lv_at hl 1 rfl) ?_
          refine g_iconst S dX9_writeLayers_49 ?_
          refine g_invV (As := [.int (iI w), .int (iI 1)]) (rest := [.ref (am 0)]) (gs' := (fun u : Unit => [gMdl K am 0 (am 1) lg mr en pw sl ly dn iz tz nx st tk vl ef ep hO hB ol rm (oz2_37 + 1), gArr K 95 (am 1) NF, gArrB K 200 (am 19) (upI F2_37 oz2_37 120)])) S C hG [0, 1] (c_X9_ofLayer l K am 0 (am 1) lg mr en pw sl ly dn iz tz nx st tk vl ef ep hO hB ol rm (oz2_37 + 1) NF w 1 (by omega) (by decide)) rfl rfl 0 rfl rfl (cwV 2 S.2.2.2.2 gX9_writeLayers_X9_ofLayer rfl rfl rfl (by decide +kernel) ⟨Nat.le_of_ble_eq_true rfl, Nat.le_of_ble_eq_true rfl⟩) rfl hl.1 rfl (Nat.le_of_ble_eq_true rfl) dX9_writeLayers_50 ⟨Nat.le_of_ble_eq_true rfl, Nat.le_of_ble_eq_true rfl⟩ (fun _ => Nat.le_of_ble_eq_true rfl) (fun _ => rfl) (fun v u H locs hp hG => ?_)
          subst hp
          refine g_top (w := .int (iI (NF (5 + 3 * (k : Int) + 1)))) (congrArg (fun z : Int => Value.int (iI z)) ((by rw [hw.1]))) ?_
          refine g_invVv (As := [.int (iI (NF (5 + 3 * (k : Int) + 1)))]) (rest := []) (gs' := (fun u : (Int → Int) × Int => [gMdl K am 0 (am 1) lg mr en pw sl ly dn iz tz nx st tk vl ef ep hO hB ol rm u.2, gArr K 95 (am 1) NF, gArrB K 200 (am 19) u.1])) S C hG [0, 2] (c_X9_writeInt l K am 0 (am 1) lg mr en pw sl ly dn iz tz nx st tk vl ef ep hO hB ol rm (oz2_37 + 1) (upI F2_37 oz2_37 120) (NF (5 + 3 * (k : Int) + 1)) (by omega) (by omega)) rfl rfl 0 rfl rfl (cwV 1 S.2.2.2.2 gX9_writeLayers_X9_writeInt rfl rfl rfl (by decide +kernel) ⟨Nat.le_of_ble_eq_true rfl, Nat.le_of_ble_eq_true rfl⟩) rfl hl.1 rfl (Nat.le_of_ble_eq_true rfl) dX9_writeLayers_53 ⟨Nat.le_of_ble_eq_true rfl, Nat.le_of_ble_eq_true rfl⟩ (fun _ => Nat.le_of_ble_eq_true rfl) (fun _ => rfl) (fun u H locs hp hG => ?_)
          obtain ⟨F2_53, oz2_53⟩ := u
          obtain ⟨hF_53, hz_53⟩ := hp
          have hF_53 : ∀ j : Int, F2_53 j = if (oz2_37 + 1) ≤ j ∧ j < (oz2_37 + 1) + dgs (NF (5 + 3 * (k : Int) + 1)) then dgt (NF (5 + 3 * (k : Int) + 1)) (j - (oz2_37 + 1)) else (upI F2_37 oz2_37 120) j := hF_53
          have hz_53 : oz2_53 = (oz2_37 + 1) + dgs (NF (5 + 3 * (k : Int) + 1)) := hz_53
          have hG : gW K A s.heap [gMdl K am 0 (am 1) lg mr en pw sl ly dn iz tz nx st tk vl ef ep hO hB ol rm oz2_53, gArr K 95 (am 1) NF, gArrB K 200 (am 19) F2_53] _ _ := hG
          refine lv_iinc (v := iI (w + 1)) (lv' := [(1, .int (iI (w + 1))), (0, .ref (am 0))]) S.1 S.2.1 dX9_writeLayers_56 hl (k := 1) rfl (g_iinc rfl) (by decide) rfl (fun ls hl => ?_)
          refine lv_goto (tgt := 12) S.1 S.2.1 dX9_writeLayers_59 (by decide) ?_
          exact ih (k + 1) (w + 1) oz2_53 F2_53 _ _ _ (by omega) ⟨by omega, by omega⟩ (by have z9 := ((((ho.add 47).numz hF_37 hz_37).add 120).numz hF_53 hz_53) <;> simp only [lyT] <;> rw [if_pos (by omega)] <;> simpa [List.append_assoc] using z9) (by omega) (lv_sub hl [1, 0] rfl) hG
  exact L12 (Nat.succ ((NF 0 - 0).toNat)) 0 0 0 OF _ _ _ (Nat.lt_succ_self _) ⟨rfl, by omega⟩ (OutI.nil OF) (by omega) (lv_sub hl [1, 0] rfl) hG

set_option maxHeartbeats 1000000 in
set_option maxRecDepth 100000 in
theorem c_X9_writePath (l : Launch) (K : KC) (am : Nat → Nat) (th : Int) (lg : Int) (mr : Int) (en : Int) (pw : Int) (sl : Int) (ly : Int) (dn : Int) (iz : Int) (tz : Int) (nx : Int) (st : Int) (tk : Int) (vl : Int) (ef : Int) (ep : Int) (hO : Int) (hB : Int) (ol : Int) (rm : Int) (oz : Int) (NF : Int → Int) (A0 : Int → Int) (A1 : Int → Int) (A2 : Int → Int) (A3 : Int → Int) (A4 : Int → Int) (A5 : Int → Int) (A6 : Int → Int) (OF : Int → Int) (x : Int) (hN : NOk0 NF) (hx : -2147483648 ≤ x ∧ x < 2147483648) : mG l yX9_writePath wsX9_writePath 6 135 K [.ref (am 0), .int (iI x)] [gMdl K am th (am 1) lg mr en pw sl ly dn iz tz nx st tk vl ef ep hO hB ol rm oz, gArr K 95 (am 1) NF, gArr K 60 (am 3) A0, gArrZ K 60 (am 4) A1, gArr K 60 (am 5) A2, gArr K 60 (am 6) A3, gArr K 60 (am 7) A4, gArr K 60 (am 8) A5, gArr K 60 (am 9) A6, gArrB K 200 (am 19) OF] (fun (v : Value) (u : Int × Int × Int × Int × Int × Int × Int × Int × (Int → Int) × (Int → Int) × (Int → Int) × (Int → Int) × (Int → Int) × (Int → Int) × (Int → Int) × Int × (Int → Int)) => (v = .int (iI u.1)) ∧ (0 ≤ x ∧ x < NF 4 → u.1 = u.2.2.2.2.2.2.2.2.2.2.2.2.2.2.2.1 ∧ OutI u.2.2.2.2.2.2.2.2.2.2.2.2.2.2.2.2 u.2.2.2.2.2.2.2.2.2.2.2.2.2.2.2.1 (pthT NF x) ∧ 0 ≤ u.2.2.2.2.2.2.2.2.2.2.2.2.2.2.2.1 ∧ u.2.2.2.2.2.2.2.2.2.2.2.2.2.2.2.1 ≤ 122)) (fun (u : Int × Int × Int × Int × Int × Int × Int × Int × (Int → Int) × (Int → Int) × (Int → Int) × (Int → Int) × (Int → Int) × (Int → Int) × (Int → Int) × Int × (Int → Int)) => [gMdl K am (thr (bI (0 ≤ x ∧ x < NF 4)) 1 1) (am 1) u.2.1 u.2.2.1 u.2.2.2.1 u.2.2.2.2.1 u.2.2.2.2.2.1 u.2.2.2.2.2.2.1 u.2.2.2.2.2.2.2.1 iz tz nx st tk vl ef ep hO hB ol rm u.2.2.2.2.2.2.2.2.2.2.2.2.2.2.2.1, gArr K 95 (am 1) NF, gArr K 60 (am 3) u.2.2.2.2.2.2.2.2.1, gArrZ K 60 (am 4) u.2.2.2.2.2.2.2.2.2.1, gArr K 60 (am 5) u.2.2.2.2.2.2.2.2.2.2.1, gArr K 60 (am 6) u.2.2.2.2.2.2.2.2.2.2.2.1, gArr K 60 (am 7) u.2.2.2.2.2.2.2.2.2.2.2.2.1, gArr K 60 (am 8) u.2.2.2.2.2.2.2.2.2.2.2.2.2.1, gArr K 60 (am 9) u.2.2.2.2.2.2.2.2.2.2.2.2.2.2.1, gArrB K 200 (am 19) u.2.2.2.2.2.2.2.2.2.2.2.2.2.2.2.2]) 0 0 := by
  refine mG_of cX9_writePath 3 (by decide) rfl (Nat.le_of_ble_eq_true rfl) ?_
  intro p e s m below meth c A ls Q S C hG hl hr hlk hin hQ
  have S : CallFix p m c cX9_writePath 3 s ([.ref (am 0), .int (iI x)] : List Value).toArray wsX9_writePath RX9 := S
  have iX90 : ∀ w ∈ wsX90, w ∈ wsX9_writePath := fun _ h => List.mem_cons_of_mem _ (List.mem_append_right _ (h))
  have hl : lv_has ls 3 [(0, .ref (am 0)), (1, .int (iI x))] := hl
  have hG : gW K A s.heap [gMdl K am th (am 1) lg mr en pw sl ly dn iz tz nx st tk vl ef ep hO hB ol rm oz, gArr K 95 (am 1) NF, gArr K 60 (am 3) A0, gArrZ K 60 (am 4) A1, gArr K 60 (am 5) A2, gArr K 60 (am 6) A3, gArr K 60 (am 7) A4, gArr K 60 (am 8) A5, gArr K 60 (am 9) A6, gArrB K 200 (am 19) OF] s.heap [] := hG
  have n0 := hN.1
  have n3 := hN.2.2.2.1
  have hT := tx_tbarn
  refine lv_aload_n S.1 S.2.1 dX9_writePath_0 rfl (lv_at hl 0 rfl) ?_
  refine lv_aload_n S.1 S.2.1 dX9_writePath_1 rfl (lv_at hl 0 rfl) ?_
  refine lv_iload_n S.1 S.2.1 dX9_writePath_2 rfl (lv_at hl 1 rfl) ?_
  refine g_invV (As := [.int (iI x)]) (rest := [.ref (am 0)]) (gs' := (fun u : Unit => [gMdl K am th (am 1) lg mr en pw sl ly dn iz tz nx st tk vl ef ep hO hB ol rm oz, gArr K 95 (am 1) NF, gArr K 60 (am 3) A0, gArrZ K 60 (am 4) A1, gArr K 60 (am 5) A2, gArr K 60 (am 6) A3, gArr K 60 (am 7) A4, gArr K 60 (am 8) A5, gArr K 60 (am 9) A6, gArrB K 200 (am 19) OF])) S C hG [0, 1] (c_X9_isShot l K am th (am 1) lg mr en pw sl ly dn iz tz nx st tk vl ef ep hO hB ol rm oz NF x hN hx) rfl rfl 0 rfl rfl (cwV 1 S.2.2.2.2 gX9_writePath_X9_isShot rfl rfl rfl (by decide +kernel) ⟨Nat.le_of_ble_eq_true rfl, Nat.le_of_ble_eq_true rfl⟩) rfl hl.1 rfl (Nat.le_of_ble_eq_true rfl) dX9_writePath_3 ⟨Nat.le_of_ble_eq_true rfl, Nat.le_of_ble_eq_true rfl⟩ (fun _ => Nat.le_of_ble_eq_true rfl) (fun _ => rfl) (fun v u H locs hp hG => ?_)
  subst hp
  refine g_invV (As := [.int (iI (bI (0 ≤ x ∧ x < NF 4)))]) (rest := []) (gs' := (fun u : Unit => [gMdl K am (thr (bI (0 ≤ x ∧ x < NF 4)) 1 1) (am 1) lg mr en pw sl ly dn iz tz nx st tk vl ef ep hO hB ol rm oz, gArr K 95 (am 1) NF, gArr K 60 (am 3) A0, gArrZ K 60 (am 4) A1, gArr K 60 (am 5) A2, gArr K 60 (am 6) A3, gArr K 60 (am 7) A4, gArr K 60 (am 8) A5, gArr K 60 (am 9) A6, gArrB K 200 (am 19) OF])) S C hG [0] (c_X9_passes l K am th (am 1) lg mr en pw sl ly dn iz tz nx st tk vl ef ep hO hB ol rm oz (bI (0 ≤ x ∧ x < NF 4)) (bI_01 _)) rfl rfl 0 rfl rfl (cwV 1 S.2.2.2.2 gX9_writePath_X9_passes rfl rfl rfl (by decide +kernel) ⟨Nat.le_of_ble_eq_true rfl, Nat.le_of_ble_eq_true rfl⟩) rfl hl.1 rfl (Nat.le_of_ble_eq_true rfl) dX9_writePath_6 ⟨Nat.le_of_ble_eq_true rfl, Nat.le_of_ble_eq_true rfl⟩ (fun _ => Nat.le_of_ble_eq_true rfl) (fun _ => rfl) (fun v u H locs hp hG => ?_)
  subst hp
  refine g_ifne_b (B := ((bI (0 ≤ x ∧ x < NF 4)) = 1)) (tgt := 14) S dX9_writePath_9 (by decide) (fun q9 => ?_) (fun q9 => ?_)
  · skip
    have qa := bI1 q9
    refine lv_aload_n S.1 S.2.1 dX9_writePath_14 rfl (lv_at hl 0 rfl) ?_
    refine lv_iload_n S.1 S.2.1 dX9_writePath_15 rfl (lv_at hl 1 rfl) ?_
    refine g_invVv (As := [.int (iI x)]) (rest := []) (gs' := (fun u : Int × Int × Int × Int × Int × Int × Int × (Int → Int) × (Int → Int) × (Int → Int) × (Int → Int) × (Int → Int) × (Int → Int) × (Int → Int) => [gMdl K am (thr (bI (0 ≤ x ∧ x < NF 4)) 1 1) (am 1) u.1 u.2.1 u.2.2.1 u.2.2.2.1 u.2.2.2.2.1 u.2.2.2.2.2.1 u.2.2.2.2.2.2.1 iz tz nx st tk vl ef ep hO hB ol rm oz, gArr K 95 (am 1) NF, gArr K 60 (am 3) u.2.2.2.2.2.2.2.1, gArrZ K 60 (am 4) u.2.2.2.2.2.2.2.2.1, gArr K 60 (am 5) u.2.2.2.2.2.2.2.2.2.1, gArr K 60 (am 6) u.2.2.2.2.2.2.2.2.2.2.1, gArr K 60 (am 7) u.2.2.2.2.2.2.2.2.2.2.2.1, gArr K 60 (am 8) u.2.2.2.2.2.2.2.2.2.2.2.2.1, gArr K 60 (am 9) u.2.2.2.2.2.2.2.2.2.2.2.2.2, gArrB K 200 (am 19) OF])) S C hG [0, 1, 2, 3, 4, 5, 6, 7, 8] (c_X9_followShot l K am (thr (bI (0 ≤ x ∧ x < NF 4)) 1 1) (am 1) lg mr en pw sl ly dn iz tz nx st tk vl ef ep hO hB ol rm oz NF A0 A1 A2 A3 A4 A5 A6 x hN qa) rfl rfl 0 rfl rfl (cwV 1 S.2.2.2.2 gX9_writePath_X9_followShot rfl rfl rfl (by decide +kernel) ⟨Nat.le_of_ble_eq_true rfl, Nat.le_of_ble_eq_true rfl⟩) rfl hl.1 rfl (Nat.le_of_ble_eq_true rfl) dX9_writePath_16 ⟨Nat.le_of_ble_eq_true rfl, Nat.le_of_ble_eq_true rfl⟩ (fun _ => Nat.le_of_ble_eq_true rfl) (fun _ => rfl) (fun u H locs hp hG => ?_)
    obtain ⟨lg2_16, mr2_16, en2_16, pw2_16, sl2_16, ly2_16, dn2_16, B0_16, B1_16, B2_16, B3_16, B4_16, B5_16, B6_16⟩ := u
    have hf_16 := hp
    have hf_16 : FolS NF x lg2_16 mr2_16 en2_16 pw2_16 B0_16 B1_16 B2_16 B3_16 B4_16 B5_16 B6_16 := hf_16
    have hG : gW K A s.heap [gMdl K am (thr (bI (0 ≤ x ∧ x < NF 4)) 1 1) (am 1) lg2_16 mr2_16 en2_16 pw2_16 sl2_16 ly2_16 dn2_16 iz tz nx st tk vl ef ep hO hB ol rm oz, gArr K 95 (am 1) NF, gArr K 60 (am 3) B0_16, gArrZ K 60 (am 4) B1_16, gArr K 60 (am 5) B2_16, gArr K 60 (am 6) B3_16, gArr K 60 (am 7) B4_16, gArr K 60 (am 8) B5_16, gArr K 60 (am 9) B6_16, gArrB K 200 (am 19) OF] _ _ := hG
    have sb := sho_bd hN qa.1 qa.2
    obtain ⟨f1, f2, f3, f4⟩ := hf_16.bd hN sb.2.2.1 sb.2.1
    have g9 : lg2_16 = (gS NF x : Int) := hf_16.1
    have e9 : en2_16 = eS NF x := hf_16.2.2.1
    refine lv_aload_n S.1 S.2.1 dX9_writePath_19 rfl (lv_at hl 0 rfl) ?_
    refine g_iconst S dX9_writePath_20 ?_
    refine g_put (gs' := [gMdl K am (thr (bI (0 ≤ x ∧ x < NF 4)) 1 1) (am 1) lg2_16 mr2_16 en2_16 pw2_16 sl2_16 ly2_16 dn2_16 iz tz nx st tk vl ef ep hO hB ol rm 0, gArr K 95 (am 1) NF, gArr K 60 (am 3) B0_16, gArrZ K 60 (am 4) B1_16, gArr K 60 (am 5) B2_16, gArr K 60 (am 6) B3_16, gArr K 60 (am 7) B4_16, gArr K 60 (am 8) B5_16, gArr K 60 (am 9) B6_16, gArrB K 200 (am 19) OF]) S C hG iX90 tyX9 tyX9_ok nmX9 0 rfl rfl 40 (by decide) (List.mem_of_getElem? (i := 1) rfl) rfl rfl rfl (Nat.le_of_ble_eq_true rfl) rfl dX9_writePath_21 (fun H locs hG => ?_)
    refine g_iconst S dX9_writePath_24 ?_
    refine lv_istore_n (lv' := [(2, .int (iI 0)), (0, .ref (am 0)), (1, .int (iI x))]) S.1 S.2.1 dX9_writePath_25 rfl hl (by decide) rfl (fun ls hl => ?_)
    have L26 : ∀ (fu : Nat) (k : Nat) (w : Int) (n1 : Int) (F1 : Int → Int) (H : Heap) (locs : List Loc) (ls : Array Slot), ((lg2_16 - w).toNat) < fu → (w = (k : Int) ∧ w ≤ lg2_16) → (OutI F1 n1 (lgT NF x k)) → (0 ≤ n1 ∧ n1 ≤ 2 * w) → lv_has ls 3 [(0, .ref (am 0)), (1, .int (iI x)), (2, .int (iI w))] → gW K A s.heap [gMdl K am (thr (bI (0 ≤ x ∧ x < NF 4)) 1 1) (am 1) lg2_16 mr2_16 en2_16 pw2_16 sl2_16 ly2_16 dn2_16 iz tz nx st tk vl ef ep hO hB ol rm n1, gArr K 95 (am 1) NF, gArr K 60 (am 3) B0_16, gArrZ K 60 (am 4) B1_16, gArr K 60 (am 5) B2_16, gArr K 60 (am 6) B3_16, gArr K 60 (am 7) B4_16, gArr K 60 (am 8) B5_16, gArr K 60 (am 9) B6_16, gArrB K 200 (am 19) F1] H locs → W p l e { frames := 6, cells := 0, slots := 0, locals := 135 } s m ([.ref (am 0), .int (iI x)] : List Value).toArray below meth c H locs 0 0 Q (F0 m 26 ls []) := by
      intro fu
      induction fu with
      | zero => intro k w n1 F1 H locs ls hfu; exact absurd hfu (Nat.not_lt_zero _)
      | succ fu ih =>
        intro k w n1 F1 H locs ls hfu hw ho hn hl hG
        refine lv_iload_n S.1 S.2.1 dX9_writePath_26 rfl (lv_at hl 2 rfl) ?_
        refine lv_aload_n S.1 S.2.1 dX9_writePath_27 rfl (lv_at hl 0 rfl) ?_
        refine g_get S C hG iX90 0 rfl rfl 11 (by decide) (List.mem_of_getElem? (i := 2) rfl) rfl dX9_writePath_28 ?_
        refine g_icmp_ge (tgt := 70) S dX9_writePath_31 (by decide) (by omega) (by omega) (fun q31 => ?_) (fun q31 => ?_)
        · skip
          refine lv_aload_n S.1 S.2.1 dX9_writePath_70 rfl (lv_at hl 0 rfl) ?_
          refine g_ldcSW (q := K.2.2.2.1 28) S.1 S.2.1 S.2.2.2.1 (C.1.2.2.1 (RX9, 456, "tbarn", 28) sw_40) dX9_writePath_71 ?_
          refine lv_aload_n S.1 S.2.1 dX9_writePath_74 rfl (lv_at hl 0 rfl) ?_
          refine g_get S C hG iX90 0 rfl rfl 13 (by decide) (List.mem_of_getElem? (i := 5) rfl) rfl dX9_writePath_75 ?_
          refine g_invVO (As := [.int (iI en2_16)]) (rest := [.ref (am 0)]) (gs' := (fun u : Unit => [gMdl K am (thr (bI (0 ≤ x ∧ x < NF 4)) 1 1) (am 1) lg2_16 mr2_16 en2_16 pw2_16 sl2_16 ly2_16 dn2_16 iz tz nx st tk vl ef ep hO hB ol rm n1, gArr K 95 (am 1) NF, gArr K 60 (am 3) B0_16, gArrZ K 60 (am 4) B1_16, gArr K 60 (am 5) B2_16, gArr K 60 (am 6) B3_16, gArr K 60 (am 7) B4_16, gArr K 60 (am 8) B5_16, gArr K 60 (am 9) B6_16, gArrB K 200 (am 19) F1])) S C hG [] (c_J0_charAt_5068e l K 28 ([116, 98, 97, 114, 110]) en2_16 tx_tbarn (by decide) ⟨by omega, by show en2_16 < 5 <;> omega⟩) rfl rfl hT (cwV 1 S.2.2.2.2 gX9_writePath_J0_charAt_5068e rfl rfl rfl (by decide +kernel) ⟨Nat.le_of_ble_eq_true rfl, Nat.le_of_ble_eq_true rfl⟩) rfl hl.1 rfl (Nat.le_of_ble_eq_true rfl) dX9_writePath_78 ⟨Nat.le_of_ble_eq_true rfl, Nat.le_of_ble_eq_true rfl⟩ (fun _ => Nat.le_of_ble_eq_true rfl) (fun _ => rfl) (fun v u H locs hp hG => ?_)
          subst hp
          refine g_invVv (As := [.int (iI (([116, 98, 97, 114, 110]).getD en2_16.toNat 0))]) (rest := []) (gs' := (fun u : Unit => [gMdl K am (thr (bI (0 ≤ x ∧ x < NF 4)) 1 1) (am 1) lg2_16 mr2_16 en2_16 pw2_16 sl2_16 ly2_16 dn2_16 iz tz nx st tk vl ef ep hO hB ol rm (n1 + 1), gArr K 95 (am 1) NF, gArr K 60 (am 3) B0_16, gArrZ K 60 (am 4) B1_16, gArr K 60 (am 5) B2_16, gArr K 60 (am 6) B3_16, gArr K 60 (am 7) B4_16, gArr K 60 (am 8) B5_16, gArr K 60 (am 9) B6_16, gArrB K 200 (am 19) (upI F1 n1 (([116, 98, 97, 114, 110]).getD en2_16.toNat 0))])) S C hG [0, 9] (c_X9_write l K am (thr (bI (0 ≤ x ∧ x < NF 4)) 1 1) (am 1) lg2_16 mr2_16 en2_16 pw2_16 sl2_16 ly2_16 dn2_16 iz tz nx st tk vl ef ep hO hB ol rm n1 F1 (([116, 98, 97, 114, 110]).getD en2_16.toNat 0) (by omega)) rfl rfl 0 rfl rfl (cwV 1 S.2.2.2.2 gX9_writePath_X9_write rfl rfl rfl (by decide +kernel) ⟨Nat.le_of_ble_eq_true rfl, Nat.le_of_ble_eq_true rfl⟩) rfl hl.1 rfl (Nat.le_of_ble_eq_true rfl) dX9_writePath_81 ⟨Nat.le_of_ble_eq_true rfl, Nat.le_of_ble_eq_true rfl⟩ (fun _ => Nat.le_of_ble_eq_true rfl) (fun _ => rfl) (fun u H locs hp hG => ?_)
          refine lv_aload_n S.1 S.2.1 dX9_writePath_84 rfl (lv_at hl 0 rfl) ?_
          refine g_get S C hG iX90 0 rfl rfl 40 (by decide) (List.mem_of_getElem? (i := 1) rfl) rfl dX9_writePath_85 ?_
          have hG : gW K A s.heap [gMdl K am (thr (bI (0 ≤ x ∧ x < NF 4)) 1 1) (am 1) lg2_16 mr2_16 en2_16 pw2_16 sl2_16 ly2_16 dn2_16 iz tz nx st tk vl ef ep hO hB ol rm (n1 + 1), gArr K 95 (am 1) NF, gArr K 60 (am 3) B0_16, gArrZ K 60 (am 4) B1_16, gArr K 60 (am 5) B2_16, gArr K 60 (am 6) B3_16, gArr K 60 (am 7) B4_16, gArr K 60 (am 8) B5_16, gArr K 60 (am 9) B6_16, gArrB K 200 (am 19) (upI F1 n1 (([116, 98, 97, 114, 110]).getD en2_16.toNat 0))] _ _ := hG
          exact g_iret S hr hlk hQ dX9_writePath_88 (Nat.le_of_ble_eq_true rfl) (Nat.le_of_ble_eq_true rfl) (((n1 + 1), lg2_16, mr2_16, en2_16, pw2_16, sl2_16, ly2_16, dn2_16, B0_16, B1_16, B2_16, B3_16, B4_16, B5_16, B6_16, n1 + 1, upI F1 n1 (([116, 98, 97, 114, 110]).getD en2_16.toNat 0)) : Int × Int × Int × Int × Int × Int × Int × Int × (Int → Int) × (Int → Int) × (Int → Int) × (Int → Int) × (Int → Int) × (Int → Int) × (Int → Int) × Int × (Int → Int)) ⟨rfl, (fun _ => ⟨rfl, by have z9 := ho.add ([116, 98, 97, 114, 110].getD en2_16.toNat 0) <;> unfold pthT <;> rw [show gS NF x = k by omega, show eS NF x = en2_16 from e9.symm] <;> exact z9, by show 0 ≤ n1 + 1 ∧ n1 + 1 ≤ 122 <;> omega⟩)⟩ hG
        · skip
          have q4 := f4 (k : Int) (by omega) (by omega)
          obtain ⟨a0, a1, a2, a4⟩ := hf_16.at0 (k := k) (by omega)
          rw [a0, a1] at q4
          have d1 := dgs_bd (ykS NF x k)
          have d2 : dgs (ykS NF x k) = 1 := by (unfold dgs <;> rw [if_neg (by omega), if_neg (by omega), if_neg (by omega)])
          refine lv_aload_n S.1 S.2.1 dX9_writePath_34 rfl (lv_at hl 0 rfl) ?_
          refine lv_aload_n S.1 S.2.1 dX9_writePath_35 rfl (lv_at hl 0 rfl) ?_
          refine g_get S C hG iX90 0 rfl rfl 5 (by decide) (List.mem_of_getElem? (i := 3) rfl) rfl dX9_writePath_36 ?_
          refine lv_iload_n S.1 S.2.1 dX9_writePath_39 rfl (lv_at hl 2 rfl) ?_
          refine g_zald S C hG 3 rfl (by omega) (by omega) (by omega) dX9_writePath_40 ?_
          refine g_top (w := .int (iI (ekS NF x k))) (congrArg (fun z : Int => Value.int (iI z)) ((by rw [hw.1] <;> exact a1))) ?_
          refine g_if_eq (tgt := 49) S dX9_writePath_41 (by decide) (by omega) (fun q41 => ?_) (fun q41 => ?_)
          · skip
            refine g_bipush S dX9_writePath_49 (by decide) ?_
            refine g_invVv (As := [.int (iI 94)]) (rest := []) (gs' := (fun u : Unit => [gMdl K am (thr (bI (0 ≤ x ∧ x < NF 4)) 1 1) (am 1) lg2_16 mr2_16 en2_16 pw2_16 sl2_16 ly2_16 dn2_16 iz tz nx st tk vl ef ep hO hB ol rm (n1 + 1), gArr K 95 (am 1) NF, gArr K 60 (am 3) B0_16, gArrZ K 60 (am 4) B1_16, gArr K 60 (am 5) B2_16, gArr K 60 (am 6) B3_16, gArr K 60 (am 7) B4_16, gArr K 60 (am 8) B5_16, gArr K 60 (am 9) B6_16, gArrB K 200 (am 19) (upI F1 n1 94)])) S C hG [0, 9] (c_X9_write l K am (thr (bI (0 ≤ x ∧ x < NF 4)) 1 1) (am 1) lg2_16 mr2_16 en2_16 pw2_16 sl2_16 ly2_16 dn2_16 iz tz nx st tk vl ef ep hO hB ol rm n1 F1 94 (by omega)) rfl rfl 0 rfl rfl (cwV 1 S.2.2.2.2 gX9_writePath_X9_write rfl rfl rfl (by decide +kernel) ⟨Nat.le_of_ble_eq_true rfl, Nat.le_of_ble_eq_true rfl⟩) rfl hl.1 rfl (Nat.le_of_ble_eq_true rfl) dX9_writePath_51 ⟨Nat.le_of_ble_eq_true rfl, Nat.le_of_ble_eq_true rfl⟩ (fun _ => Nat.le_of_ble_eq_true rfl) (fun _ => rfl) (fun u H locs hp hG => ?_)
            refine lv_aload_n S.1 S.2.1 dX9_writePath_54 rfl (lv_at hl 0 rfl) ?_
            refine lv_aload_n S.1 S.2.1 dX9_writePath_55 rfl (lv_at hl 0 rfl) ?_
            refine g_get S C hG iX90 0 rfl rfl 4 (by decide) (List.mem_of_getElem? (i := 4) rfl) rfl dX9_writePath_56 ?_
            refine lv_iload_n S.1 S.2.1 dX9_writePath_59 rfl (lv_at hl 2 rfl) ?_
            refine g_iald S C hG 2 rfl (by omega) (by omega) (by omega) dX9_writePath_60 ?_
            refine g_top (w := .int (iI (ykS NF x k))) (congrArg (fun z : Int => Value.int (iI z)) ((by rw [hw.1] <;> exact a0))) ?_
            refine g_invVv (As := [.int (iI (ykS NF x k))]) (rest := []) (gs' := (fun u : (Int → Int) × Int => [gMdl K am (thr (bI (0 ≤ x ∧ x < NF 4)) 1 1) (am 1) lg2_16 mr2_16 en2_16 pw2_16 sl2_16 ly2_16 dn2_16 iz tz nx st tk vl ef ep hO hB ol rm u.2, gArr K 95 (am 1) NF, gArr K 60 (am 3) B0_16, gArrZ K 60 (am 4) B1_16, gArr K 60 (am 5) B2_16, gArr K 60 (am 6) B3_16, gArr K 60 (am 7) B4_16, gArr K 60 (am 8) B5_16, gArr K 60 (am 9) B6_16, gArrB K 200 (am 19) u.1])) S C hG [0, 9] (c_X9_writeInt l K am (thr (bI (0 ≤ x ∧ x < NF 4)) 1 1) (am 1) lg2_16 mr2_16 en2_16 pw2_16 sl2_16 ly2_16 dn2_16 iz tz nx st tk vl ef ep hO hB ol rm (n1 + 1) (upI F1 n1 94) (ykS NF x k) (by omega) (by omega)) rfl rfl 0 rfl rfl (cwV 1 S.2.2.2.2 gX9_writePath_X9_writeInt rfl rfl rfl (by decide +kernel) ⟨Nat.le_of_ble_eq_true rfl, Nat.le_of_ble_eq_true rfl⟩) rfl hl.1 rfl (Nat.le_of_ble_eq_true rfl) dX9_writePath_61 ⟨Nat.le_of_ble_eq_true rfl, Nat.le_of_ble_eq_true rfl⟩ (fun _ => Nat.le_of_ble_eq_true rfl) (fun _ => rfl) (fun u H locs hp hG => ?_)
            obtain ⟨F2_61, oz2_61⟩ := u
            obtain ⟨hF_61, hz_61⟩ := hp
            have hF_61 : ∀ j : Int, F2_61 j = if (n1 + 1) ≤ j ∧ j < (n1 + 1) + dgs (ykS NF x k) then dgt (ykS NF x k) (j - (n1 + 1)) else (upI F1 n1 94) j := hF_61
            have hz_61 : oz2_61 = (n1 + 1) + dgs (ykS NF x k) := hz_61
            have hG : gW K A s.heap [gMdl K am (thr (bI (0 ≤ x ∧ x < NF 4)) 1 1) (am 1) lg2_16 mr2_16 en2_16 pw2_16 sl2_16 ly2_16 dn2_16 iz tz nx st tk vl ef ep hO hB ol rm oz2_61, gArr K 95 (am 1) NF, gArr K 60 (am 3) B0_16, gArrZ K 60 (am 4) B1_16, gArr K 60 (am 5) B2_16, gArr K 60 (am 6) B3_16, gArr K 60 (am 7) B4_16, gArr K 60 (am 8) B5_16, gArr K 60 (am 9) B6_16, gArrB K 200 (am 19) F2_61] _ _ := hG
            refine lv_iinc (v := iI (w + 1)) (lv' := [(2, .int (iI (w + 1))), (0, .ref (am 0)), (1, .int (iI x))]) S.1 S.2.1 dX9_writePath_64 hl (k := 2) rfl (g_iinc rfl) (by decide) rfl (fun ls hl => ?_)
            refine lv_goto (tgt := 26) S.1 S.2.1 dX9_writePath_67 (by decide) ?_
            exact ih (k + 1) (w + 1) oz2_61 F2_61 _ _ _ (by omega) ⟨by omega, by omega⟩ (by have z9 := ((ho.add 94).numz hF_61 hz_61) <;> simp only [lgT] <;> rw [if_neg (by omega)] <;> simpa [List.append_assoc] using z9) (by omega) (lv_sub hl [1, 2, 0] rfl) hG
          · skip
            refine g_bipush S dX9_writePath_44 (by decide) ?_
            refine lv_goto (tgt := 51) S.1 S.2.1 dX9_writePath_46 (by decide) ?_
            refine g_invVv (As := [.int (iI 118)]) (rest := []) (gs' := (fun u : Unit => [gMdl K am (thr (bI (0 ≤ x ∧ x < NF 4)) 1 1) (am 1) lg2_16 mr2_16 en2_16 pw2_16 sl2_16 ly2_16 dn2_16 iz tz nx st tk vl ef ep hO hB ol rm (n1 + 1), gArr K 95 (am 1) NF, gArr K 60 (am 3) B0_16, gArrZ K 60 (am 4) B1_16, gArr K 60 (am 5) B2_16, gArr K 60 (am 6) B3_16, gArr K 60 (am 7) B4_16, gArr K 60 (am 8) B5_16, gArr K 60 (am 9) B6_16, gArrB K 200 (am 19) (upI F1 n1 118)])) S C hG [0, 9] (c_X9_write l K am (thr (bI (0 ≤ x ∧ x < NF 4)) 1 1) (am 1) lg2_16 mr2_16 en2_16 pw2_16 sl2_16 ly2_16 dn2_16 iz tz nx st tk vl ef ep hO hB ol rm n1 F1 118 (by omega)) rfl rfl 0 rfl rfl (cwV 1 S.2.2.2.2 gX9_writePath_X9_write rfl rfl rfl (by decide +kernel) ⟨Nat.le_of_ble_eq_true rfl, Nat.le_of_ble_eq_true rfl⟩) rfl hl.1 rfl (Nat.le_of_ble_eq_true rfl) dX9_writePath_51 ⟨Nat.le_of_ble_eq_true rfl, Nat.le_of_ble_eq_true rfl⟩ (fun _ => Nat.le_of_ble_eq_true rfl) (fun _ => rfl) (fun u H locs hp hG => ?_)
            refine lv_aload_n S.1 S.2.1 dX9_writePath_54 rfl (lv_at hl 0 rfl) ?_
            refine lv_aload_n S.1 S.2.1 dX9_writePath_55 rfl (lv_at hl 0 rfl) ?_
            refine g_get S C hG iX90 0 rfl rfl 4 (by decide) (List.mem_of_getElem? (i := 4) rfl) rfl dX9_writePath_56 ?_
            refine lv_iload_n S.1 S.2.1 dX9_writePath_59 rfl (lv_at hl 2 rfl) ?_
            refine g_iald S C hG 2 rfl (by omega) (by omega) (by omega) dX9_writePath_60 ?_
            refine g_top (w := .int (iI (ykS NF x k))) (congrArg (fun z : Int => Value.int (iI z)) ((by rw [hw.1] <;> exact a0))) ?_
            refine g_invVv (As := [.int (iI (ykS NF x k))]) (rest := []) (gs' := (fun u : (Int → Int) × Int => [gMdl K am (thr (bI (0 ≤ x ∧ x < NF 4)) 1 1) (am 1) lg2_16 mr2_16 en2_16 pw2_16 sl2_16 ly2_16 dn2_16 iz tz nx st tk vl ef ep hO hB ol rm u.2, gArr K 95 (am 1) NF, gArr K 60 (am 3) B0_16, gArrZ K 60 (am 4) B1_16, gArr K 60 (am 5) B2_16, gArr K 60 (am 6) B3_16, gArr K 60 (am 7) B4_16, gArr K 60 (am 8) B5_16, gArr K 60 (am 9) B6_16, gArrB K 200 (am 19) u.1])) S C hG [0, 9] (c_X9_writeInt l K am (thr (bI (0 ≤ x ∧ x < NF 4)) 1 1) (am 1) lg2_16 mr2_16 en2_16 pw2_16 sl2_16 ly2_16 dn2_16 iz tz nx st tk vl ef ep hO hB ol rm (n1 + 1) (upI F1 n1 118) (ykS NF x k) (by omega) (by omega)) rfl rfl 0 rfl rfl (cwV 1 S.2.2.2.2 gX9_writePath_X9_writeInt rfl rfl rfl (by decide +kernel) ⟨Nat.le_of_ble_eq_true rfl, Nat.le_of_ble_eq_true rfl⟩) rfl hl.1 rfl (Nat.le_of_ble_eq_true rfl) dX9_writePath_61 ⟨Nat.le_of_ble_eq_true rfl, Nat.le_of_ble_eq_true rfl⟩ (fun _ => Nat.le_of_ble_eq_true rfl) (fun _ => rfl) (fun u H locs hp hG => ?_)
            obtain ⟨F2_61, oz2_61⟩ := u
            obtain ⟨hF_61, hz_61⟩ := hp
            have hF_61 : ∀ j : Int, F2_61 j = if (n1 + 1) ≤ j ∧ j < (n1 + 1) + dgs (ykS NF x k) then dgt (ykS NF x k) (j - (n1 + 1)) else (upI F1 n1 118) j := hF_61
            have hz_61 : oz2_61 = (n1 + 1) + dgs (ykS NF x k) := hz_61
            have hG : gW K A s.heap [gMdl K am (thr (bI (0 ≤ x ∧ x < NF 4)) 1 1) (am 1) lg2_16 mr2_16 en2_16 pw2_16 sl2_16 ly2_16 dn2_16 iz tz nx st tk vl ef ep hO hB ol rm oz2_61, gArr K 95 (am 1) NF, gArr K 60 (am 3) B0_16, gArrZ K 60 (am 4) B1_16, gArr K 60 (am 5) B2_16, gArr K 60 (am 6) B3_16, gArr K 60 (am 7) B4_16, gArr K 60 (am 8) B5_16, gArr K 60 (am 9) B6_16, gArrB K 200 (am 19) F2_61] _ _ := hG
            refine lv_iinc (v := iI (w + 1)) (lv' := [(2, .int (iI (w + 1))), (0, .ref (am 0)), (1, .int (iI x))]) S.1 S.2.1 dX9_writePath_64 hl (k := 2) rfl (g_iinc rfl) (by decide) rfl (fun ls hl => ?_)
            refine lv_goto (tgt := 26) S.1 S.2.1 dX9_writePath_67 (by decide) ?_
            exact ih (k + 1) (w + 1) oz2_61 F2_61 _ _ _ (by omega) ⟨by omega, by omega⟩ (by have z9 := ((ho.add 118).numz hF_61 hz_61) <;> simp only [lgT] <;> rw [if_pos (by omega)] <;> simpa [List.append_assoc] using z9) (by omega) (lv_sub hl [1, 2, 0] rfl) hG
    exact L26 (Nat.succ ((lg2_16 - 0).toNat)) 0 0 0 OF _ _ _ (Nat.lt_succ_self _) ⟨rfl, by omega⟩ (OutI.nil OF) (by omega) (lv_sub hl [1, 2, 0] rfl) hG
  · skip
    refine g_iconst S dX9_writePath_12 ?_
    have hG : gW K A s.heap [gMdl K am (thr (bI (0 ≤ x ∧ x < NF 4)) 1 1) (am 1) lg mr en pw sl ly dn iz tz nx st tk vl ef ep hO hB ol rm oz, gArr K 95 (am 1) NF, gArr K 60 (am 3) A0, gArrZ K 60 (am 4) A1, gArr K 60 (am 5) A2, gArr K 60 (am 6) A3, gArr K 60 (am 7) A4, gArr K 60 (am 8) A5, gArr K 60 (am 9) A6, gArrB K 200 (am 19) OF] _ _ := hG
    exact g_iret S hr hlk hQ dX9_writePath_13 (Nat.le_of_ble_eq_true rfl) (Nat.le_of_ble_eq_true rfl) ((0, lg, mr, en, pw, sl, ly, dn, A0, A1, A2, A3, A4, A5, A6, oz, OF) : Int × Int × Int × Int × Int × Int × Int × Int × (Int → Int) × (Int → Int) × (Int → Int) × (Int → Int) × (Int → Int) × (Int → Int) × (Int → Int) × Int × (Int → Int)) ⟨rfl, (fun h => absurd (bI_t h) q9)⟩ hG

set_option maxHeartbeats 1000000 in
set_option maxRecDepth 100000 in
theorem c_X9_outputByte (l : Launch) (K : KC) (am : Nat → Nat) (th : Int) (rw : Nat) (lg : Int) (mr : Int) (en : Int) (pw : Int) (sl : Int) (ly : Int) (dn : Int) (iz : Int) (tz : Int) (nx : Int) (st : Int) (tk : Int) (vl : Int) (ef : Int) (ep : Int) (hO : Int) (hB : Int) (ol : Int) (rm : Int) (oz : Int) (OF : Int → Int) (x : Int) (hoz : 0 ≤ oz ∧ oz ≤ 200) (hx : -2147483648 ≤ x ∧ x < 2147483648) (g1 : 0 ≤ x ∧ x ≤ oz - 1) : mG l yX9_outputByte wsX9_outputByte 2 44 K [.ref (am 0), .int (iI x)] [gMdl K am th rw lg mr en pw sl ly dn iz tz nx st tk vl ef ep hO hB ol rm oz, gArrB K 200 (am 19) OF] (fun (v : Value) (u : Unit) => (v = .int (bB (OF x)))) (fun (u : Unit) => [gMdl K am (thr (bI (0 ≤ x ∧ x ≤ oz - 1)) 1 1) rw lg mr en pw sl ly dn iz tz nx st tk vl ef ep hO hB ol rm oz, gArrB K 200 (am 19) OF]) 0 0 := by
  refine mG_of cX9_outputByte 2 (by decide) rfl (Nat.le_of_ble_eq_true rfl) ?_
  intro p e s m below meth c A ls Q S C hG hl hr hlk hin hQ
  have S : CallFix p m c cX9_outputByte 2 s ([.ref (am 0), .int (iI x)] : List Value).toArray wsX9_outputByte RX9 := S
  have iX90 : ∀ w ∈ wsX90, w ∈ wsX9_outputByte := fun _ h => List.mem_cons_of_mem _ (List.mem_append_right _ (h))
  have hl : lv_has ls 2 [(0, .ref (am 0)), (1, .int (iI x))] := hl
  have hG : gW K A s.heap [gMdl K am th rw lg mr en pw sl ly dn iz tz nx st tk vl ef ep hO hB ol rm oz, gArrB K 200 (am 19) OF] s.heap [] := hG
  refine lv_aload_n S.1 S.2.1 dX9_outputByte_0 rfl (lv_at hl 0 rfl) ?_
  refine lv_iload_n S.1 S.2.1 dX9_outputByte_1 rfl (lv_at hl 1 rfl) ?_
  refine g_i2l S dX9_outputByte_2 (by omega) ?_
  refine g_lconst (z := 0) S dX9_outputByte_3 rfl ?_
  refine lv_aload_n S.1 S.2.1 dX9_outputByte_4 rfl (lv_at hl 0 rfl) ?_
  refine g_get S C hG iX90 0 rfl rfl 40 (by decide) (List.mem_of_getElem? (i := 1) rfl) rfl dX9_outputByte_5 ?_
  refine g_iconst S dX9_outputByte_8 ?_
  refine g_isub S dX9_outputByte_9 rfl ?_
  refine g_i2l S dX9_outputByte_10 (by omega) ?_
  refine g_invS (As := [.long (iL x), .long (iL 0), .long (iL (oz - 1))]) (rest := [.ref (am 0)]) (gs' := (fun u : Unit => [gMdl K am th rw lg mr en pw sl ly dn iz tz nx st tk vl ef ep hO hB ol rm oz, gArrB K 200 (am 19) OF])) S C hG [] (c_X9_in l K x 0 (oz - 1) (by omega) (by omega) (by omega)) rfl rfl (va_cwS 3 S.2.2.2.2 gX9_outputByte_X9_in rfl rfl rfl (by decide +kernel) ⟨Nat.le_of_ble_eq_true rfl, Nat.le_of_ble_eq_true rfl⟩) rfl hl.1 rfl (Nat.le_of_ble_eq_true rfl) dX9_outputByte_11 ⟨Nat.le_of_ble_eq_true rfl, Nat.le_of_ble_eq_true rfl⟩ (fun _ => Nat.le_of_ble_eq_true rfl) (fun _ => rfl) (fun v u H locs hp hG => ?_)
  subst hp
  refine g_invV (As := [.int (iI (bI (0 ≤ x ∧ x ≤ (oz - 1))))]) (rest := []) (gs' := (fun u : Unit => [gMdl K am (thr (bI (0 ≤ x ∧ x ≤ (oz - 1))) 1 1) rw lg mr en pw sl ly dn iz tz nx st tk vl ef ep hO hB ol rm oz, gArrB K 200 (am 19) OF])) S C hG [0] (c_X9_passes l K am th rw lg mr en pw sl ly dn iz tz nx st tk vl ef ep hO hB ol rm oz (bI (0 ≤ x ∧ x ≤ (oz - 1))) (bI_01 _)) rfl rfl 0 rfl rfl (cwV 1 S.2.2.2.2 gX9_outputByte_X9_passes rfl rfl rfl (by decide +kernel) ⟨Nat.le_of_ble_eq_true rfl, Nat.le_of_ble_eq_true rfl⟩) rfl hl.1 rfl (Nat.le_of_ble_eq_true rfl) dX9_outputByte_14 ⟨Nat.le_of_ble_eq_true rfl, Nat.le_of_ble_eq_true rfl⟩ (fun _ => Nat.le_of_ble_eq_true rfl) (fun _ => rfl) (fun v u H locs hp hG => ?_)
  subst hp
  refine g_ifeq_b (B := ((bI (0 ≤ x ∧ x ≤ (oz - 1))) = 1)) (tgt := 29) S dX9_outputByte_17 (by decide) (fun q17 => ?_) (fun q17 => ?_)
  · skip
    exact absurd (bI_t g1) q17
  · skip
    refine lv_aload_n S.1 S.2.1 dX9_outputByte_20 rfl (lv_at hl 0 rfl) ?_
    refine g_get S C hG iX90 0 rfl rfl 39 (by decide) (List.mem_of_getElem? (i := 2) rfl) rfl dX9_outputByte_21 ?_
    refine lv_iload_n S.1 S.2.1 dX9_outputByte_24 rfl (lv_at hl 1 rfl) ?_
    refine g_bald S C hG 1 rfl (by omega) (by omega) (by omega) dX9_outputByte_25 ?_
    refine lv_goto (tgt := 30) S.1 S.2.1 dX9_outputByte_26 (by decide) ?_
    have hG : gW K A s.heap [gMdl K am (thr (bI (0 ≤ x ∧ x ≤ oz - 1)) 1 1) rw lg mr en pw sl ly dn iz tz nx st tk vl ef ep hO hB ol rm oz, gArrB K 200 (am 19) OF] _ _ := hG
    exact g_iret S hr hlk hQ dX9_outputByte_30 (Nat.le_of_ble_eq_true rfl) (Nat.le_of_ble_eq_true rfl) (() : Unit) rfl hG

set_option maxHeartbeats 1000000 in
set_option maxRecDepth 100000 in
theorem b_X9_outputByte (l : Launch) (K : KC) (am : Nat → Nat) (th : Int) (rw : Nat) (lg : Int) (mr : Int) (en : Int) (pw : Int) (sl : Int) (ly : Int) (dn : Int) (iz : Int) (tz : Int) (nx : Int) (st : Int) (tk : Int) (vl : Int) (ef : Int) (ep : Int) (hO : Int) (hB : Int) (ol : Int) (rm : Int) (oz : Int) (x : Int) (hoz : 0 ≤ oz ∧ oz ≤ 200) (hx : -2147483648 ≤ x ∧ x < 2147483648) (hbad : ¬ (0 ≤ x ∧ x ≤ oz - 1)) : mG l yX9_outputByte wsX9_outputByte 2 44 K [.ref (am 0), .int (iI x)] [gMdl K am th rw lg mr en pw sl ly dn iz tz nx st tk vl ef ep hO hB ol rm oz] (fun (v : Value) (u : Unit) => (v = .int (iI 0))) (fun (u : Unit) => [gMdl K am (thr (bI (0 ≤ x ∧ x ≤ oz - 1)) 1 1) rw lg mr en pw sl ly dn iz tz nx st tk vl ef ep hO hB ol rm oz]) 0 0 := by
  refine mG_of cX9_outputByte 2 (by decide) rfl (Nat.le_of_ble_eq_true rfl) ?_
  intro p e s m below meth c A ls Q S C hG hl hr hlk hin hQ
  have S : CallFix p m c cX9_outputByte 2 s ([.ref (am 0), .int (iI x)] : List Value).toArray wsX9_outputByte RX9 := S
  have iX90 : ∀ w ∈ wsX90, w ∈ wsX9_outputByte := fun _ h => List.mem_cons_of_mem _ (List.mem_append_right _ (h))
  have hl : lv_has ls 2 [(0, .ref (am 0)), (1, .int (iI x))] := hl
  have hG : gW K A s.heap [gMdl K am th rw lg mr en pw sl ly dn iz tz nx st tk vl ef ep hO hB ol rm oz] s.heap [] := hG
  refine lv_aload_n S.1 S.2.1 dX9_outputByte_0 rfl (lv_at hl 0 rfl) ?_
  refine lv_iload_n S.1 S.2.1 dX9_outputByte_1 rfl (lv_at hl 1 rfl) ?_
  refine g_i2l S dX9_outputByte_2 (by omega) ?_
  refine g_lconst (z := 0) S dX9_outputByte_3 rfl ?_
  refine lv_aload_n S.1 S.2.1 dX9_outputByte_4 rfl (lv_at hl 0 rfl) ?_
  refine g_get S C hG iX90 0 rfl rfl 40 (by decide) (List.mem_of_getElem? (i := 1) rfl) rfl dX9_outputByte_5 ?_
  refine g_iconst S dX9_outputByte_8 ?_
  refine g_isub S dX9_outputByte_9 rfl ?_
  refine g_i2l S dX9_outputByte_10 (by omega) ?_
  refine g_invS (As := [.long (iL x), .long (iL 0), .long (iL (oz - 1))]) (rest := [.ref (am 0)]) (gs' := (fun u : Unit => [gMdl K am th rw lg mr en pw sl ly dn iz tz nx st tk vl ef ep hO hB ol rm oz])) S C hG [] (c_X9_in l K x 0 (oz - 1) (by omega) (by omega) (by omega)) rfl rfl (va_cwS 3 S.2.2.2.2 gX9_outputByte_X9_in rfl rfl rfl (by decide +kernel) ⟨Nat.le_of_ble_eq_true rfl, Nat.le_of_ble_eq_true rfl⟩) rfl hl.1 rfl (Nat.le_of_ble_eq_true rfl) dX9_outputByte_11 ⟨Nat.le_of_ble_eq_true rfl, Nat.le_of_ble_eq_true rfl⟩ (fun _ => Nat.le_of_ble_eq_true rfl) (fun _ => rfl) (fun v u H locs hp hG => ?_)
  subst hp
  refine g_invV (As := [.int (iI (bI (0 ≤ x ∧ x ≤ (oz - 1))))]) (rest := []) (gs' := (fun u : Unit => [gMdl K am (thr (bI (0 ≤ x ∧ x ≤ (oz - 1))) 1 1) rw lg mr en pw sl ly dn iz tz nx st tk vl ef ep hO hB ol rm oz])) S C hG [0] (c_X9_passes l K am th rw lg mr en pw sl ly dn iz tz nx st tk vl ef ep hO hB ol rm oz (bI (0 ≤ x ∧ x ≤ (oz - 1))) (bI_01 _)) rfl rfl 0 rfl rfl (cwV 1 S.2.2.2.2 gX9_outputByte_X9_passes rfl rfl rfl (by decide +kernel) ⟨Nat.le_of_ble_eq_true rfl, Nat.le_of_ble_eq_true rfl⟩) rfl hl.1 rfl (Nat.le_of_ble_eq_true rfl) dX9_outputByte_14 ⟨Nat.le_of_ble_eq_true rfl, Nat.le_of_ble_eq_true rfl⟩ (fun _ => Nat.le_of_ble_eq_true rfl) (fun _ => rfl) (fun v u H locs hp hG => ?_)
  subst hp
  refine g_ifeq_b (B := ((bI (0 ≤ x ∧ x ≤ (oz - 1))) = 1)) (tgt := 29) S dX9_outputByte_17 (by decide) (fun q17 => ?_) (fun q17 => ?_)
  · skip
    refine g_iconst S dX9_outputByte_29 ?_
    have hG : gW K A s.heap [gMdl K am (thr (bI (0 ≤ x ∧ x ≤ oz - 1)) 1 1) rw lg mr en pw sl ly dn iz tz nx st tk vl ef ep hO hB ol rm oz] _ _ := hG
    exact g_iret S hr hlk hQ dX9_outputByte_30 (Nat.le_of_ble_eq_true rfl) (Nat.le_of_ble_eq_true rfl) (() : Unit) rfl hG
  · skip
    exact absurd (bI1 q17) hbad

set_option maxHeartbeats 1000000 in
set_option maxRecDepth 100000 in
theorem c_X9_appendFour (l : Launch) (K : KC) (am : Nat → Nat) (th : Int) (rw : Nat) (lg : Int) (mr : Int) (en : Int) (pw : Int) (sl : Int) (ly : Int) (dn : Int) (iz : Int) (tz : Int) (nx : Int) (st : Int) (tk : Int) (vl : Int) (ef : Int) (ep : Int) (hO : Int) (hB : Int) (ol : Int) (rm : Int) (oz : Int) (IF : Int → Int) (x : Int) (h0 : 0 ≤ iz ∧ iz ≤ 396) (h1 : -2147483648 ≤ x ∧ x < 2147483648) : mV l yX9_appendFour wsX9_appendFour 0 0 K [.ref (am 0), .int (iI x)] [gMdl K am th rw lg mr en pw sl ly dn iz tz nx st tk vl ef ep hO hB ol rm oz, gArrB K 400 (am 10) IF] (fun (u : Unit) => True) (fun (u : Unit) => [gMdl K am th rw lg mr en pw sl ly dn (iz + 4) tz nx st tk vl ef ep hO hB ol rm oz, gArrB K 400 (am 10) (app4 IF iz x)]) 0 0 := by
  refine mV_of cX9_appendFour 3 (by decide) rfl (Nat.le_of_ble_eq_true rfl) ?_
  intro p e s m below meth c A ls Q S C hG hl hr hlk hin hQ
  have S : CallFix p m c cX9_appendFour 3 s ([.ref (am 0), .int (iI x)] : List Value).toArray wsX9_appendFour RX9 := S
  have iX90 : ∀ w ∈ wsX90, w ∈ wsX9_appendFour := fun _ h => List.mem_cons_of_mem _ (List.mem_append_right _ (h))
  have hl : lv_has ls 3 [(0, .ref (am 0)), (1, .int (iI x))] := hl
  have hG : gW K A s.heap [gMdl K am th rw lg mr en pw sl ly dn iz tz nx st tk vl ef ep hO hB ol rm oz, gArrB K 400 (am 10) IF] s.heap [] := hG
  refine g_bipush S dX9_appendFour_0 (by decide) ?_
  refine lv_istore_n (lv' := [(2, .int (iI 24)), (0, .ref (am 0)), (1, .int (iI x))]) S.1 S.2.1 dX9_appendFour_2 rfl hl (by decide) rfl (fun ls hl => ?_)
  refine lv_iload_n S.1 S.2.1 dX9_appendFour_3 rfl (lv_at hl 0 rfl) ?_
  refine g_if_lt (tgt := 36) S dX9_appendFour_4 (by decide) (by omega) (fun q4 => ?_) (fun q4 => ?_)
  · skip
    exact absurd q4 (by decide)
  · skip
    refine lv_aload_n S.1 S.2.1 dX9_appendFour_7 rfl (lv_at hl 1 rfl) ?_
    refine g_get S C hG iX90 0 rfl rfl 18 (by decide) (List.mem_of_getElem? (i := 1) rfl) rfl dX9_appendFour_8 ?_
    refine lv_aload_n S.1 S.2.1 dX9_appendFour_11 rfl (lv_at hl 1 rfl) ?_
    refine g_get S C hG iX90 0 rfl rfl 19 (by decide) (List.mem_of_getElem? (i := 2) rfl) rfl dX9_appendFour_12 ?_
    refine lv_iload_n S.1 S.2.1 dX9_appendFour_15 rfl (lv_at hl 2 rfl) ?_
    refine lv_iload_n S.1 S.2.1 dX9_appendFour_16 rfl (lv_at hl 0 rfl) ?_
    refine g_ishr S 24 16777216 dX9_appendFour_17 (by omega) (by decide) (by decide) (by omega) ?_
    refine g_i2b S dX9_appendFour_18 ?_
    refine g_bastB (gs' := [gMdl K am th rw lg mr en pw sl ly dn iz tz nx st tk vl ef ep hO hB ol rm oz, gArrB K 400 (am 10) (upI IF iz (x / 16777216))]) S C hG 1 rfl (by omega) (by omega) (by omega) rfl dX9_appendFour_19 (fun H locs hG => ?_)
    refine lv_aload_n S.1 S.2.1 dX9_appendFour_20 rfl (lv_at hl 1 rfl) ?_
    refine lv_dup S.1 S.2.1 dX9_appendFour_21 rfl ?_
    refine g_get S C hG iX90 0 rfl rfl 19 (by decide) (List.mem_of_getElem? (i := 2) rfl) rfl dX9_appendFour_22 ?_
    refine g_iconst S dX9_appendFour_25 ?_
    refine g_iadd S dX9_appendFour_26 rfl ?_
    refine g_put (gs' := [gMdl K am th rw lg mr en pw sl ly dn (iz + 1) tz nx st tk vl ef ep hO hB ol rm oz, gArrB K 400 (am 10) (upI IF iz (x / 16777216))]) S C hG iX90 tyX9 tyX9_ok nmX9 0 rfl rfl 19 (by decide) (List.mem_of_getElem? (i := 2) rfl) rfl rfl rfl (Nat.le_of_ble_eq_true rfl) rfl dX9_appendFour_27 (fun H locs hG => ?_)
    refine lv_iinc (v := iI 16) (lv' := [(2, .int (iI 16)), (0, .ref (am 0)), (1, .int (iI x))]) S.1 S.2.1 dX9_appendFour_30 hl (k := 0) rfl (g_iinc (by decide)) (by decide) rfl (fun ls hl => ?_)
    refine lv_goto (tgt := 3) S.1 S.2.1 dX9_appendFour_33 (by decide) ?_
    refine lv_iload_n S.1 S.2.1 dX9_appendFour_3 rfl (lv_at hl 0 rfl) ?_
    refine g_if_lt (tgt := 36) S dX9_appendFour_4 (by decide) (by omega) (fun q4 => ?_) (fun q4 => ?_)
    · skip
      exact absurd q4 (by decide)
    · skip
      refine lv_aload_n S.1 S.2.1 dX9_appendFour_7 rfl (lv_at hl 1 rfl) ?_
      refine g_get S C hG iX90 0 rfl rfl 18 (by decide) (List.mem_of_getElem? (i := 1) rfl) rfl dX9_appendFour_8 ?_
      refine lv_aload_n S.1 S.2.1 dX9_appendFour_11 rfl (lv_at hl 1 rfl) ?_
      refine g_get S C hG iX90 0 rfl rfl 19 (by decide) (List.mem_of_getElem? (i := 2) rfl) rfl dX9_appendFour_12 ?_
      refine lv_iload_n S.1 S.2.1 dX9_appendFour_15 rfl (lv_at hl 2 rfl) ?_
      refine lv_iload_n S.1 S.2.1 dX9_appendFour_16 rfl (lv_at hl 0 rfl) ?_
      refine g_ishr S 16 65536 dX9_appendFour_17 (by omega) (by decide) (by decide) (by omega) ?_
      refine g_i2b S dX9_appendFour_18 ?_
      refine g_bastB (gs' := [gMdl K am th rw lg mr en pw sl ly dn (iz + 1) tz nx st tk vl ef ep hO hB ol rm oz, gArrB K 400 (am 10) (upI (upI IF iz (x / 16777216)) (iz + 1) (x / 65536))]) S C hG 1 rfl (by omega) (by omega) (by omega) rfl dX9_appendFour_19 (fun H locs hG => ?_)
      refine lv_aload_n S.1 S.2.1 dX9_appendFour_20 rfl (lv_at hl 1 rfl) ?_
      refine lv_dup S.1 S.2.1 dX9_appendFour_21 rfl ?_
      refine g_get S C hG iX90 0 rfl rfl 19 (by decide) (List.mem_of_getElem? (i := 2) rfl) rfl dX9_appendFour_22 ?_
      refine g_iconst S dX9_appendFour_25 ?_
      refine g_iadd S dX9_appendFour_26 rfl ?_
      refine g_put (gs' := [gMdl K am th rw lg mr en pw sl ly dn ((iz + 1) + 1) tz nx st tk vl ef ep hO hB ol rm oz, gArrB K 400 (am 10) (upI (upI IF iz (x / 16777216)) (iz + 1) (x / 65536))]) S C hG iX90 tyX9 tyX9_ok nmX9 0 rfl rfl 19 (by decide) (List.mem_of_getElem? (i := 2) rfl) rfl rfl rfl (Nat.le_of_ble_eq_true rfl) rfl dX9_appendFour_27 (fun H locs hG => ?_)
      refine lv_iinc (v := iI 8) (lv' := [(2, .int (iI 8)), (0, .ref (am 0)), (1, .int (iI x))]) S.1 S.2.1 dX9_appendFour_30 hl (k := 0) rfl (g_iinc (by decide)) (by decide) rfl (fun ls hl => ?_)
      refine lv_goto (tgt := 3) S.1 S.2.1 dX9_appendFour_33 (by decide) ?_
      refine lv_iload_n S.1 S.2.1 dX9_appendFour_3 rfl (lv_at hl 0 rfl) ?_
      refine g_if_lt (tgt := 36) S dX9_appendFour_4 (by decide) (by omega) (fun q4 => ?_) (fun q4 => ?_)
      · skip
        exact absurd q4 (by decide)
      · skip
        refine lv_aload_n S.1 S.2.1 dX9_appendFour_7 rfl (lv_at hl 1 rfl) ?_
        refine g_get S C hG iX90 0 rfl rfl 18 (by decide) (List.mem_of_getElem? (i := 1) rfl) rfl dX9_appendFour_8 ?_
        refine lv_aload_n S.1 S.2.1 dX9_appendFour_11 rfl (lv_at hl 1 rfl) ?_
        refine g_get S C hG iX90 0 rfl rfl 19 (by decide) (List.mem_of_getElem? (i := 2) rfl) rfl dX9_appendFour_12 ?_
        refine lv_iload_n S.1 S.2.1 dX9_appendFour_15 rfl (lv_at hl 2 rfl) ?_
        refine lv_iload_n S.1 S.2.1 dX9_appendFour_16 rfl (lv_at hl 0 rfl) ?_
        refine g_ishr S 8 256 dX9_appendFour_17 (by omega) (by decide) (by decide) (by omega) ?_
        refine g_i2b S dX9_appendFour_18 ?_
        refine g_bastB (gs' := [gMdl K am th rw lg mr en pw sl ly dn ((iz + 1) + 1) tz nx st tk vl ef ep hO hB ol rm oz, gArrB K 400 (am 10) (upI (upI (upI IF iz (x / 16777216)) (iz + 1) (x / 65536)) ((iz + 1) + 1) (x / 256))]) S C hG 1 rfl (by omega) (by omega) (by omega) rfl dX9_appendFour_19 (fun H locs hG => ?_)
        refine lv_aload_n S.1 S.2.1 dX9_appendFour_20 rfl (lv_at hl 1 rfl) ?_
        refine lv_dup S.1 S.2.1 dX9_appendFour_21 rfl ?_
        refine g_get S C hG iX90 0 rfl rfl 19 (by decide) (List.mem_of_getElem? (i := 2) rfl) rfl dX9_appendFour_22 ?_
        refine g_iconst S dX9_appendFour_25 ?_
        refine g_iadd S dX9_appendFour_26 rfl ?_
        refine g_put (gs' := [gMdl K am th rw lg mr en pw sl ly dn (((iz + 1) + 1) + 1) tz nx st tk vl ef ep hO hB ol rm oz, gArrB K 400 (am 10) (upI (upI (upI IF iz (x / 16777216)) (iz + 1) (x / 65536)) ((iz + 1) + 1) (x / 256))]) S C hG iX90 tyX9 tyX9_ok nmX9 0 rfl rfl 19 (by decide) (List.mem_of_getElem? (i := 2) rfl) rfl rfl rfl (Nat.le_of_ble_eq_true rfl) rfl dX9_appendFour_27 (fun H locs hG => ?_)
        refine lv_iinc (v := iI 0) (lv' := [(2, .int (iI 0)), (0, .ref (am 0)), (1, .int (iI x))]) S.1 S.2.1 dX9_appendFour_30 hl (k := 0) rfl (g_iinc (by decide)) (by decide) rfl (fun ls hl => ?_)
        refine lv_goto (tgt := 3) S.1 S.2.1 dX9_appendFour_33 (by decide) ?_
        refine lv_iload_n S.1 S.2.1 dX9_appendFour_3 rfl (lv_at hl 0 rfl) ?_
        refine g_if_lt (tgt := 36) S dX9_appendFour_4 (by decide) (by omega) (fun q4 => ?_) (fun q4 => ?_)
        · skip
          exact absurd q4 (by decide)
        · skip
          refine lv_aload_n S.1 S.2.1 dX9_appendFour_7 rfl (lv_at hl 1 rfl) ?_
          refine g_get S C hG iX90 0 rfl rfl 18 (by decide) (List.mem_of_getElem? (i := 1) rfl) rfl dX9_appendFour_8 ?_
          refine lv_aload_n S.1 S.2.1 dX9_appendFour_11 rfl (lv_at hl 1 rfl) ?_
          refine g_get S C hG iX90 0 rfl rfl 19 (by decide) (List.mem_of_getElem? (i := 2) rfl) rfl dX9_appendFour_12 ?_
          refine lv_iload_n S.1 S.2.1 dX9_appendFour_15 rfl (lv_at hl 2 rfl) ?_
          refine lv_iload_n S.1 S.2.1 dX9_appendFour_16 rfl (lv_at hl 0 rfl) ?_
          refine g_ishr S 0 1 dX9_appendFour_17 (by omega) (by decide) (by decide) (by omega) ?_
          refine g_i2b S dX9_appendFour_18 ?_
          refine g_bastB (gs' := [gMdl K am th rw lg mr en pw sl ly dn (((iz + 1) + 1) + 1) tz nx st tk vl ef ep hO hB ol rm oz, gArrB K 400 (am 10) (upI (upI (upI (upI IF iz (x / 16777216)) (iz + 1) (x / 65536)) ((iz + 1) + 1) (x / 256)) (((iz + 1) + 1) + 1) (x / 1))]) S C hG 1 rfl (by omega) (by omega) (by omega) rfl dX9_appendFour_19 (fun H locs hG => ?_)
          refine lv_aload_n S.1 S.2.1 dX9_appendFour_20 rfl (lv_at hl 1 rfl) ?_
          refine lv_dup S.1 S.2.1 dX9_appendFour_21 rfl ?_
          refine g_get S C hG iX90 0 rfl rfl 19 (by decide) (List.mem_of_getElem? (i := 2) rfl) rfl dX9_appendFour_22 ?_
          refine g_iconst S dX9_appendFour_25 ?_
          refine g_iadd S dX9_appendFour_26 rfl ?_
          refine g_put (gs' := [gMdl K am th rw lg mr en pw sl ly dn ((((iz + 1) + 1) + 1) + 1) tz nx st tk vl ef ep hO hB ol rm oz, gArrB K 400 (am 10) (upI (upI (upI (upI IF iz (x / 16777216)) (iz + 1) (x / 65536)) ((iz + 1) + 1) (x / 256)) (((iz + 1) + 1) + 1) (x / 1))]) S C hG iX90 tyX9 tyX9_ok nmX9 0 rfl rfl 19 (by decide) (List.mem_of_getElem? (i := 2) rfl) rfl rfl rfl (Nat.le_of_ble_eq_true rfl) rfl dX9_appendFour_27 (fun H locs hG => ?_)
          refine lv_iinc (v := iI (-8)) (lv' := [(2, .int (iI (-8))), (0, .ref (am 0)), (1, .int (iI x))]) S.1 S.2.1 dX9_appendFour_30 hl (k := 0) rfl (g_iinc (by decide)) (by decide) rfl (fun ls hl => ?_)
          refine lv_goto (tgt := 3) S.1 S.2.1 dX9_appendFour_33 (by decide) ?_
          refine lv_iload_n S.1 S.2.1 dX9_appendFour_3 rfl (lv_at hl 0 rfl) ?_
          refine g_if_lt (tgt := 36) S dX9_appendFour_4 (by decide) (by omega) (fun q4 => ?_) (fun q4 => ?_)
          · skip
            have hG : gW K A s.heap [gMdl K am th rw lg mr en pw sl ly dn (iz + 4) tz nx st tk vl ef ep hO hB ol rm oz, gArrB K 400 (am 10) (app4 IF iz x)] _ _ := (by rw [show iz + 4 = iz + 1 + 1 + 1 + 1 by omega] <;> exact hG)
            exact g_vret S hr hlk hQ dX9_appendFour_36 (Nat.le_of_ble_eq_true rfl) (Nat.le_of_ble_eq_true rfl) (() : Unit) trivial hG
          · skip
            exact absurd q4 (by decide)

set_option maxHeartbeats 1000000 in
set_option maxRecDepth 100000 in
theorem c_X9_append (l : Launch) (K : KC) (am : Nat → Nat) (th : Int) (rw : Nat) (lg : Int) (mr : Int) (en : Int) (pw : Int) (sl : Int) (ly : Int) (dn : Int) (iz : Int) (tz : Int) (nx : Int) (st : Int) (tk : Int) (vl : Int) (ef : Int) (ep : Int) (hO : Int) (hB : Int) (ol : Int) (rm : Int) (oz : Int) (IF : Int → Int) (y : Int) (a1 : Int) (a2 : Int) (a3 : Int) (a4 : Int) (hiz : 0 ≤ iz ∧ iz ≤ 400) (hv0 : -2147483648 ≤ y ∧ y < 2147483648) (hv1 : -2147483648 ≤ a1 ∧ a1 < 2147483648) (hv2 : -2147483648 ≤ a2 ∧ a2 < 2147483648) (hv3 : -2147483648 ≤ a3 ∧ a3 < 2147483648) (hv4 : -2147483648 ≤ a4 ∧ a4 < 2147483648) (g1 : iz + 20 ≤ 400) : mG l yX9_append wsX9_append 2 44 K [.ref (am 0), .int (iI y), .int (iI a1), .int (iI a2), .int (iI a3), .int (iI a4)] [gMdl K am th rw lg mr en pw sl ly dn iz tz nx st tk vl ef ep hO hB ol rm oz, gArrB K 400 (am 10) IF] (fun (v : Value) (u : Unit) => (v = .int (iI (iz + 20)))) (fun (u : Unit) => [gMdl K am (thr (bI (iz + 20 ≤ 400)) 1 1) rw lg mr en pw sl ly dn (iz + 20) tz nx st tk vl ef ep hO hB ol rm oz, gArrB K 400 (am 10) (apd5 IF iz y a1 a2 a3 a4)]) 0 0 := by
  refine mG_of cX9_append 6 (by decide) rfl (Nat.le_of_ble_eq_true rfl) ?_
  intro p e s m below meth c A ls Q S C hG hl hr hlk hin hQ
  have S : CallFix p m c cX9_append 6 s ([.ref (am 0), .int (iI y), .int (iI a1), .int (iI a2), .int (iI a3), .int (iI a4)] : List Value).toArray wsX9_append RX9 := S
  have iX90 : ∀ w ∈ wsX90, w ∈ wsX9_append := fun _ h => List.mem_cons_of_mem _ (List.mem_append_right _ (h))
  have hl : lv_has ls 6 [(0, .ref (am 0)), (1, .int (iI y)), (2, .int (iI a1)), (3, .int (iI a2)), (4, .int (iI a3)), (5, .int (iI a4))] := hl
  have hG : gW K A s.heap [gMdl K am th rw lg mr en pw sl ly dn iz tz nx st tk vl ef ep hO hB ol rm oz, gArrB K 400 (am 10) IF] s.heap [] := hG
  refine lv_aload_n S.1 S.2.1 dX9_append_0 rfl (lv_at hl 0 rfl) ?_
  refine lv_aload_n S.1 S.2.1 dX9_append_1 rfl (lv_at hl 0 rfl) ?_
  refine g_get S C hG iX90 0 rfl rfl 19 (by decide) (List.mem_of_getElem? (i := 1) rfl) rfl dX9_append_2 ?_
  refine g_bipush S dX9_append_5 (by decide) ?_
  refine g_iadd S dX9_append_7 rfl ?_
  refine g_sipush S dX9_append_8 (by decide) ?_
  have J19 : ∀ (H : Heap) (locs : List Loc) (ls : Array Slot), lv_has ls 6 [(0, .ref (am 0)), (1, .int (iI y)), (2, .int (iI a1)), (3, .int (iI a2)), (4, .int (iI a3)), (5, .int (iI a4))] → gW K A s.heap [gMdl K am th rw lg mr en pw sl ly dn iz tz nx st tk vl ef ep hO hB ol rm oz, gArrB K 400 (am 10) IF] H locs → W p l e { frames := 2, cells := 0, slots := 0, locals := 44 } s m ([.ref (am 0), .int (iI y), .int (iI a1), .int (iI a2), .int (iI a3), .int (iI a4)] : List Value).toArray below meth c H locs 0 0 Q (F0 m 19 ls [.int (iI (bI (iz + 20 ≤ 400))), .ref (am 0)]) := by
    intro  H locs ls  hl hG
    refine g_invV (As := [.int (iI (bI (iz + 20 ≤ 400)))]) (rest := []) (gs' := (fun u : Unit => [gMdl K am (thr (bI (iz + 20 ≤ 400)) 1 1) rw lg mr en pw sl ly dn iz tz nx st tk vl ef ep hO hB ol rm oz, gArrB K 400 (am 10) IF])) S C hG [0] (c_X9_passes l K am th rw lg mr en pw sl ly dn iz tz nx st tk vl ef ep hO hB ol rm oz (bI (iz + 20 ≤ 400)) (bI_01 _)) rfl rfl 0 rfl rfl (cwV 1 S.2.2.2.2 gX9_append_X9_passes rfl rfl rfl (by decide +kernel) ⟨Nat.le_of_ble_eq_true rfl, Nat.le_of_ble_eq_true rfl⟩) rfl hl.1 rfl (Nat.le_of_ble_eq_true rfl) dX9_append_19 ⟨Nat.le_of_ble_eq_true rfl, Nat.le_of_ble_eq_true rfl⟩ (fun _ => Nat.le_of_ble_eq_true rfl) (fun _ => rfl) (fun v u H locs hp hG => ?_)
    subst hp
    refine g_ifne_b (B := ((bI (iz + 20 ≤ 400)) = 1)) (tgt := 27) S dX9_append_22 (by decide) (fun q22 => ?_) (fun q22 => ?_)
    · skip
      refine lv_aload_n S.1 S.2.1 dX9_append_27 rfl (lv_at hl 0 rfl) ?_
      refine lv_iload_n S.1 S.2.1 dX9_append_28 rfl (lv_at hl 1 rfl) ?_
      refine g_invVv (As := [.int (iI y)]) (rest := []) (gs' := (fun u : Unit => [gMdl K am (thr (bI (iz + 20 ≤ 400)) 1 1) rw lg mr en pw sl ly dn (iz + 4) tz nx st tk vl ef ep hO hB ol rm oz, gArrB K 400 (am 10) (app4 IF iz y)])) S C hG [0, 1] (c_X9_appendFour l K am (thr (bI (iz + 20 ≤ 400)) 1 1) rw lg mr en pw sl ly dn iz tz nx st tk vl ef ep hO hB ol rm oz IF y (by omega) hv0) rfl rfl 0 rfl rfl (cwV 1 S.2.2.2.2 gX9_append_X9_appendFour rfl rfl rfl (by decide +kernel) ⟨Nat.le_of_ble_eq_true rfl, Nat.le_of_ble_eq_true rfl⟩) rfl hl.1 rfl (Nat.le_of_ble_eq_true rfl) dX9_append_29 ⟨Nat.le_of_ble_eq_true rfl, Nat.le_of_ble_eq_true rfl⟩ (fun _ => Nat.le_of_ble_eq_true rfl) (fun _ => rfl) (fun u H locs hp hG => ?_)
      refine lv_aload_n S.1 S.2.1 dX9_append_32 rfl (lv_at hl 0 rfl) ?_
      refine lv_iload_n S.1 S.2.1 dX9_append_33 rfl (lv_at hl 2 rfl) ?_
      refine g_invVv (As := [.int (iI a1)]) (rest := []) (gs' := (fun u : Unit => [gMdl K am (thr (bI (iz + 20 ≤ 400)) 1 1) rw lg mr en pw sl ly dn ((iz + 4) + 4) tz nx st tk vl ef ep hO hB ol rm oz, gArrB K 400 (am 10) (app4 (app4 IF iz y) (iz + 4) a1)])) S C hG [0, 1] (c_X9_appendFour l K am (thr (bI (iz + 20 ≤ 400)) 1 1) rw lg mr en pw sl ly dn (iz + 4) tz nx st tk vl ef ep hO hB ol rm oz (app4 IF iz y) a1 (by omega) hv1) rfl rfl 0 rfl rfl (cwV 1 S.2.2.2.2 gX9_append_X9_appendFour rfl rfl rfl (by decide +kernel) ⟨Nat.le_of_ble_eq_true rfl, Nat.le_of_ble_eq_true rfl⟩) rfl hl.1 rfl (Nat.le_of_ble_eq_true rfl) dX9_append_34 ⟨Nat.le_of_ble_eq_true rfl, Nat.le_of_ble_eq_true rfl⟩ (fun _ => Nat.le_of_ble_eq_true rfl) (fun _ => rfl) (fun u H locs hp hG => ?_)
      refine lv_aload_n S.1 S.2.1 dX9_append_37 rfl (lv_at hl 0 rfl) ?_
      refine lv_iload_n S.1 S.2.1 dX9_append_38 rfl (lv_at hl 3 rfl) ?_
      refine g_invVv (As := [.int (iI a2)]) (rest := []) (gs' := (fun u : Unit => [gMdl K am (thr (bI (iz + 20 ≤ 400)) 1 1) rw lg mr en pw sl ly dn (((iz + 4) + 4) + 4) tz nx st tk vl ef ep hO hB ol rm oz, gArrB K 400 (am 10) (app4 (app4 (app4 IF iz y) (iz + 4) a1) ((iz + 4) + 4) a2)])) S C hG [0, 1] (c_X9_appendFour l K am (thr (bI (iz + 20 ≤ 400)) 1 1) rw lg mr en pw sl ly dn ((iz + 4) + 4) tz nx st tk vl ef ep hO hB ol rm oz (app4 (app4 IF iz y) (iz + 4) a1) a2 (by omega) hv2) rfl rfl 0 rfl rfl (cwV 1 S.2.2.2.2 gX9_append_X9_appendFour rfl rfl rfl (by decide +kernel) ⟨Nat.le_of_ble_eq_true rfl, Nat.le_of_ble_eq_true rfl⟩) rfl hl.1 rfl (Nat.le_of_ble_eq_true rfl) dX9_append_39 ⟨Nat.le_of_ble_eq_true rfl, Nat.le_of_ble_eq_true rfl⟩ (fun _ => Nat.le_of_ble_eq_true rfl) (fun _ => rfl) (fun u H locs hp hG => ?_)
      refine lv_aload_n S.1 S.2.1 dX9_append_42 rfl (lv_at hl 0 rfl) ?_
      refine lv_iload S.1 S.2.1 dX9_append_43 (lv_at hl 4 rfl) ?_
      refine g_invVv (As := [.int (iI a3)]) (rest := []) (gs' := (fun u : Unit => [gMdl K am (thr (bI (iz + 20 ≤ 400)) 1 1) rw lg mr en pw sl ly dn ((((iz + 4) + 4) + 4) + 4) tz nx st tk vl ef ep hO hB ol rm oz, gArrB K 400 (am 10) (app4 (app4 (app4 (app4 IF iz y) (iz + 4) a1) ((iz + 4) + 4) a2) (((iz + 4) + 4) + 4) a3)])) S C hG [0, 1] (c_X9_appendFour l K am (thr (bI (iz + 20 ≤ 400)) 1 1) rw lg mr en pw sl ly dn (((iz + 4) + 4) + 4) tz nx st tk vl ef ep hO hB ol rm oz (app4 (app4 (app4 IF iz y) (iz + 4) a1) ((iz + 4) + 4) a2) a3 (by omega) hv3) rfl rfl 0 rfl rfl (cwV 1 S.2.2.2.2 gX9_append_X9_appendFour rfl rfl rfl (by decide +kernel) ⟨Nat.le_of_ble_eq_true rfl, Nat.le_of_ble_eq_true rfl⟩) rfl hl.1 rfl (Nat.le_of_ble_eq_true rfl) dX9_append_45 ⟨Nat.le_of_ble_eq_true rfl, Nat.le_of_ble_eq_true rfl⟩ (fun _ => Nat.le_of_ble_eq_true rfl) (fun _ => rfl) (fun u H locs hp hG => ?_)
      refine lv_aload_n S.1 S.2.1 dX9_append_48 rfl (lv_at hl 0 rfl) ?_
      refine lv_iload S.1 S.2.1 dX9_append_49 (lv_at hl 5 rfl) ?_
      refine g_invVv (As := [.int (iI a4)]) (rest := []) (gs' := (fun u : Unit => [gMdl K am (thr (bI (iz + 20 ≤ 400)) 1 1) rw lg mr en pw sl ly dn (((((iz + 4) + 4) + 4) + 4) + 4) tz nx st tk vl ef ep hO hB ol rm oz, gArrB K 400 (am 10) (app4 (app4 (app4 (app4 (app4 IF iz y) (iz + 4) a1) ((iz + 4) + 4) a2) (((iz + 4) + 4) + 4) a3) ((((iz + 4) + 4) + 4) + 4) a4)])) S C hG [0, 1] (c_X9_appendFour l K am (thr (bI (iz + 20 ≤ 400)) 1 1) rw lg mr en pw sl ly dn ((((iz + 4) + 4) + 4) + 4) tz nx st tk vl ef ep hO hB ol rm oz (app4 (app4 (app4 (app4 IF iz y) (iz + 4) a1) ((iz + 4) + 4) a2) (((iz + 4) + 4) + 4) a3) a4 (by omega) hv4) rfl rfl 0 rfl rfl (cwV 1 S.2.2.2.2 gX9_append_X9_appendFour rfl rfl rfl (by decide +kernel) ⟨Nat.le_of_ble_eq_true rfl, Nat.le_of_ble_eq_true rfl⟩) rfl hl.1 rfl (Nat.le_of_ble_eq_true rfl) dX9_append_51 ⟨Nat.le_of_ble_eq_true rfl, Nat.le_of_ble_eq_true rfl⟩ (fun _ => Nat.le_of_ble_eq_true rfl) (fun _ => rfl) (fun u H locs hp hG => ?_)
      refine lv_aload_n S.1 S.2.1 dX9_append_54 rfl (lv_at hl 0 rfl) ?_
      refine g_get S C hG iX90 0 rfl rfl 19 (by decide) (List.mem_of_getElem? (i := 1) rfl) rfl dX9_append_55 ?_
      have hG : gW K A s.heap [gMdl K am (thr (bI (iz + 20 ≤ 400)) 1 1) rw lg mr en pw sl ly dn (iz + 20) tz nx st tk vl ef ep hO hB ol rm oz, gArrB K 400 (am 10) (apd5 IF iz y a1 a2 a3 a4)] _ _ := (by rw [show iz + 4 + 4 + 4 + 4 + 4 = iz + 20 by omega] at hG <;> exact hG)
      exact g_iret S hr hlk hQ dX9_append_58 (Nat.le_of_ble_eq_true rfl) (Nat.le_of_ble_eq_true rfl) (() : Unit) (congrArg (fun z : Int => Value.int (iI z)) (by omega)) hG
    · skip
      exact absurd (bI_t g1) q22
  refine g_icmp_gt (tgt := 18) S dX9_append_11 (by decide) (by omega) (by omega) (fun q11 => ?_) (fun q11 => ?_)
  · skip
    refine g_iconst S dX9_append_18 ?_
    refine g_top (w := .int (iI (bI (iz + 20 ≤ 400)))) (congrArg (fun z : Int => Value.int (iI z)) ((bI_f (by omega)).symm)) ?_
    exact J19 _ _ _ (lv_sub hl [0, 1, 2, 3, 4, 5] rfl) hG
  · skip
    refine g_iconst S dX9_append_14 ?_
    refine g_top (w := .int (iI (bI (iz + 20 ≤ 400)))) (congrArg (fun z : Int => Value.int (iI z)) ((bI_t (by omega)).symm)) ?_
    refine lv_goto (tgt := 19) S.1 S.2.1 dX9_append_15 (by decide) ?_
    exact J19 _ _ _ (lv_sub hl [0, 1, 2, 3, 4, 5] rfl) hG

set_option maxHeartbeats 1000000 in
set_option maxRecDepth 100000 in
theorem b_X9_append (l : Launch) (K : KC) (am : Nat → Nat) (th : Int) (rw : Nat) (lg : Int) (mr : Int) (en : Int) (pw : Int) (sl : Int) (ly : Int) (dn : Int) (iz : Int) (tz : Int) (nx : Int) (st : Int) (tk : Int) (vl : Int) (ef : Int) (ep : Int) (hO : Int) (hB : Int) (ol : Int) (rm : Int) (oz : Int) (y : Int) (a1 : Int) (a2 : Int) (a3 : Int) (a4 : Int) (hiz : 0 ≤ iz ∧ iz ≤ 400) (hv0 : -2147483648 ≤ y ∧ y < 2147483648) (hv1 : -2147483648 ≤ a1 ∧ a1 < 2147483648) (hv2 : -2147483648 ≤ a2 ∧ a2 < 2147483648) (hv3 : -2147483648 ≤ a3 ∧ a3 < 2147483648) (hv4 : -2147483648 ≤ a4 ∧ a4 < 2147483648) (hbad : ¬ (iz + 20 ≤ 400)) : mG l yX9_append wsX9_append 2 44 K [.ref (am 0), .int (iI y), .int (iI a1), .int (iI a2), .int (iI a3), .int (iI a4)] [gMdl K am th rw lg mr en pw sl ly dn iz tz nx st tk vl ef ep hO hB ol rm oz] (fun (v : Value) (u : Unit) => (v = .int (iI 0))) (fun (u : Unit) => [gMdl K am (thr (bI (iz + 20 ≤ 400)) 1 1) rw lg mr en pw sl ly dn iz tz nx st tk vl ef ep hO hB ol rm oz]) 0 0 := by
  refine mG_of cX9_append 6 (by decide) rfl (Nat.le_of_ble_eq_true rfl) ?_
  intro p e s m below meth c A ls Q S C hG hl hr hlk hin hQ
  have S : CallFix p m c cX9_append 6 s ([.ref (am 0), .int (iI y), .int (iI a1), .int (iI a2), .int (iI a3), .int (iI a4)] : List Value).toArray wsX9_append RX9 := S
  have iX90 : ∀ w ∈ wsX90, w ∈ wsX9_append := fun _ h => List.mem_cons_of_mem _ (List.mem_append_right _ (h))
  have hl : lv_has ls 6 [(0, .ref (am 0)), (1, .int (iI y)), (2, .int (iI a1)), (3, .int (iI a2)), (4, .int (iI a3)), (5, .int (iI a4))] := hl
  have hG : gW K A s.heap [gMdl K am th rw lg mr en pw sl ly dn iz tz nx st tk vl ef ep hO hB ol rm oz] s.heap [] := hG
  refine lv_aload_n S.1 S.2.1 dX9_append_0 rfl (lv_at hl 0 rfl) ?_
  refine lv_aload_n S.1 S.2.1 dX9_append_1 rfl (lv_at hl 0 rfl) ?_
  refine g_get S C hG iX90 0 rfl rfl 19 (by decide) (List.mem_of_getElem? (i := 1) rfl) rfl dX9_append_2 ?_
  refine g_bipush S dX9_append_5 (by decide) ?_
  refine g_iadd S dX9_append_7 rfl ?_
  refine g_sipush S dX9_append_8 (by decide) ?_
  have J19 : ∀ (H : Heap) (locs : List Loc) (ls : Array Slot), lv_has ls 6 [(0, .ref (am 0)), (1, .int (iI y)), (2, .int (iI a1)), (3, .int (iI a2)), (4, .int (iI a3)), (5, .int (iI a4))] → gW K A s.heap [gMdl K am th rw lg mr en pw sl ly dn iz tz nx st tk vl ef ep hO hB ol rm oz] H locs → W p l e { frames := 2, cells := 0, slots := 0, locals := 44 } s m ([.ref (am 0), .int (iI y), .int (iI a1), .int (iI a2), .int (iI a3), .int (iI a4)] : List Value).toArray below meth c H locs 0 0 Q (F0 m 19 ls [.int (iI (bI (iz + 20 ≤ 400))), .ref (am 0)]) := by
    intro  H locs ls  hl hG
    refine g_invV (As := [.int (iI (bI (iz + 20 ≤ 400)))]) (rest := []) (gs' := (fun u : Unit => [gMdl K am (thr (bI (iz + 20 ≤ 400)) 1 1) rw lg mr en pw sl ly dn iz tz nx st tk vl ef ep hO hB ol rm oz])) S C hG [0] (c_X9_passes l K am th rw lg mr en pw sl ly dn iz tz nx st tk vl ef ep hO hB ol rm oz (bI (iz + 20 ≤ 400)) (bI_01 _)) rfl rfl 0 rfl rfl (cwV 1 S.2.2.2.2 gX9_append_X9_passes rfl rfl rfl (by decide +kernel) ⟨Nat.le_of_ble_eq_true rfl, Nat.le_of_ble_eq_true rfl⟩) rfl hl.1 rfl (Nat.le_of_ble_eq_true rfl) dX9_append_19 ⟨Nat.le_of_ble_eq_true rfl, Nat.le_of_ble_eq_true rfl⟩ (fun _ => Nat.le_of_ble_eq_true rfl) (fun _ => rfl) (fun v u H locs hp hG => ?_)
    subst hp
    refine g_ifne_b (B := ((bI (iz + 20 ≤ 400)) = 1)) (tgt := 27) S dX9_append_22 (by decide) (fun q22 => ?_) (fun q22 => ?_)
    · skip
      exact absurd (bI1 q22) hbad
    · skip
      refine g_iconst S dX9_append_25 ?_
      have hG : gW K A s.heap [gMdl K am (thr (bI (iz + 20 ≤ 400)) 1 1) rw lg mr en pw sl ly dn iz tz nx st tk vl ef ep hO hB ol rm oz] _ _ := hG
      exact g_iret S hr hlk hQ dX9_append_26 (Nat.le_of_ble_eq_true rfl) (Nat.le_of_ble_eq_true rfl) (() : Unit) rfl hG
  refine g_icmp_gt (tgt := 18) S dX9_append_11 (by decide) (by omega) (by omega) (fun q11 => ?_) (fun q11 => ?_)
  · skip
    refine g_iconst S dX9_append_18 ?_
    refine g_top (w := .int (iI (bI (iz + 20 ≤ 400)))) (congrArg (fun z : Int => Value.int (iI z)) ((bI_f (by omega)).symm)) ?_
    exact J19 _ _ _ (lv_sub hl [0, 1, 2, 3, 4, 5] rfl) hG
  · skip
    refine g_iconst S dX9_append_14 ?_
    refine g_top (w := .int (iI (bI (iz + 20 ≤ 400)))) (congrArg (fun z : Int => Value.int (iI z)) ((bI_t (by omega)).symm)) ?_
    refine lv_goto (tgt := 19) S.1 S.2.1 dX9_append_15 (by decide) ?_
    exact J19 _ _ _ (lv_sub hl [0, 1, 2, 3, 4, 5] rfl) hG

set_option maxHeartbeats 1000000 in
set_option maxRecDepth 100000 in
theorem c_X9_truncate (l : Launch) (K : KC) (am : Nat → Nat) (th : Int) (rw : Nat) (lg : Int) (mr : Int) (en : Int) (pw : Int) (sl : Int) (ly : Int) (dn : Int) (iz : Int) (tz : Int) (nx : Int) (st : Int) (tk : Int) (vl : Int) (ef : Int) (ep : Int) (hO : Int) (hB : Int) (ol : Int) (rm : Int) (oz : Int) (x : Int) (hiz : 0 ≤ iz ∧ iz ≤ 400) (hx : -2147483648 ≤ x ∧ x < 2147483648) (g1 : 0 ≤ x ∧ x ≤ iz) : mV l yX9_truncate wsX9_truncate 2 44 K [.ref (am 0), .int (iI x)] [gMdl K am th rw lg mr en pw sl ly dn iz tz nx st tk vl ef ep hO hB ol rm oz] (fun (u : Unit) => True) (fun (u : Unit) => [gMdl K am (thr (bI (0 ≤ x ∧ x ≤ iz)) 1 1) rw lg mr en pw sl ly dn x tz nx st tk vl ef ep hO hB ol rm oz]) 0 0 := by
  refine mV_of cX9_truncate 2 (by decide) rfl (Nat.le_of_ble_eq_true rfl) ?_
  intro p e s m below meth c A ls Q S C hG hl hr hlk hin hQ
  have S : CallFix p m c cX9_truncate 2 s ([.ref (am 0), .int (iI x)] : List Value).toArray wsX9_truncate RX9 := S
  have iX90 : ∀ w ∈ wsX90, w ∈ wsX9_truncate := fun _ h => List.mem_cons_of_mem _ (List.mem_append_right _ (h))
  have hl : lv_has ls 2 [(0, .ref (am 0)), (1, .int (iI x))] := hl
  have hG : gW K A s.heap [gMdl K am th rw lg mr en pw sl ly dn iz tz nx st tk vl ef ep hO hB ol rm oz] s.heap [] := hG
  refine lv_aload_n S.1 S.2.1 dX9_truncate_0 rfl (lv_at hl 0 rfl) ?_
  refine lv_iload_n S.1 S.2.1 dX9_truncate_1 rfl (lv_at hl 1 rfl) ?_
  refine g_i2l S dX9_truncate_2 (by omega) ?_
  refine g_lconst (z := 0) S dX9_truncate_3 rfl ?_
  refine lv_aload_n S.1 S.2.1 dX9_truncate_4 rfl (lv_at hl 0 rfl) ?_
  refine g_get S C hG iX90 0 rfl rfl 19 (by decide) (List.mem_of_getElem? (i := 1) rfl) rfl dX9_truncate_5 ?_
  refine g_i2l S dX9_truncate_8 (by omega) ?_
  refine g_invS (As := [.long (iL x), .long (iL 0), .long (iL iz)]) (rest := [.ref (am 0)]) (gs' := (fun u : Unit => [gMdl K am th rw lg mr en pw sl ly dn iz tz nx st tk vl ef ep hO hB ol rm oz])) S C hG [] (c_X9_in l K x 0 iz (by omega) (by omega) (by omega)) rfl rfl (va_cwS 3 S.2.2.2.2 gX9_truncate_X9_in rfl rfl rfl (by decide +kernel) ⟨Nat.le_of_ble_eq_true rfl, Nat.le_of_ble_eq_true rfl⟩) rfl hl.1 rfl (Nat.le_of_ble_eq_true rfl) dX9_truncate_9 ⟨Nat.le_of_ble_eq_true rfl, Nat.le_of_ble_eq_true rfl⟩ (fun _ => Nat.le_of_ble_eq_true rfl) (fun _ => rfl) (fun v u H locs hp hG => ?_)
  subst hp
  refine g_invV (As := [.int (iI (bI (0 ≤ x ∧ x ≤ iz)))]) (rest := []) (gs' := (fun u : Unit => [gMdl K am (thr (bI (0 ≤ x ∧ x ≤ iz)) 1 1) rw lg mr en pw sl ly dn iz tz nx st tk vl ef ep hO hB ol rm oz])) S C hG [0] (c_X9_passes l K am th rw lg mr en pw sl ly dn iz tz nx st tk vl ef ep hO hB ol rm oz (bI (0 ≤ x ∧ x ≤ iz)) (bI_01 _)) rfl rfl 0 rfl rfl (cwV 1 S.2.2.2.2 gX9_truncate_X9_passes rfl rfl rfl (by decide +kernel) ⟨Nat.le_of_ble_eq_true rfl, Nat.le_of_ble_eq_true rfl⟩) rfl hl.1 rfl (Nat.le_of_ble_eq_true rfl) dX9_truncate_12 ⟨Nat.le_of_ble_eq_true rfl, Nat.le_of_ble_eq_true rfl⟩ (fun _ => Nat.le_of_ble_eq_true rfl) (fun _ => rfl) (fun v u H locs hp hG => ?_)
  subst hp
  refine g_ifeq_b (B := ((bI (0 ≤ x ∧ x ≤ iz)) = 1)) (tgt := 23) S dX9_truncate_15 (by decide) (fun q15 => ?_) (fun q15 => ?_)
  · skip
    exact absurd (bI_t g1) q15
  · skip
    refine lv_aload_n S.1 S.2.1 dX9_truncate_18 rfl (lv_at hl 0 rfl) ?_
    refine lv_iload_n S.1 S.2.1 dX9_truncate_19 rfl (lv_at hl 1 rfl) ?_
    refine g_put (gs' := [gMdl K am (thr (bI (0 ≤ x ∧ x ≤ iz)) 1 1) rw lg mr en pw sl ly dn x tz nx st tk vl ef ep hO hB ol rm oz]) S C hG iX90 tyX9 tyX9_ok nmX9 0 rfl rfl 19 (by decide) (List.mem_of_getElem? (i := 1) rfl) rfl rfl rfl (Nat.le_of_ble_eq_true rfl) rfl dX9_truncate_20 (fun H locs hG => ?_)
    have hG : gW K A s.heap [gMdl K am (thr (bI (0 ≤ x ∧ x ≤ iz)) 1 1) rw lg mr en pw sl ly dn x tz nx st tk vl ef ep hO hB ol rm oz] _ _ := hG
    exact g_vret S hr hlk hQ dX9_truncate_23 (Nat.le_of_ble_eq_true rfl) (Nat.le_of_ble_eq_true rfl) (() : Unit) trivial hG

set_option maxHeartbeats 1000000 in
set_option maxRecDepth 100000 in
theorem b_X9_truncate (l : Launch) (K : KC) (am : Nat → Nat) (th : Int) (rw : Nat) (lg : Int) (mr : Int) (en : Int) (pw : Int) (sl : Int) (ly : Int) (dn : Int) (iz : Int) (tz : Int) (nx : Int) (st : Int) (tk : Int) (vl : Int) (ef : Int) (ep : Int) (hO : Int) (hB : Int) (ol : Int) (rm : Int) (oz : Int) (x : Int) (hiz : 0 ≤ iz ∧ iz ≤ 400) (hx : -2147483648 ≤ x ∧ x < 2147483648) (hbad : ¬ (0 ≤ x ∧ x ≤ iz)) : mV l yX9_truncate wsX9_truncate 2 44 K [.ref (am 0), .int (iI x)] [gMdl K am th rw lg mr en pw sl ly dn iz tz nx st tk vl ef ep hO hB ol rm oz] (fun (u : Unit) => True) (fun (u : Unit) => [gMdl K am (thr (bI (0 ≤ x ∧ x ≤ iz)) 1 1) rw lg mr en pw sl ly dn iz tz nx st tk vl ef ep hO hB ol rm oz]) 0 0 := by
  refine mV_of cX9_truncate 2 (by decide) rfl (Nat.le_of_ble_eq_true rfl) ?_
  intro p e s m below meth c A ls Q S C hG hl hr hlk hin hQ
  have S : CallFix p m c cX9_truncate 2 s ([.ref (am 0), .int (iI x)] : List Value).toArray wsX9_truncate RX9 := S
  have iX90 : ∀ w ∈ wsX90, w ∈ wsX9_truncate := fun _ h => List.mem_cons_of_mem _ (List.mem_append_right _ (h))
  have hl : lv_has ls 2 [(0, .ref (am 0)), (1, .int (iI x))] := hl
  have hG : gW K A s.heap [gMdl K am th rw lg mr en pw sl ly dn iz tz nx st tk vl ef ep hO hB ol rm oz] s.heap [] := hG
  refine lv_aload_n S.1 S.2.1 dX9_truncate_0 rfl (lv_at hl 0 rfl) ?_
  refine lv_iload_n S.1 S.2.1 dX9_truncate_1 rfl (lv_at hl 1 rfl) ?_
  refine g_i2l S dX9_truncate_2 (by omega) ?_
  refine g_lconst (z := 0) S dX9_truncate_3 rfl ?_
  refine lv_aload_n S.1 S.2.1 dX9_truncate_4 rfl (lv_at hl 0 rfl) ?_
  refine g_get S C hG iX90 0 rfl rfl 19 (by decide) (List.mem_of_getElem? (i := 1) rfl) rfl dX9_truncate_5 ?_
  refine g_i2l S dX9_truncate_8 (by omega) ?_
  refine g_invS (As := [.long (iL x), .long (iL 0), .long (iL iz)]) (rest := [.ref (am 0)]) (gs' := (fun u : Unit => [gMdl K am th rw lg mr en pw sl ly dn iz tz nx st tk vl ef ep hO hB ol rm oz])) S C hG [] (c_X9_in l K x 0 iz (by omega) (by omega) (by omega)) rfl rfl (va_cwS 3 S.2.2.2.2 gX9_truncate_X9_in rfl rfl rfl (by decide +kernel) ⟨Nat.le_of_ble_eq_true rfl, Nat.le_of_ble_eq_true rfl⟩) rfl hl.1 rfl (Nat.le_of_ble_eq_true rfl) dX9_truncate_9 ⟨Nat.le_of_ble_eq_true rfl, Nat.le_of_ble_eq_true rfl⟩ (fun _ => Nat.le_of_ble_eq_true rfl) (fun _ => rfl) (fun v u H locs hp hG => ?_)
  subst hp
  refine g_invV (As := [.int (iI (bI (0 ≤ x ∧ x ≤ iz)))]) (rest := []) (gs' := (fun u : Unit => [gMdl K am (thr (bI (0 ≤ x ∧ x ≤ iz)) 1 1) rw lg mr en pw sl ly dn iz tz nx st tk vl ef ep hO hB ol rm oz])) S C hG [0] (c_X9_passes l K am th rw lg mr en pw sl ly dn iz tz nx st tk vl ef ep hO hB ol rm oz (bI (0 ≤ x ∧ x ≤ iz)) (bI_01 _)) rfl rfl 0 rfl rfl (cwV 1 S.2.2.2.2 gX9_truncate_X9_passes rfl rfl rfl (by decide +kernel) ⟨Nat.le_of_ble_eq_true rfl, Nat.le_of_ble_eq_true rfl⟩) rfl hl.1 rfl (Nat.le_of_ble_eq_true rfl) dX9_truncate_12 ⟨Nat.le_of_ble_eq_true rfl, Nat.le_of_ble_eq_true rfl⟩ (fun _ => Nat.le_of_ble_eq_true rfl) (fun _ => rfl) (fun v u H locs hp hG => ?_)
  subst hp
  refine g_ifeq_b (B := ((bI (0 ≤ x ∧ x ≤ iz)) = 1)) (tgt := 23) S dX9_truncate_15 (by decide) (fun q15 => ?_) (fun q15 => ?_)
  · skip
    have hG : gW K A s.heap [gMdl K am (thr (bI (0 ≤ x ∧ x ≤ iz)) 1 1) rw lg mr en pw sl ly dn iz tz nx st tk vl ef ep hO hB ol rm oz] _ _ := hG
    exact g_vret S hr hlk hQ dX9_truncate_23 (Nat.le_of_ble_eq_true rfl) (Nat.le_of_ble_eq_true rfl) (() : Unit) trivial hG
  · skip
    exact absurd (bI1 q15) hbad

set_option maxHeartbeats 1000000 in
set_option maxRecDepth 100000 in
theorem c_X9_undoCount (l : Launch) (K : KC) (am : Nat → Nat) (th : Int) (rw : Nat) (lg : Int) (mr : Int) (en : Int) (pw : Int) (sl : Int) (ly : Int) (dn : Int) (iz : Int) (tz : Int) (nx : Int) (st : Int) (tk : Int) (vl : Int) (ef : Int) (ep : Int) (hO : Int) (hB : Int) (ol : Int) (rm : Int) (oz : Int) : mG l yX9_undoCount wsX9_undoCount 0 0 K [.ref (am 0)] [gMdl K am th rw lg mr en pw sl ly dn iz tz nx st tk vl ef ep hO hB ol rm oz] (fun (v : Value) (u : Unit) => (v = .int (iI rm))) (fun (u : Unit) => [gMdl K am 0 rw lg mr en pw sl ly dn iz tz nx st tk vl ef ep hO hB ol rm oz]) 0 0 := by
  refine mG_of cX9_undoCount 1 (by decide) rfl (Nat.le_of_ble_eq_true rfl) ?_
  intro p e s m below meth c A ls Q S C hG hl hr hlk hin hQ
  have S : CallFix p m c cX9_undoCount 1 s ([.ref (am 0)] : List Value).toArray wsX9_undoCount RX9 := S
  have iX90 : ∀ w ∈ wsX90, w ∈ wsX9_undoCount := fun _ h => List.mem_cons_of_mem _ (List.mem_append_right _ (h))
  have hl : lv_has ls 1 [(0, .ref (am 0))] := hl
  have hG : gW K A s.heap [gMdl K am th rw lg mr en pw sl ly dn iz tz nx st tk vl ef ep hO hB ol rm oz] s.heap [] := hG
  refine lv_aload_n S.1 S.2.1 dX9_undoCount_0 rfl (lv_at hl 0 rfl) ?_
  refine g_iconst S dX9_undoCount_1 ?_
  refine g_put (gs' := [gMdl K am 0 rw lg mr en pw sl ly dn iz tz nx st tk vl ef ep hO hB ol rm oz]) S C hG iX90 tyX9 tyX9_ok nmX9 0 rfl rfl 0 (by decide) (List.mem_of_getElem? (i := 1) rfl) rfl rfl rfl (Nat.le_of_ble_eq_true rfl) rfl dX9_undoCount_2 (fun H locs hG => ?_)
  refine lv_aload_n S.1 S.2.1 dX9_undoCount_5 rfl (lv_at hl 0 rfl) ?_
  refine g_get S C hG iX90 0 rfl rfl 38 (by decide) (List.mem_of_getElem? (i := 2) rfl) rfl dX9_undoCount_6 ?_
  have hG : gW K A s.heap [gMdl K am 0 rw lg mr en pw sl ly dn iz tz nx st tk vl ef ep hO hB ol rm oz] _ _ := hG
  exact g_iret S hr hlk hQ dX9_undoCount_9 (Nat.le_of_ble_eq_true rfl) (Nat.le_of_ble_eq_true rfl) (() : Unit) rfl hG

set_option maxHeartbeats 1000000 in
set_option maxRecDepth 100000 in
theorem c_X9_errorCode (l : Launch) (K : KC) (am : Nat → Nat) (th : Int) (rw : Nat) (lg : Int) (mr : Int) (en : Int) (pw : Int) (sl : Int) (ly : Int) (dn : Int) (iz : Int) (tz : Int) (nx : Int) (st : Int) (tk : Int) (vl : Int) (ef : Int) (ep : Int) (hO : Int) (hB : Int) (ol : Int) (rm : Int) (oz : Int) : mG l yX9_errorCode wsX9_errorCode 0 0 K [.ref (am 0)] [gMdl K am th rw lg mr en pw sl ly dn iz tz nx st tk vl ef ep hO hB ol rm oz] (fun (v : Value) (u : Unit) => (v = .int (iI ef))) (fun (u : Unit) => [gMdl K am 0 rw lg mr en pw sl ly dn iz tz nx st tk vl ef ep hO hB ol rm oz]) 0 0 := by
  refine mG_of cX9_errorCode 1 (by decide) rfl (Nat.le_of_ble_eq_true rfl) ?_
  intro p e s m below meth c A ls Q S C hG hl hr hlk hin hQ
  have S : CallFix p m c cX9_errorCode 1 s ([.ref (am 0)] : List Value).toArray wsX9_errorCode RX9 := S
  have iX90 : ∀ w ∈ wsX90, w ∈ wsX9_errorCode := fun _ h => List.mem_cons_of_mem _ (List.mem_append_right _ (h))
  have hl : lv_has ls 1 [(0, .ref (am 0))] := hl
  have hG : gW K A s.heap [gMdl K am th rw lg mr en pw sl ly dn iz tz nx st tk vl ef ep hO hB ol rm oz] s.heap [] := hG
  refine lv_aload_n S.1 S.2.1 dX9_errorCode_0 rfl (lv_at hl 0 rfl) ?_
  refine g_iconst S dX9_errorCode_1 ?_
  refine g_put (gs' := [gMdl K am 0 rw lg mr en pw sl ly dn iz tz nx st tk vl ef ep hO hB ol rm oz]) S C hG iX90 tyX9 tyX9_ok nmX9 0 rfl rfl 0 (by decide) (List.mem_of_getElem? (i := 1) rfl) rfl rfl rfl (Nat.le_of_ble_eq_true rfl) rfl dX9_errorCode_2 (fun H locs hG => ?_)
  refine lv_aload_n S.1 S.2.1 dX9_errorCode_5 rfl (lv_at hl 0 rfl) ?_
  refine g_get S C hG iX90 0 rfl rfl 25 (by decide) (List.mem_of_getElem? (i := 2) rfl) rfl dX9_errorCode_6 ?_
  have hG : gW K A s.heap [gMdl K am 0 rw lg mr en pw sl ly dn iz tz nx st tk vl ef ep hO hB ol rm oz] _ _ := hG
  exact g_iret S hr hlk hQ dX9_errorCode_9 (Nat.le_of_ble_eq_true rfl) (Nat.le_of_ble_eq_true rfl) (() : Unit) rfl hG

set_option maxHeartbeats 1000000 in
set_option maxRecDepth 100000 in
theorem c_X9_errorPosition (l : Launch) (K : KC) (am : Nat → Nat) (th : Int) (rw : Nat) (lg : Int) (mr : Int) (en : Int) (pw : Int) (sl : Int) (ly : Int) (dn : Int) (iz : Int) (tz : Int) (nx : Int) (st : Int) (tk : Int) (vl : Int) (ef : Int) (ep : Int) (hO : Int) (hB : Int) (ol : Int) (rm : Int) (oz : Int) : mG l yX9_errorPosition wsX9_errorPosition 0 0 K [.ref (am 0)] [gMdl K am th rw lg mr en pw sl ly dn iz tz nx st tk vl ef ep hO hB ol rm oz] (fun (v : Value) (u : Unit) => (v = .int (iI ep))) (fun (u : Unit) => [gMdl K am 0 rw lg mr en pw sl ly dn iz tz nx st tk vl ef ep hO hB ol rm oz]) 0 0 := by
  refine mG_of cX9_errorPosition 1 (by decide) rfl (Nat.le_of_ble_eq_true rfl) ?_
  intro p e s m below meth c A ls Q S C hG hl hr hlk hin hQ
  have S : CallFix p m c cX9_errorPosition 1 s ([.ref (am 0)] : List Value).toArray wsX9_errorPosition RX9 := S
  have iX90 : ∀ w ∈ wsX90, w ∈ wsX9_errorPosition := fun _ h => List.mem_cons_of_mem _ (List.mem_append_right _ (h))
  have hl : lv_has ls 1 [(0, .ref (am 0))] := hl
  have hG : gW K A s.heap [gMdl K am th rw lg mr en pw sl ly dn iz tz nx st tk vl ef ep hO hB ol rm oz] s.heap [] := hG
  refine lv_aload_n S.1 S.2.1 dX9_errorPosition_0 rfl (lv_at hl 0 rfl) ?_
  refine g_iconst S dX9_errorPosition_1 ?_
  refine g_put (gs' := [gMdl K am 0 rw lg mr en pw sl ly dn iz tz nx st tk vl ef ep hO hB ol rm oz]) S C hG iX90 tyX9 tyX9_ok nmX9 0 rfl rfl 0 (by decide) (List.mem_of_getElem? (i := 1) rfl) rfl rfl rfl (Nat.le_of_ble_eq_true rfl) rfl dX9_errorPosition_2 (fun H locs hG => ?_)
  refine lv_aload_n S.1 S.2.1 dX9_errorPosition_5 rfl (lv_at hl 0 rfl) ?_
  refine g_get S C hG iX90 0 rfl rfl 26 (by decide) (List.mem_of_getElem? (i := 2) rfl) rfl dX9_errorPosition_6 ?_
  have hG : gW K A s.heap [gMdl K am 0 rw lg mr en pw sl ly dn iz tz nx st tk vl ef ep hO hB ol rm oz] _ _ := hG
  exact g_iret S hr hlk hQ dX9_errorPosition_9 (Nat.le_of_ble_eq_true rfl) (Nat.le_of_ble_eq_true rfl) (() : Unit) rfl hG
