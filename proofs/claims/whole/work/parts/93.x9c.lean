set_option maxHeartbeats 1000000 in
set_option maxRecDepth 100000 in
theorem c_X9_follow (l : Launch) (K : KC) (am : Nat → Nat) (th : Int) (rw : Nat) (lg : Int) (mr : Int) (en : Int) (pw : Int) (sl : Int) (ly : Int) (dn : Int) (iz : Int) (tz : Int) (nx : Int) (st : Int) (tk : Int) (vl : Int) (ef : Int) (ep : Int) (hO : Int) (hB : Int) (ol : Int) (rm : Int) (oz : Int) (NF : Int → Int) (A0 : Int → Int) (A1 : Int → Int) (A2 : Int → Int) (A3 : Int → Int) (A4 : Int → Int) (A5 : Int → Int) (A6 : Int → Int) (y : Int) (e0 : Int) (x : Int) (hN : NOk0 NF) (h0 : -2147483648 ≤ y ∧ y < 2147483648) (h1 : 0 ≤ x ∧ x ≤ 3999) (hx0 : e0 = 0 ∨ e0 = 1) : mV l yX9_follow wsX9_follow 4 90 K [.ref (am 0), .int (iI y), .int (iI e0), .int (iI x)] [gMdl K am th rw lg mr en pw sl ly dn iz tz nx st tk vl ef ep hO hB ol rm oz, gArr K 95 rw NF, gArr K 60 (am 3) A0, gArrZ K 60 (am 4) A1, gArr K 60 (am 5) A2, gArr K 60 (am 6) A3, gArr K 60 (am 7) A4, gArr K 60 (am 8) A5, gArr K 60 (am 9) A6] (fun (u : Int × Int × Int × Int × Int × Int × Int × (Int → Int) × (Int → Int) × (Int → Int) × (Int → Int) × (Int → Int) × (Int → Int) × (Int → Int)) => (FolR NF x y e0 u.1 u.2.1 u.2.2.1 u.2.2.2.1 u.2.2.2.2.2.2.2.1 u.2.2.2.2.2.2.2.2.1 u.2.2.2.2.2.2.2.2.2.1 u.2.2.2.2.2.2.2.2.2.2.1 u.2.2.2.2.2.2.2.2.2.2.2.1 u.2.2.2.2.2.2.2.2.2.2.2.2.1 u.2.2.2.2.2.2.2.2.2.2.2.2.2)) (fun (u : Int × Int × Int × Int × Int × Int × Int × (Int → Int) × (Int → Int) × (Int → Int) × (Int → Int) × (Int → Int) × (Int → Int) × (Int → Int)) => [gMdl K am th rw u.1 u.2.1 u.2.2.1 u.2.2.2.1 u.2.2.2.2.1 u.2.2.2.2.2.1 u.2.2.2.2.2.2.1 iz tz nx st tk vl ef ep hO hB ol rm oz, gArr K 95 rw NF, gArr K 60 (am 3) u.2.2.2.2.2.2.2.1, gArrZ K 60 (am 4) u.2.2.2.2.2.2.2.2.1, gArr K 60 (am 5) u.2.2.2.2.2.2.2.2.2.1, gArr K 60 (am 6) u.2.2.2.2.2.2.2.2.2.2.1, gArr K 60 (am 7) u.2.2.2.2.2.2.2.2.2.2.2.1, gArr K 60 (am 8) u.2.2.2.2.2.2.2.2.2.2.2.2.1, gArr K 60 (am 9) u.2.2.2.2.2.2.2.2.2.2.2.2.2]) 0 0 := by
  refine mV_of cX9_follow 5 (by decide) rfl (Nat.le_of_ble_eq_true rfl) ?_
  intro p e s m below meth c A ls Q S C hG hl hr hlk hin hQ
  have S : CallFix p m c cX9_follow 5 s ([.ref (am 0), .int (iI y), .int (iI e0), .int (iI x)] : List Value).toArray wsX9_follow RX9 := S
  have iX90 : ∀ w ∈ wsX90, w ∈ wsX9_follow := fun _ h => List.mem_cons_of_mem _ (List.mem_append_right _ (h))
  have hl : lv_has ls 5 [(0, .ref (am 0)), (1, .int (iI y)), (2, .int (iI e0)), (3, .int (iI x))] := hl
  have hG : gW K A s.heap [gMdl K am th rw lg mr en pw sl ly dn iz tz nx st tk vl ef ep hO hB ol rm oz, gArr K 95 rw NF, gArr K 60 (am 3) A0, gArrZ K 60 (am 4) A1, gArr K 60 (am 5) A2, gArr K 60 (am 6) A3, gArr K 60 (am 7) A4, gArr K 60 (am 8) A5, gArr K 60 (am 9) A6] s.heap [] := hG
  have n0 := hN.1
  have n3 := hN.2.2.2.1
  refine lv_aload_n S.1 S.2.1 dX9_follow_0 rfl (lv_at hl 0 rfl) ?_
  refine g_iconst S dX9_follow_1 ?_
  refine g_put (gs' := [gMdl K am th rw 0 mr en pw sl ly dn iz tz nx st tk vl ef ep hO hB ol rm oz, gArr K 95 rw NF, gArr K 60 (am 3) A0, gArrZ K 60 (am 4) A1, gArr K 60 (am 5) A2, gArr K 60 (am 6) A3, gArr K 60 (am 7) A4, gArr K 60 (am 8) A5, gArr K 60 (am 9) A6]) S C hG iX90 tyX9 tyX9_ok nmX9 0 rfl rfl 11 (by decide) (List.mem_of_getElem? (i := 1) rfl) rfl rfl rfl (Nat.le_of_ble_eq_true rfl) rfl dX9_follow_2 (fun H locs hG => ?_)
  refine lv_aload_n S.1 S.2.1 dX9_follow_5 rfl (lv_at hl 0 rfl) ?_
  refine g_iconst S dX9_follow_6 ?_
  refine g_put (gs' := [gMdl K am th rw 0 0 en pw sl ly dn iz tz nx st tk vl ef ep hO hB ol rm oz, gArr K 95 rw NF, gArr K 60 (am 3) A0, gArrZ K 60 (am 4) A1, gArr K 60 (am 5) A2, gArr K 60 (am 6) A3, gArr K 60 (am 7) A4, gArr K 60 (am 8) A5, gArr K 60 (am 9) A6]) S C hG iX90 tyX9 tyX9_ok nmX9 0 rfl rfl 12 (by decide) (List.mem_of_getElem? (i := 2) rfl) rfl rfl rfl (Nat.le_of_ble_eq_true rfl) rfl dX9_follow_7 (fun H locs hG => ?_)
  refine lv_aload_n S.1 S.2.1 dX9_follow_10 rfl (lv_at hl 0 rfl) ?_
  refine g_ldc2 (z := 1000000) S dX9_follow_11 (List.mem_of_getElem? (i := 3) rfl) rfl ?_
  refine g_put (gs' := [gMdl K am th rw 0 0 en 1000000 sl ly dn iz tz nx st tk vl ef ep hO hB ol rm oz, gArr K 95 rw NF, gArr K 60 (am 3) A0, gArrZ K 60 (am 4) A1, gArr K 60 (am 5) A2, gArr K 60 (am 6) A3, gArr K 60 (am 7) A4, gArr K 60 (am 8) A5, gArr K 60 (am 9) A6]) S C hG iX90 tyX9 tyX9_ok nmX9 0 rfl rfl 14 (by decide) (List.mem_of_getElem? (i := 4) rfl) rfl rfl rfl (Nat.le_of_ble_eq_true rfl) rfl dX9_follow_14 (fun H locs hG => ?_)
  refine lv_aload_n S.1 S.2.1 dX9_follow_17 rfl (lv_at hl 0 rfl) ?_
  refine g_iconst S dX9_follow_18 ?_
  refine g_put (gs' := [gMdl K am th rw 0 0 4 1000000 sl ly dn iz tz nx st tk vl ef ep hO hB ol rm oz, gArr K 95 rw NF, gArr K 60 (am 3) A0, gArrZ K 60 (am 4) A1, gArr K 60 (am 5) A2, gArr K 60 (am 6) A3, gArr K 60 (am 7) A4, gArr K 60 (am 8) A5, gArr K 60 (am 9) A6]) S C hG iX90 tyX9 tyX9_ok nmX9 0 rfl rfl 13 (by decide) (List.mem_of_getElem? (i := 5) rfl) rfl rfl rfl (Nat.le_of_ble_eq_true rfl) rfl dX9_follow_19 (fun H locs hG => ?_)
  refine lv_aload_n S.1 S.2.1 dX9_follow_22 rfl (lv_at hl 0 rfl) ?_
  refine lv_iload_n S.1 S.2.1 dX9_follow_23 rfl (lv_at hl 1 rfl) ?_
  refine g_invV (As := [.int (iI y)]) (rest := []) (gs' := (fun u : Unit => [gMdl K am th rw 0 0 4 1000000 sl ly dn iz tz nx st tk vl ef ep hO hB ol rm oz, gArr K 95 rw NF, gArr K 60 (am 3) A0, gArrZ K 60 (am 4) A1, gArr K 60 (am 5) A2, gArr K 60 (am 6) A3, gArr K 60 (am 7) A4, gArr K 60 (am 8) A5, gArr K 60 (am 9) A6])) S C hG [0, 1] (c_X9_isLayer l K am th rw 0 0 4 1000000 sl ly dn iz tz nx st tk vl ef ep hO hB ol rm oz NF y hN (by omega)) rfl rfl 0 rfl rfl (cwV 1 S.2.2.2.2 gX9_follow_X9_isLayer rfl rfl rfl (by decide +kernel) ⟨Nat.le_of_ble_eq_true rfl, Nat.le_of_ble_eq_true rfl⟩) rfl hl.1 rfl (Nat.le_of_ble_eq_true rfl) dX9_follow_24 ⟨Nat.le_of_ble_eq_true rfl, Nat.le_of_ble_eq_true rfl⟩ (fun _ => Nat.le_of_ble_eq_true rfl) (fun _ => rfl) (fun v u H locs hp hG => ?_)
  subst hp
  refine g_ifeq_b (B := (0 ≤ y ∧ y < NF 0)) (tgt := 40) S dX9_follow_27 (by decide) (fun q27 => ?_) (fun q27 => ?_)
  · skip
    refine lv_aload_n S.1 S.2.1 dX9_follow_40 rfl (lv_at hl 0 rfl) ?_
    refine g_lconst (z := 0) S dX9_follow_41 rfl ?_
    refine g_put (gs' := [gMdl K am th rw 0 0 4 0 sl ly dn iz tz nx st tk vl ef ep hO hB ol rm oz, gArr K 95 rw NF, gArr K 60 (am 3) A0, gArrZ K 60 (am 4) A1, gArr K 60 (am 5) A2, gArr K 60 (am 6) A3, gArr K 60 (am 7) A4, gArr K 60 (am 8) A5, gArr K 60 (am 9) A6]) S C hG iX90 tyX9 tyX9_ok nmX9 0 rfl rfl 14 (by decide) (List.mem_of_getElem? (i := 4) rfl) rfl rfl rfl (Nat.le_of_ble_eq_true rfl) rfl dX9_follow_42 (fun H locs hG => ?_)
    have hG : gW K A s.heap [gMdl K am th rw 0 0 4 0 sl ly dn iz tz nx st tk vl ef ep hO hB ol rm oz, gArr K 95 rw NF, gArr K 60 (am 3) A0, gArrZ K 60 (am 4) A1, gArr K 60 (am 5) A2, gArr K 60 (am 6) A3, gArr K 60 (am 7) A4, gArr K 60 (am 8) A5, gArr K 60 (am 9) A6] _ _ := hG
    exact g_vret S hr hlk hQ dX9_follow_45 (Nat.le_of_ble_eq_true rfl) (Nat.le_of_ble_eq_true rfl) ((0, 0, 4, 0, sl, ly, dn, A0, A1, A2, A3, A4, A5, A6) : Int × Int × Int × Int × Int × Int × Int × (Int → Int) × (Int → Int) × (Int → Int) × (Int → Int) × (Int → Int) × (Int → Int) × (Int → Int)) (FolR.none (fun b => q27 ⟨b.1, b.2.1⟩)) hG
  · skip
    have lb := lay_bd hN q27.1 q27.2
    refine lv_iload_n S.1 S.2.1 dX9_follow_30 rfl (lv_at hl 3 rfl) ?_
    refine lv_aload_n S.1 S.2.1 dX9_follow_31 rfl (lv_at hl 0 rfl) ?_
    refine lv_iload_n S.1 S.2.1 dX9_follow_32 rfl (lv_at hl 1 rfl) ?_
    refine g_iconst S dX9_follow_33 ?_
    refine g_invV (As := [.int (iI y), .int (iI 0)]) (rest := [.int (iI x)]) (gs' := (fun u : Unit => [gMdl K am th rw 0 0 4 1000000 sl ly dn iz tz nx st tk vl ef ep hO hB ol rm oz, gArr K 95 rw NF, gArr K 60 (am 3) A0, gArrZ K 60 (am 4) A1, gArr K 60 (am 5) A2, gArr K 60 (am 6) A3, gArr K 60 (am 7) A4, gArr K 60 (am 8) A5, gArr K 60 (am 9) A6])) S C hG [0, 1] (c_X9_ofLayer l K am th rw 0 0 4 1000000 sl ly dn iz tz nx st tk vl ef ep hO hB ol rm oz NF y 0 (by omega) (by decide)) rfl rfl 0 rfl rfl (cwV 2 S.2.2.2.2 gX9_follow_X9_ofLayer rfl rfl rfl (by decide +kernel) ⟨Nat.le_of_ble_eq_true rfl, Nat.le_of_ble_eq_true rfl⟩) rfl hl.1 rfl (Nat.le_of_ble_eq_true rfl) dX9_follow_34 ⟨Nat.le_of_ble_eq_true rfl, Nat.le_of_ble_eq_true rfl⟩ (fun _ => Nat.le_of_ble_eq_true rfl) (fun _ => rfl) (fun v u H locs hp hG => ?_)
    subst hp
    refine g_top (w := .int (iI (nX NF y))) (congrArg (fun z : Int => Value.int (iI z)) (rfl)) ?_
    refine g_icmp_lt (tgt := 46) S dX9_follow_37 (by decide) (by omega) (by omega) (fun q37 => ?_) (fun q37 => ?_)
    · skip
      refine lv_aload_n S.1 S.2.1 dX9_follow_46 rfl (lv_at hl 0 rfl) ?_
      refine lv_iload_n S.1 S.2.1 dX9_follow_47 rfl (lv_at hl 1 rfl) ?_
      refine g_put (gs' := [gMdl K am th rw 0 0 4 1000000 sl y dn iz tz nx st tk vl ef ep hO hB ol rm oz, gArr K 95 rw NF, gArr K 60 (am 3) A0, gArrZ K 60 (am 4) A1, gArr K 60 (am 5) A2, gArr K 60 (am 6) A3, gArr K 60 (am 7) A4, gArr K 60 (am 8) A5, gArr K 60 (am 9) A6]) S C hG iX90 tyX9 tyX9_ok nmX9 0 rfl rfl 16 (by decide) (List.mem_of_getElem? (i := 6) rfl) rfl rfl rfl (Nat.le_of_ble_eq_true rfl) rfl dX9_follow_48 (fun H locs hG => ?_)
      refine lv_aload_n S.1 S.2.1 dX9_follow_51 rfl (lv_at hl 0 rfl) ?_
      refine lv_iload_n S.1 S.2.1 dX9_follow_52 rfl (lv_at hl 2 rfl) ?_
      refine g_put (gs' := [gMdl K am th rw 0 0 4 1000000 sl y e0 iz tz nx st tk vl ef ep hO hB ol rm oz, gArr K 95 rw NF, gArr K 60 (am 3) A0, gArrZ K 60 (am 4) A1, gArr K 60 (am 5) A2, gArr K 60 (am 6) A3, gArr K 60 (am 7) A4, gArr K 60 (am 8) A5, gArr K 60 (am 9) A6]) S C hG iX90 tyX9 tyX9_ok nmX9 0 rfl rfl 17 (by decide) (List.mem_of_getElem? (i := 7) rfl) rfl (nz_b (by omega)) (fz_b (by omega)) (Nat.le_of_ble_eq_true rfl) rfl dX9_follow_53 (fun H locs hG => ?_)
      refine lv_aload_n S.1 S.2.1 dX9_follow_56 rfl (lv_at hl 0 rfl) ?_
      refine lv_iload_n S.1 S.2.1 dX9_follow_57 rfl (lv_at hl 3 rfl) ?_
      refine g_put (gs' := [gMdl K am th rw 0 0 4 1000000 x y e0 iz tz nx st tk vl ef ep hO hB ol rm oz, gArr K 95 rw NF, gArr K 60 (am 3) A0, gArrZ K 60 (am 4) A1, gArr K 60 (am 5) A2, gArr K 60 (am 6) A3, gArr K 60 (am 7) A4, gArr K 60 (am 8) A5, gArr K 60 (am 9) A6]) S C hG iX90 tyX9 tyX9_ok nmX9 0 rfl rfl 15 (by decide) (List.mem_of_getElem? (i := 8) rfl) rfl rfl rfl (Nat.le_of_ble_eq_true rfl) rfl dX9_follow_58 (fun H locs hG => ?_)
      refine lv_aload_n S.1 S.2.1 dX9_follow_61 rfl (lv_at hl 0 rfl) ?_
      refine g_iconst S dX9_follow_62 ?_
      refine g_put (gs' := [gMdl K am th rw 0 0 (-1) 1000000 x y e0 iz tz nx st tk vl ef ep hO hB ol rm oz, gArr K 95 rw NF, gArr K 60 (am 3) A0, gArrZ K 60 (am 4) A1, gArr K 60 (am 5) A2, gArr K 60 (am 6) A3, gArr K 60 (am 7) A4, gArr K 60 (am 8) A5, gArr K 60 (am 9) A6]) S C hG iX90 tyX9 tyX9_ok nmX9 0 rfl rfl 13 (by decide) (List.mem_of_getElem? (i := 5) rfl) rfl rfl rfl (Nat.le_of_ble_eq_true rfl) rfl dX9_follow_63 (fun H locs hG => ?_)
      have L66 : ∀ (fu : Nat) (k : Nat) (lg1 : Int) (mr1 : Int) (en1 : Int) (pw1 : Int) (ly1 : Int) (dn1 : Int) (gsh : Int) (gle : Int) (gtm : Int) (gtr : Int) (gcr : Int) (gde : Int) (B0 : Int → Int) (B1 : Int → Int) (B2 : Int → Int) (B3 : Int → Int) (B4 : Int → Int) (B5 : Int → Int) (B6 : Int → Int) (H : Heap) (locs : List Loc) (ls : Array Slot), (61 - k) < fu → (k ≤ 60) → (RunI NF x y e0 k ly1 dn1 lg1 en1 gsh gle gtm pw1 gtr mr1 gcr gde) → (FilI NF x y e0 k B0 B1 B2 B3 B4 B5 B6) → lv_has ls 5 [(0, .ref (am 0)), (1, .int (iI y)), (2, .int (iI e0)), (3, .int (iI x))] → gW K A s.heap [gMdl K am th rw lg1 mr1 en1 pw1 x ly1 dn1 iz tz nx st tk vl ef ep hO hB ol rm oz, gArr K 95 rw NF, gArr K 60 (am 3) B0, gArrZ K 60 (am 4) B1, gArr K 60 (am 5) B2, gArr K 60 (am 6) B3, gArr K 60 (am 7) B4, gArr K 60 (am 8) B5, gArr K 60 (am 9) B6] H locs → W p l e { frames := 4, cells := 0, slots := 0, locals := 90 } s m ([.ref (am 0), .int (iI y), .int (iI e0), .int (iI x)] : List Value).toArray below meth c H locs 0 0 Q (F0 m 66 ls []) := by
        intro fu
        induction fu with
        | zero => intro k lg1 mr1 en1 pw1 ly1 dn1 gsh gle gtm gtr gcr gde B0 B1 B2 B3 B4 B5 B6 H locs ls hfu; exact absurd hfu (Nat.not_lt_zero _)
        | succ fu ih =>
          intro k lg1 mr1 en1 pw1 ly1 dn1 gsh gle gtm gtr gcr gde B0 B1 B2 B3 B4 B5 B6 H locs ls hfu hk hI hF hl hG
          have hen : -1 ≤ en1 ∧ en1 ≤ 4 := hI.en_bd
          refine lv_aload_n S.1 S.2.1 dX9_follow_66 rfl (lv_at hl 0 rfl) ?_
          refine g_get S C hG iX90 0 rfl rfl 13 (by decide) (List.mem_of_getElem? (i := 5) rfl) rfl dX9_follow_67 ?_
          refine g_iconst S dX9_follow_70 ?_
          refine g_icmp_ne (tgt := 137) S dX9_follow_71 (by decide) (by omega) (by omega) (fun q71 => ?_) (fun q71 => ?_)
          · skip
            have hG : gW K A s.heap [gMdl K am th rw lg1 mr1 en1 pw1 x ly1 dn1 iz tz nx st tk vl ef ep hO hB ol rm oz, gArr K 95 rw NF, gArr K 60 (am 3) B0, gArrZ K 60 (am 4) B1, gArr K 60 (am 5) B2, gArr K 60 (am 6) B3, gArr K 60 (am 7) B4, gArr K 60 (am 8) B5, gArr K 60 (am 9) B6] _ _ := hG
            exact g_vret S hr hlk hQ dX9_follow_137 (Nat.le_of_ble_eq_true rfl) (Nat.le_of_ble_eq_true rfl) ((lg1, mr1, en1, pw1, x, ly1, dn1, B0, B1, B2, B3, B4, B5, B6) : Int × Int × Int × Int × Int × Int × Int × (Int → Int) × (Int → Int) × (Int → Int) × (Int → Int) × (Int → Int) × (Int → Int) × (Int → Int)) (FolR.of hI hk (by omega) hF) hG
          · skip
            have q71x : en1 = -1 := by omega
            have a9 := hI.alive q71x
            have b9 := hI.bd hN hk q71x h1.1 hx0
            have l6 := hI.lt60 hk q71x
            have s9 := hI.sums hN hk q71x h1.1 hx0
            have qb9 := lost_bd hN b9.1.1 b9.1.2 h1.1 b9.2.1 b9.2.2.2.1 b9.2.2.2.2
            refine lv_aload_n S.1 S.2.1 dX9_follow_74 rfl (lv_at hl 0 rfl) ?_
            refine g_invVv (As := []) (rest := []) (gs' := (fun u : Unit => [gMdl K am th rw (lg1 + 1) mr1 en1 (qN NF x ly1 pw1) x ly1 dn1 iz tz nx st tk vl ef ep hO hB ol rm oz, gArr K 95 rw NF, gArr K 60 (am 3) (upI B0 lg1 ly1), gArrZ K 60 (am 4) (upI B1 lg1 dn1), gArr K 60 (am 5) (upI B2 lg1 (shN NF x ly1)), gArr K 60 (am 6) (upI B3 lg1 (leN NF x ly1)), gArr K 60 (am 7) (upI B4 lg1 (tmN NF x ly1)), gArr K 60 (am 8) (upI B5 lg1 (qN NF x ly1 pw1)), gArr K 60 (am 9) B6])) S C hG [0, 1, 2, 3, 4, 5, 6, 7, 8] (c_X9_crossLayer l K am th rw lg1 mr1 en1 pw1 x ly1 dn1 iz tz nx st tk vl ef ep hO hB ol rm oz NF B0 B1 B2 B3 B4 B5 B6 hN b9.1 ⟨h1.1, b9.2.1⟩ b9.2.2.1 b9.2.2.2 (by omega)) rfl rfl 0 rfl rfl (cwV 0 S.2.2.2.2 gX9_follow_X9_crossLayer rfl rfl rfl (by decide +kernel) ⟨Nat.le_of_ble_eq_true rfl, Nat.le_of_ble_eq_true rfl⟩) rfl hl.1 rfl (Nat.le_of_ble_eq_true rfl) dX9_follow_75 ⟨Nat.le_of_ble_eq_true rfl, Nat.le_of_ble_eq_true rfl⟩ (fun _ => Nat.le_of_ble_eq_true rfl) (fun _ => rfl) (fun u H locs hp hG => ?_)
            refine lv_aload_n S.1 S.2.1 dX9_follow_78 rfl (lv_at hl 0 rfl) ?_
            refine g_invV (As := []) (rest := []) (gs' := (fun u : Unit => [gMdl K am th rw (lg1 + 1) mr1 en1 (qN NF x ly1 pw1) x ly1 dn1 iz tz nx st tk vl ef ep hO hB ol rm oz, gArr K 95 rw NF, gArr K 60 (am 3) (upI B0 lg1 ly1), gArrZ K 60 (am 4) (upI B1 lg1 dn1), gArr K 60 (am 5) (upI B2 lg1 (shN NF x ly1)), gArr K 60 (am 6) (upI B3 lg1 (leN NF x ly1)), gArr K 60 (am 7) (upI B4 lg1 (tmN NF x ly1)), gArr K 60 (am 8) (upI B5 lg1 (qN NF x ly1 pw1)), gArr K 60 (am 9) B6])) S C hG [0, 1] (c_X9_whatBehind l K am th rw (lg1 + 1) mr1 en1 (qN NF x ly1 pw1) x ly1 dn1 iz tz nx st tk vl ef ep hO hB ol rm oz NF hN b9.1 ⟨h1.1, b9.2.1⟩ b9.2.2.1 (by omega)) rfl rfl 0 rfl rfl (cwV 0 S.2.2.2.2 gX9_follow_X9_whatBehind rfl rfl rfl (by decide +kernel) ⟨Nat.le_of_ble_eq_true rfl, Nat.le_of_ble_eq_true rfl⟩) rfl hl.1 rfl (Nat.le_of_ble_eq_true rfl) dX9_follow_79 ⟨Nat.le_of_ble_eq_true rfl, Nat.le_of_ble_eq_true rfl⟩ (fun _ => Nat.le_of_ble_eq_true rfl) (fun _ => rfl) (fun v u H locs hp hG => ?_)
            subst hp
            refine lv_istore (lv' := [(4, .int (iI (wbN NF x ly1 dn1 (qN NF x ly1 pw1)))), (0, .ref (am 0)), (1, .int (iI y)), (2, .int (iI e0)), (3, .int (iI x))]) S.1 S.2.1 dX9_follow_82 hl (by decide) rfl (fun ls hl => ?_)
            refine lv_aload_n S.1 S.2.1 dX9_follow_84 rfl (lv_at hl 1 rfl) ?_
            refine lv_aload_n S.1 S.2.1 dX9_follow_85 rfl (lv_at hl 1 rfl) ?_
            refine lv_iload S.1 S.2.1 dX9_follow_86 (lv_at hl 0 rfl) ?_
            refine g_invV (As := [.int (iI (wbN NF x ly1 dn1 (qN NF x ly1 pw1)))]) (rest := [.ref (am 0)]) (gs' := (fun u : Unit => [gMdl K am th rw (lg1 + 1) mr1 en1 (qN NF x ly1 pw1) x ly1 dn1 iz tz nx st tk vl ef ep hO hB ol rm oz, gArr K 95 rw NF, gArr K 60 (am 3) (upI B0 lg1 ly1), gArrZ K 60 (am 4) (upI B1 lg1 dn1), gArr K 60 (am 5) (upI B2 lg1 (shN NF x ly1)), gArr K 60 (am 6) (upI B3 lg1 (leN NF x ly1)), gArr K 60 (am 7) (upI B4 lg1 (tmN NF x ly1)), gArr K 60 (am 8) (upI B5 lg1 (qN NF x ly1 pw1)), gArr K 60 (am 9) B6])) S C hG [0] (c_X9_endBy l K am th rw (lg1 + 1) mr1 en1 (qN NF x ly1 pw1) x ly1 dn1 iz tz nx st tk vl ef ep hO hB ol rm oz (wbN NF x ly1 dn1 (qN NF x ly1 pw1)) (by omega) (wbN_bd _ _ _ _ _)) rfl rfl 0 rfl rfl (cwV 1 S.2.2.2.2 gX9_follow_X9_endBy rfl rfl rfl (by decide +kernel) ⟨Nat.le_of_ble_eq_true rfl, Nat.le_of_ble_eq_true rfl⟩) rfl hl.1 rfl (Nat.le_of_ble_eq_true rfl) dX9_follow_88 ⟨Nat.le_of_ble_eq_true rfl, Nat.le_of_ble_eq_true rfl⟩ (fun _ => Nat.le_of_ble_eq_true rfl) (fun _ => rfl) (fun v u H locs hp hG => ?_)
            subst hp
            have eb9 := ebN_bd (lg1 + 1) (wbN NF x ly1 dn1 (qN NF x ly1 pw1))
            have wd9 := wbN_bd NF x ly1 dn1 (qN NF x ly1 pw1)
            refine g_put (gs' := [gMdl K am th rw (lg1 + 1) mr1 (ebN (lg1 + 1) (wbN NF x ly1 dn1 (qN NF x ly1 pw1))) (qN NF x ly1 pw1) x ly1 dn1 iz tz nx st tk vl ef ep hO hB ol rm oz, gArr K 95 rw NF, gArr K 60 (am 3) (upI B0 lg1 ly1), gArrZ K 60 (am 4) (upI B1 lg1 dn1), gArr K 60 (am 5) (upI B2 lg1 (shN NF x ly1)), gArr K 60 (am 6) (upI B3 lg1 (leN NF x ly1)), gArr K 60 (am 7) (upI B4 lg1 (tmN NF x ly1)), gArr K 60 (am 8) (upI B5 lg1 (qN NF x ly1 pw1)), gArr K 60 (am 9) B6]) S C hG iX90 tyX9 tyX9_ok nmX9 0 rfl rfl 13 (by decide) (List.mem_of_getElem? (i := 5) rfl) rfl rfl rfl (Nat.le_of_ble_eq_true rfl) rfl dX9_follow_91 (fun H locs hG => ?_)
            refine lv_aload_n S.1 S.2.1 dX9_follow_94 rfl (lv_at hl 1 rfl) ?_
            refine g_get S C hG iX90 0 rfl rfl 10 (by decide) (List.mem_of_getElem? (i := 9) rfl) rfl dX9_follow_95 ?_
            refine lv_aload_n S.1 S.2.1 dX9_follow_98 rfl (lv_at hl 1 rfl) ?_
            refine g_get S C hG iX90 0 rfl rfl 11 (by decide) (List.mem_of_getElem? (i := 1) rfl) rfl dX9_follow_99 ?_
            refine g_iconst S dX9_follow_102 ?_
            refine g_isub S dX9_follow_103 rfl ?_
            refine g_top (w := .int (iI (lg1))) (congrArg (fun z : Int => Value.int (iI z)) ((by omega))) ?_
            refine lv_aload_n S.1 S.2.1 dX9_follow_104 rfl (lv_at hl 1 rfl) ?_
            refine g_get S C hG iX90 0 rfl rfl 13 (by decide) (List.mem_of_getElem? (i := 5) rfl) rfl dX9_follow_105 ?_
            refine g_iconst S dX9_follow_108 ?_
            refine g_icmp_ne (tgt := 117) S dX9_follow_109 (by decide) (by omega) (by omega) (fun q109 => ?_) (fun q109 => ?_)
            · skip
              refine lv_iload S.1 S.2.1 dX9_follow_117 (lv_at hl 0 rfl) ?_
              refine g_iast (gs' := [gMdl K am th rw (lg1 + 1) mr1 (ebN (lg1 + 1) (wbN NF x ly1 dn1 (qN NF x ly1 pw1))) (qN NF x ly1 pw1) x ly1 dn1 iz tz nx st tk vl ef ep hO hB ol rm oz, gArr K 95 rw NF, gArr K 60 (am 3) (upI B0 lg1 ly1), gArrZ K 60 (am 4) (upI B1 lg1 dn1), gArr K 60 (am 5) (upI B2 lg1 (shN NF x ly1)), gArr K 60 (am 6) (upI B3 lg1 (leN NF x ly1)), gArr K 60 (am 7) (upI B4 lg1 (tmN NF x ly1)), gArr K 60 (am 8) (upI B5 lg1 (qN NF x ly1 pw1)), gArr K 60 (am 9) (upI B6 lg1 (wbN NF x ly1 dn1 (qN NF x ly1 pw1)))]) S C hG 8 rfl (by omega) (by omega) (by omega) rfl dX9_follow_119 (fun H locs hG => ?_)
              refine lv_aload_n S.1 S.2.1 dX9_follow_120 rfl (lv_at hl 1 rfl) ?_
              refine g_get S C hG iX90 0 rfl rfl 13 (by decide) (List.mem_of_getElem? (i := 5) rfl) rfl dX9_follow_121 ?_
              refine g_iconst S dX9_follow_124 ?_
              refine g_icmp_ne (tgt := 134) S dX9_follow_125 (by decide) (by omega) (by omega) (fun q125 => ?_) (fun q125 => ?_)
              · skip
                refine lv_goto (tgt := 66) S.1 S.2.1 dX9_follow_134 (by decide) ?_
                exact ih (k + 1) (lg1 + 1) mr1 (ebN (lg1 + 1) (wbN NF x ly1 dn1 (qN NF x ly1 pw1))) (qN NF x ly1 pw1) ly1 dn1 (gsh + shN NF x ly1) (gle + leN NF x ly1) (gtm + tmN NF x ly1) gtr gcr (max gde ly1) (upI B0 lg1 ly1) (upI B1 lg1 dn1) (upI B2 lg1 (shN NF x ly1)) (upI B3 lg1 (leN NF x ly1)) (upI B4 lg1 (tmN NF x ly1)) (upI B5 lg1 (qN NF x ly1 pw1)) (upI B6 lg1 (wbN NF x ly1 dn1 (qN NF x ly1 pw1))) _ _ _ (by omega) (by omega) (hI.mdE hN hk q71x h1.1 hx0 hF (by omega)).1 (by have z := (hI.mdE hN hk q71x h1.1 hx0 hF (by omega)).2 <;> rw [if_neg (by omega)] at z <;> exact z) (lv_sub hl [1, 2, 3, 4] rfl) hG
              · skip
                have w9 := (wb_ev hN (q := qN NF x ly1 pw1) h1.1 b9.1 b9.2.2.1 (show lg1 + 1 ≤ 60 by omega)).2 (by omega)
                refine lv_aload_n S.1 S.2.1 dX9_follow_128 rfl (lv_at hl 1 rfl) ?_
                refine lv_iload S.1 S.2.1 dX9_follow_129 (lv_at hl 0 rfl) ?_
                refine g_invVv (As := [.int (iI (wbN NF x ly1 dn1 (qN NF x ly1 pw1)))]) (rest := []) (gs' := (fun u : Int × Int × Int × Int × Int × (Int → Int) => [gMdl K am th rw (lg1 + 1) u.1 u.2.1 u.2.2.1 x u.2.2.2.1 u.2.2.2.2.1 iz tz nx st tk vl ef ep hO hB ol rm oz, gArr K 95 rw NF, gArr K 60 (am 3) (upI B0 lg1 ly1), gArrZ K 60 (am 4) (upI B1 lg1 dn1), gArr K 60 (am 5) (upI B2 lg1 (shN NF x ly1)), gArr K 60 (am 6) (upI B3 lg1 (leN NF x ly1)), gArr K 60 (am 7) (upI B4 lg1 (tmN NF x ly1)), gArr K 60 (am 8) (upI B5 lg1 (qN NF x ly1 pw1)), gArr K 60 (am 9) u.2.2.2.2.2])) S C hG [0, 1, 8] (c_X9_goOnBy l K am th rw (lg1 + 1) mr1 (ebN (lg1 + 1) (wbN NF x ly1 dn1 (qN NF x ly1 pw1))) (qN NF x ly1 pw1) x ly1 dn1 iz tz nx st tk vl ef ep hO hB ol rm oz NF (upI B6 lg1 (wbN NF x ly1 dn1 (qN NF x ly1 pw1))) (wbN NF x ly1 dn1 (qN NF x ly1 pw1)) hN b9.1 b9.2.2.1 (by omega) (by rcases w9 with w9 | w9 | w9 <;> omega) (fun z => by rcases w9 with w9 | w9 | w9 <;> first | exact w9.2.2 | omega) (fun z => wb_mir hN z) (by omega) (by omega)) rfl rfl 0 rfl rfl (cwV 1 S.2.2.2.2 gX9_follow_X9_goOnBy rfl rfl rfl (by decide +kernel) ⟨Nat.le_of_ble_eq_true rfl, Nat.le_of_ble_eq_true rfl⟩) rfl hl.1 rfl (Nat.le_of_ble_eq_true rfl) dX9_follow_131 ⟨Nat.le_of_ble_eq_true rfl, Nat.le_of_ble_eq_true rfl⟩ (fun _ => Nat.le_of_ble_eq_true rfl) (fun _ => rfl) (fun u H locs hp hG => ?_)
                obtain ⟨mr2_131, en2_131, pw2_131, ly2_131, dn2_131, B6_131⟩ := u
                have hg_131 := hp
                have hg_131 : GoM NF (wbN NF x ly1 dn1 (qN NF x ly1 pw1)) (lg1 + 1) mr1 (ebN (lg1 + 1) (wbN NF x ly1 dn1 (qN NF x ly1 pw1))) (qN NF x ly1 pw1) ly1 dn1 (upI B6 lg1 (wbN NF x ly1 dn1 (qN NF x ly1 pw1))) mr2_131 en2_131 pw2_131 ly2_131 dn2_131 B6_131 := hg_131
                have hG : gW K A s.heap [gMdl K am th rw (lg1 + 1) mr2_131 en2_131 pw2_131 x ly2_131 dn2_131 iz tz nx st tk vl ef ep hO hB ol rm oz, gArr K 95 rw NF, gArr K 60 (am 3) (upI B0 lg1 ly1), gArrZ K 60 (am 4) (upI B1 lg1 dn1), gArr K 60 (am 5) (upI B2 lg1 (shN NF x ly1)), gArr K 60 (am 6) (upI B3 lg1 (leN NF x ly1)), gArr K 60 (am 7) (upI B4 lg1 (tmN NF x ly1)), gArr K 60 (am 8) (upI B5 lg1 (qN NF x ly1 pw1)), gArr K 60 (am 9) B6_131] _ _ := hG
                refine lv_goto (tgt := 66) S.1 S.2.1 dX9_follow_134 (by decide) ?_
                have q125x : ebN (lg1 + 1) (wbN NF x ly1 dn1 (qN NF x ly1 pw1)) = -1 := by omega
                rw [q125x] at hg_131
                obtain ⟨tr9, cr9, hI9, hF9⟩ := hI.mdG hN hk q71x h1.1 hx0 hF (by omega) hg_131
                exact ih (k + 1) (lg1 + 1) mr2_131 en2_131 pw2_131 ly2_131 dn2_131 (gsh + shN NF x ly1) (gle + leN NF x ly1) (gtm + tmN NF x ly1) tr9 cr9 (max gde ly1) (upI B0 lg1 ly1) (upI B1 lg1 dn1) (upI B2 lg1 (shN NF x ly1)) (upI B3 lg1 (leN NF x ly1)) (upI B4 lg1 (tmN NF x ly1)) (upI B5 lg1 (qN NF x ly1 pw1)) B6_131 _ _ _ (by omega) (by omega) hI9 hF9 (lv_sub hl [1, 2, 3, 4] rfl) hG
            · skip
              refine g_bipush S dX9_follow_112 (by decide) ?_
              refine lv_goto (tgt := 119) S.1 S.2.1 dX9_follow_114 (by decide) ?_
              refine g_iast (gs' := [gMdl K am th rw (lg1 + 1) mr1 (ebN (lg1 + 1) (wbN NF x ly1 dn1 (qN NF x ly1 pw1))) (qN NF x ly1 pw1) x ly1 dn1 iz tz nx st tk vl ef ep hO hB ol rm oz, gArr K 95 rw NF, gArr K 60 (am 3) (upI B0 lg1 ly1), gArrZ K 60 (am 4) (upI B1 lg1 dn1), gArr K 60 (am 5) (upI B2 lg1 (shN NF x ly1)), gArr K 60 (am 6) (upI B3 lg1 (leN NF x ly1)), gArr K 60 (am 7) (upI B4 lg1 (tmN NF x ly1)), gArr K 60 (am 8) (upI B5 lg1 (qN NF x ly1 pw1)), gArr K 60 (am 9) (upI B6 lg1 6)]) S C hG 8 rfl (by omega) (by omega) (by omega) rfl dX9_follow_119 (fun H locs hG => ?_)
              refine lv_aload_n S.1 S.2.1 dX9_follow_120 rfl (lv_at hl 1 rfl) ?_
              refine g_get S C hG iX90 0 rfl rfl 13 (by decide) (List.mem_of_getElem? (i := 5) rfl) rfl dX9_follow_121 ?_
              refine g_iconst S dX9_follow_124 ?_
              refine g_icmp_ne (tgt := 134) S dX9_follow_125 (by decide) (by omega) (by omega) (fun q125 => ?_) (fun q125 => ?_)
              · skip
                refine lv_goto (tgt := 66) S.1 S.2.1 dX9_follow_134 (by decide) ?_
                exact ih (k + 1) (lg1 + 1) mr1 (ebN (lg1 + 1) (wbN NF x ly1 dn1 (qN NF x ly1 pw1))) (qN NF x ly1 pw1) ly1 dn1 (gsh + shN NF x ly1) (gle + leN NF x ly1) (gtm + tmN NF x ly1) gtr gcr (max gde ly1) (upI B0 lg1 ly1) (upI B1 lg1 dn1) (upI B2 lg1 (shN NF x ly1)) (upI B3 lg1 (leN NF x ly1)) (upI B4 lg1 (tmN NF x ly1)) (upI B5 lg1 (qN NF x ly1 pw1)) (upI B6 lg1 6) _ _ _ (by omega) (by omega) (hI.mdE hN hk q71x h1.1 hx0 hF (by omega)).1 (by have z := (hI.mdE hN hk q71x h1.1 hx0 hF (by omega)).2 <;> rw [if_pos (by omega)] at z <;> exact z) (lv_sub hl [1, 2, 3, 4] rfl) hG
              · skip
                omega
      exact L66 (Nat.succ (61 - 0)) 0 0 0 (-1) 1000000 y e0 0 0 0 0 0 (-1) A0 A1 A2 A3 A4 A5 A6 _ _ _ (Nat.lt_succ_self _) (Nat.zero_le _) (RunI.start_t ⟨q27.1, q27.2, q37⟩) (fun i hi => absurd hi (Nat.not_lt_zero i)) (lv_sub hl [0, 1, 2, 3] rfl) hG
    · skip
      refine lv_aload_n S.1 S.2.1 dX9_follow_40 rfl (lv_at hl 0 rfl) ?_
      refine g_lconst (z := 0) S dX9_follow_41 rfl ?_
      refine g_put (gs' := [gMdl K am th rw 0 0 4 0 sl ly dn iz tz nx st tk vl ef ep hO hB ol rm oz, gArr K 95 rw NF, gArr K 60 (am 3) A0, gArrZ K 60 (am 4) A1, gArr K 60 (am 5) A2, gArr K 60 (am 6) A3, gArr K 60 (am 7) A4, gArr K 60 (am 8) A5, gArr K 60 (am 9) A6]) S C hG iX90 tyX9 tyX9_ok nmX9 0 rfl rfl 14 (by decide) (List.mem_of_getElem? (i := 4) rfl) rfl rfl rfl (Nat.le_of_ble_eq_true rfl) rfl dX9_follow_42 (fun H locs hG => ?_)
      have hG : gW K A s.heap [gMdl K am th rw 0 0 4 0 sl ly dn iz tz nx st tk vl ef ep hO hB ol rm oz, gArr K 95 rw NF, gArr K 60 (am 3) A0, gArrZ K 60 (am 4) A1, gArr K 60 (am 5) A2, gArr K 60 (am 6) A3, gArr K 60 (am 7) A4, gArr K 60 (am 8) A5, gArr K 60 (am 9) A6] _ _ := hG
      exact g_vret S hr hlk hQ dX9_follow_45 (Nat.le_of_ble_eq_true rfl) (Nat.le_of_ble_eq_true rfl) ((0, 0, 4, 0, sl, ly, dn, A0, A1, A2, A3, A4, A5, A6) : Int × Int × Int × Int × Int × Int × Int × (Int → Int) × (Int → Int) × (Int → Int) × (Int → Int) × (Int → Int) × (Int → Int) × (Int → Int)) (FolR.none (fun b => q37 b.2.2)) hG
