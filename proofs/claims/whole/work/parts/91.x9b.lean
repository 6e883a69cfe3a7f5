set_option maxHeartbeats 1000000 in
set_option maxRecDepth 100000 in
theorem c_X9_crossLayer (l : Launch) (K : KC) (am : Nat → Nat) (th : Int) (rw : Nat) (lg : Int) (mr : Int) (en : Int) (pw : Int) (sl : Int) (ly : Int) (dn : Int) (iz : Int) (tz : Int) (nx : Int) (st : Int) (tk : Int) (vl : Int) (ef : Int) (ep : Int) (hO : Int) (hB : Int) (ol : Int) (rm : Int) (oz : Int) (NF : Int → Int) (A0 : Int → Int) (A1 : Int → Int) (A2 : Int → Int) (A3 : Int → Int) (A4 : Int → Int) (A5 : Int → Int) (A6 : Int → Int) (hN : NOk0 NF) (hy : 0 ≤ ly ∧ ly < NF 0) (hsl : 0 ≤ sl ∧ sl < nX NF ly) (hdn : dn = 0 ∨ dn = 1) (hpw : 0 ≤ pw ∧ pw ≤ 1000000) (hlg : 0 ≤ lg ∧ lg < 60) : mV l yX9_crossLayer wsX9_crossLayer 1 30 K [.ref (am 0)] [gMdl K am th rw lg mr en pw sl ly dn iz tz nx st tk vl ef ep hO hB ol rm oz, gArr K 95 rw NF, gArr K 60 (am 3) A0, gArrZ K 60 (am 4) A1, gArr K 60 (am 5) A2, gArr K 60 (am 6) A3, gArr K 60 (am 7) A4, gArr K 60 (am 8) A5, gArr K 60 (am 9) A6] (fun (u : Unit) => True) (fun (u : Unit) => [gMdl K am th rw (lg + 1) mr en (qN NF sl ly pw) sl ly dn iz tz nx st tk vl ef ep hO hB ol rm oz, gArr K 95 rw NF, gArr K 60 (am 3) (upI A0 lg ly), gArrZ K 60 (am 4) (upI A1 lg dn), gArr K 60 (am 5) (upI A2 lg (shN NF sl ly)), gArr K 60 (am 6) (upI A3 lg (leN NF sl ly)), gArr K 60 (am 7) (upI A4 lg (tmN NF sl ly)), gArr K 60 (am 8) (upI A5 lg (qN NF sl ly pw)), gArr K 60 (am 9) A6]) 0 0 := by
  refine mV_of cX9_crossLayer 5 (by decide) rfl (Nat.le_of_ble_eq_true rfl) ?_
  intro p e s m below meth c A ls Q S C hG hl hr hlk hin hQ
  have S : CallFix p m c cX9_crossLayer 5 s ([.ref (am 0)] : List Value).toArray wsX9_crossLayer RX9 := S
  have iX90 : ∀ w ∈ wsX90, w ∈ wsX9_crossLayer := fun _ h => List.mem_cons_of_mem _ (List.mem_append_right _ (h))
  have hl : lv_has ls 5 [(0, .ref (am 0))] := hl
  have hG : gW K A s.heap [gMdl K am th rw lg mr en pw sl ly dn iz tz nx st tk vl ef ep hO hB ol rm oz, gArr K 95 rw NF, gArr K 60 (am 3) A0, gArrZ K 60 (am 4) A1, gArr K 60 (am 5) A2, gArr K 60 (am 6) A3, gArr K 60 (am 7) A4, gArr K 60 (am 8) A5, gArr K 60 (am 9) A6] s.heap [] := hG
  have n0 := hN.1
  have lb := lay_bd hN hy.1 hy.2
  have vb := vN_bd hN hy.1 hy.2 hsl.1 hsl.2
  have rb := rN_bd hN hy.1 hy.2 hsl.1 hsl.2
  have gb := leg_bd hN hy.1 hy.2 hsl.1 hsl.2
  have qb := lost_bd hN hy.1 hy.2 hsl.1 hsl.2 hpw.1 hpw.2
  refine lv_aload_n S.1 S.2.1 dX9_crossLayer_0 rfl (lv_at hl 0 rfl) ?_
  refine lv_aload_n S.1 S.2.1 dX9_crossLayer_1 rfl (lv_at hl 0 rfl) ?_
  refine g_get S C hG iX90 0 rfl rfl 16 (by decide) (List.mem_of_getElem? (i := 1) rfl) rfl dX9_crossLayer_2 ?_
  refine g_iconst S dX9_crossLayer_5 ?_
  refine g_invV (As := [.int (iI ly), .int (iI 0)]) (rest := []) (gs' := (fun u : Unit => [gMdl K am th rw lg mr en pw sl ly dn iz tz nx st tk vl ef ep hO hB ol rm oz, gArr K 95 rw NF, gArr K 60 (am 3) A0, gArrZ K 60 (am 4) A1, gArr K 60 (am 5) A2, gArr K 60 (am 6) A3, gArr K 60 (am 7) A4, gArr K 60 (am 8) A5, gArr K 60 (am 9) A6])) S C hG [0, 1] (c_X9_ofLayer l K am th rw lg mr en pw sl ly dn iz tz nx st tk vl ef ep hO hB ol rm oz NF ly 0 (by omega) (by decide)) rfl rfl 0 rfl rfl (cwV 2 S.2.2.2.2 gX9_crossLayer_X9_ofLayer rfl rfl rfl (by decide +kernel) ⟨Nat.le_of_ble_eq_true rfl, Nat.le_of_ble_eq_true rfl⟩) rfl hl.1 rfl (Nat.le_of_ble_eq_true rfl) dX9_crossLayer_6 ⟨Nat.le_of_ble_eq_true rfl, Nat.le_of_ble_eq_true rfl⟩ (fun _ => Nat.le_of_ble_eq_true rfl) (fun _ => rfl) (fun v u H locs hp hG => ?_)
  subst hp
  refine g_top (w := .int (iI (nX NF ly))) (congrArg (fun z : Int => Value.int (iI z)) (rfl)) ?_
  refine lv_istore_n (lv' := [(1, .int (iI (nX NF ly))), (0, .ref (am 0))]) S.1 S.2.1 dX9_crossLayer_9 rfl hl (by decide) rfl (fun ls hl => ?_)
  refine lv_aload_n S.1 S.2.1 dX9_crossLayer_10 rfl (lv_at hl 1 rfl) ?_
  refine lv_aload_n S.1 S.2.1 dX9_crossLayer_11 rfl (lv_at hl 1 rfl) ?_
  refine g_get S C hG iX90 0 rfl rfl 16 (by decide) (List.mem_of_getElem? (i := 1) rfl) rfl dX9_crossLayer_12 ?_
  refine g_iconst S dX9_crossLayer_15 ?_
  refine g_invV (As := [.int (iI ly), .int (iI 1)]) (rest := []) (gs' := (fun u : Unit => [gMdl K am th rw lg mr en pw sl ly dn iz tz nx st tk vl ef ep hO hB ol rm oz, gArr K 95 rw NF, gArr K 60 (am 3) A0, gArrZ K 60 (am 4) A1, gArr K 60 (am 5) A2, gArr K 60 (am 6) A3, gArr K 60 (am 7) A4, gArr K 60 (am 8) A5, gArr K 60 (am 9) A6])) S C hG [0, 1] (c_X9_ofLayer l K am th rw lg mr en pw sl ly dn iz tz nx st tk vl ef ep hO hB ol rm oz NF ly 1 (by omega) (by decide)) rfl rfl 0 rfl rfl (cwV 2 S.2.2.2.2 gX9_crossLayer_X9_ofLayer rfl rfl rfl (by decide +kernel) ⟨Nat.le_of_ble_eq_true rfl, Nat.le_of_ble_eq_true rfl⟩) rfl hl.1 rfl (Nat.le_of_ble_eq_true rfl) dX9_crossLayer_16 ⟨Nat.le_of_ble_eq_true rfl, Nat.le_of_ble_eq_true rfl⟩ (fun _ => Nat.le_of_ble_eq_true rfl) (fun _ => rfl) (fun v u H locs hp hG => ?_)
  subst hp
  refine g_top (w := .int (iI (dX NF ly))) (congrArg (fun z : Int => Value.int (iI z)) (rfl)) ?_
  refine lv_istore_n (lv' := [(2, .int (iI (dX NF ly))), (1, .int (iI (nX NF ly))), (0, .ref (am 0))]) S.1 S.2.1 dX9_crossLayer_19 rfl hl (by decide) rfl (fun ls hl => ?_)
  refine lv_iload_n S.1 S.2.1 dX9_crossLayer_20 rfl (lv_at hl 1 rfl) ?_
  refine lv_iload_n S.1 S.2.1 dX9_crossLayer_21 rfl (lv_at hl 1 rfl) ?_
  refine g_imul S dX9_crossLayer_22 rfl ?_
  refine lv_aload_n S.1 S.2.1 dX9_crossLayer_23 rfl (lv_at hl 2 rfl) ?_
  refine g_get S C hG iX90 0 rfl rfl 15 (by decide) (List.mem_of_getElem? (i := 2) rfl) rfl dX9_crossLayer_24 ?_
  refine lv_aload_n S.1 S.2.1 dX9_crossLayer_27 rfl (lv_at hl 2 rfl) ?_
  refine g_get S C hG iX90 0 rfl rfl 15 (by decide) (List.mem_of_getElem? (i := 2) rfl) rfl dX9_crossLayer_28 ?_
  refine g_imul S dX9_crossLayer_31 rfl ?_
  refine g_isub S dX9_crossLayer_32 rfl ?_
  refine g_top (w := .int (iI (vN NF sl ly))) (congrArg (fun z : Int => Value.int (iI z)) (rfl)) ?_
  refine g_invS (As := [.int (iI (vN NF sl ly))]) (rest := []) (gs' := (fun u : Unit => [gMdl K am th rw lg mr en pw sl ly dn iz tz nx st tk vl ef ep hO hB ol rm oz, gArr K 95 rw NF, gArr K 60 (am 3) A0, gArrZ K 60 (am 4) A1, gArr K 60 (am 5) A2, gArr K 60 (am 6) A3, gArr K 60 (am 7) A4, gArr K 60 (am 8) A5, gArr K 60 (am 9) A6])) S C hG [] (c_X9_rootOf l K (vN NF sl ly) (by omega)) rfl rfl (va_cwS 1 S.2.2.2.2 gX9_crossLayer_X9_rootOf rfl rfl rfl (by decide +kernel) ⟨Nat.le_of_ble_eq_true rfl, Nat.le_of_ble_eq_true rfl⟩) rfl hl.1 rfl (Nat.le_of_ble_eq_true rfl) dX9_crossLayer_33 ⟨Nat.le_of_ble_eq_true rfl, Nat.le_of_ble_eq_true rfl⟩ (fun _ => Nat.le_of_ble_eq_true rfl) (fun _ => rfl) (fun v u H locs hp hG => ?_)
  subst hp
  refine g_top (w := .int (iI (rN NF sl ly))) (congrArg (fun z : Int => Value.int (iI z)) (rfl)) ?_
  refine lv_istore_n (lv' := [(3, .int (iI (rN NF sl ly))), (2, .int (iI (dX NF ly))), (1, .int (iI (nX NF ly))), (0, .ref (am 0))]) S.1 S.2.1 dX9_crossLayer_36 rfl hl (by decide) rfl (fun ls hl => ?_)
  refine lv_iload_n S.1 S.2.1 dX9_crossLayer_37 rfl (lv_at hl 1 rfl) ?_
  refine lv_iload_n S.1 S.2.1 dX9_crossLayer_38 rfl (lv_at hl 2 rfl) ?_
  refine g_imul S dX9_crossLayer_39 rfl ?_
  refine lv_iload_n S.1 S.2.1 dX9_crossLayer_40 rfl (lv_at hl 0 rfl) ?_
  refine g_idiv S dX9_crossLayer_41 (by omega) (by omega) rfl ?_
  refine g_top (w := .int (iI (leN NF sl ly))) (congrArg (fun z : Int => Value.int (iI z)) (rfl)) ?_
  refine lv_istore (lv' := [(4, .int (iI (leN NF sl ly))), (3, .int (iI (rN NF sl ly))), (2, .int (iI (dX NF ly))), (1, .int (iI (nX NF ly))), (0, .ref (am 0))]) S.1 S.2.1 dX9_crossLayer_42 hl (by decide) rfl (fun ls hl => ?_)
  refine lv_aload_n S.1 S.2.1 dX9_crossLayer_44 rfl (lv_at hl 4 rfl) ?_
  refine g_lconst (z := 0) S dX9_crossLayer_45 rfl ?_
  refine lv_aload_n S.1 S.2.1 dX9_crossLayer_46 rfl (lv_at hl 4 rfl) ?_
  refine g_get S C hG iX90 0 rfl rfl 14 (by decide) (List.mem_of_getElem? (i := 3) rfl) rfl dX9_crossLayer_47 ?_
  refine lv_aload_n S.1 S.2.1 dX9_crossLayer_50 rfl (lv_at hl 4 rfl) ?_
  refine g_get S C hG iX90 0 rfl rfl 14 (by decide) (List.mem_of_getElem? (i := 3) rfl) rfl dX9_crossLayer_51 ?_
  refine lv_aload_n S.1 S.2.1 dX9_crossLayer_54 rfl (lv_at hl 4 rfl) ?_
  refine lv_aload_n S.1 S.2.1 dX9_crossLayer_55 rfl (lv_at hl 4 rfl) ?_
  refine g_get S C hG iX90 0 rfl rfl 16 (by decide) (List.mem_of_getElem? (i := 1) rfl) rfl dX9_crossLayer_56 ?_
  refine g_iconst S dX9_crossLayer_59 ?_
  refine g_invV (As := [.int (iI ly), .int (iI 2)]) (rest := [.long (iL pw), .long (iL pw), .long (iL 0), .ref (am 0)]) (gs' := (fun u : Unit => [gMdl K am th rw lg mr en pw sl ly dn iz tz nx st tk vl ef ep hO hB ol rm oz, gArr K 95 rw NF, gArr K 60 (am 3) A0, gArrZ K 60 (am 4) A1, gArr K 60 (am 5) A2, gArr K 60 (am 6) A3, gArr K 60 (am 7) A4, gArr K 60 (am 8) A5, gArr K 60 (am 9) A6])) S C hG [0, 1] (c_X9_ofLayer l K am th rw lg mr en pw sl ly dn iz tz nx st tk vl ef ep hO hB ol rm oz NF ly 2 (by omega) (by decide)) rfl rfl 0 rfl rfl (cwV 2 S.2.2.2.2 gX9_crossLayer_X9_ofLayer rfl rfl rfl (by decide +kernel) ⟨Nat.le_of_ble_eq_true rfl, Nat.le_of_ble_eq_true rfl⟩) rfl hl.1 rfl (Nat.le_of_ble_eq_true rfl) dX9_crossLayer_60 ⟨Nat.le_of_ble_eq_true rfl, Nat.le_of_ble_eq_true rfl⟩ (fun _ => Nat.le_of_ble_eq_true rfl) (fun _ => rfl) (fun v u H locs hp hG => ?_)
  subst hp
  refine g_top (w := .int (iI (lX NF ly))) (congrArg (fun z : Int => Value.int (iI z)) (rfl)) ?_
  refine g_i2l S dX9_crossLayer_63 (by omega) ?_
  refine g_lmul S dX9_crossLayer_64 rfl ?_
  refine lv_iload S.1 S.2.1 dX9_crossLayer_65 (lv_at hl 0 rfl) ?_
  refine g_i2l S dX9_crossLayer_67 (by omega) ?_
  refine g_lmul S dX9_crossLayer_68 rfl ?_
  refine g_ldc2 (z := 1000000) S dX9_crossLayer_69 (List.mem_of_getElem? (i := 4) rfl) rfl ?_
  refine g_ldiv S dX9_crossLayer_72 (by omega) (by omega) rfl ?_
  refine g_lsub S dX9_crossLayer_73 rfl ?_
  refine va_mmax_long S.1 S.2.1 (by rw [S.2.2.1]; exact hl.1.symm) S.2.2.2.1 (S.2.2.2.2 _ (List.mem_of_getElem? (i := 5) rfl)) (S.2.2.2.2 _ (List.mem_of_getElem? (i := 6) rfl)) (S.2.2.2.2 _ (List.mem_of_getElem? (i := 7) rfl)) (S.2.2.2.2 _ (List.mem_of_getElem? (i := 8) rfl)) (Nat.le_of_ble_eq_true rfl) (Nat.le_of_ble_eq_true rfl) (Nat.le_of_ble_eq_true rfl) (Nat.le_of_ble_eq_true rfl) dX9_crossLayer_74 ?_
  refine g_top (w := .long (iL (max 0 (pw - (((pw * (lX NF ly)) * (leN NF sl ly)) / 1000000))))) (lmax_eq (by omega) (by omega)) ?_
  refine g_top (w := .long (iL (qN NF sl ly pw))) (congrArg (fun z : Int => Value.long (iL z)) (rfl)) ?_
  refine g_put (gs' := [gMdl K am th rw lg mr en (qN NF sl ly pw) sl ly dn iz tz nx st tk vl ef ep hO hB ol rm oz, gArr K 95 rw NF, gArr K 60 (am 3) A0, gArrZ K 60 (am 4) A1, gArr K 60 (am 5) A2, gArr K 60 (am 6) A3, gArr K 60 (am 7) A4, gArr K 60 (am 8) A5, gArr K 60 (am 9) A6]) S C hG iX90 tyX9 tyX9_ok nmX9 0 rfl rfl 14 (by decide) (List.mem_of_getElem? (i := 3) rfl) rfl rfl rfl (Nat.le_of_ble_eq_true rfl) rfl dX9_crossLayer_77 (fun H locs hG => ?_)
  refine lv_aload_n S.1 S.2.1 dX9_crossLayer_80 rfl (lv_at hl 4 rfl) ?_
  refine g_get S C hG iX90 0 rfl rfl 4 (by decide) (List.mem_of_getElem? (i := 9) rfl) rfl dX9_crossLayer_81 ?_
  refine lv_aload_n S.1 S.2.1 dX9_crossLayer_84 rfl (lv_at hl 4 rfl) ?_
  refine g_get S C hG iX90 0 rfl rfl 11 (by decide) (List.mem_of_getElem? (i := 10) rfl) rfl dX9_crossLayer_85 ?_
  refine lv_aload_n S.1 S.2.1 dX9_crossLayer_88 rfl (lv_at hl 4 rfl) ?_
  refine g_get S C hG iX90 0 rfl rfl 16 (by decide) (List.mem_of_getElem? (i := 1) rfl) rfl dX9_crossLayer_89 ?_
  refine g_iast (gs' := [gMdl K am th rw lg mr en (qN NF sl ly pw) sl ly dn iz tz nx st tk vl ef ep hO hB ol rm oz, gArr K 95 rw NF, gArr K 60 (am 3) (upI A0 lg ly), gArrZ K 60 (am 4) A1, gArr K 60 (am 5) A2, gArr K 60 (am 6) A3, gArr K 60 (am 7) A4, gArr K 60 (am 8) A5, gArr K 60 (am 9) A6]) S C hG 2 rfl (by omega) (by omega) (by omega) rfl dX9_crossLayer_92 (fun H locs hG => ?_)
  refine lv_aload_n S.1 S.2.1 dX9_crossLayer_93 rfl (lv_at hl 4 rfl) ?_
  refine g_get S C hG iX90 0 rfl rfl 5 (by decide) (List.mem_of_getElem? (i := 11) rfl) rfl dX9_crossLayer_94 ?_
  refine lv_aload_n S.1 S.2.1 dX9_crossLayer_97 rfl (lv_at hl 4 rfl) ?_
  refine g_get S C hG iX90 0 rfl rfl 11 (by decide) (List.mem_of_getElem? (i := 10) rfl) rfl dX9_crossLayer_98 ?_
  refine lv_aload_n S.1 S.2.1 dX9_crossLayer_101 rfl (lv_at hl 4 rfl) ?_
  refine g_get S C hG iX90 0 rfl rfl 17 (by decide) (List.mem_of_getElem? (i := 12) rfl) rfl dX9_crossLayer_102 ?_
  refine g_zast (gs' := [gMdl K am th rw lg mr en (qN NF sl ly pw) sl ly dn iz tz nx st tk vl ef ep hO hB ol rm oz, gArr K 95 rw NF, gArr K 60 (am 3) (upI A0 lg ly), gArrZ K 60 (am 4) (upI A1 lg dn), gArr K 60 (am 5) A2, gArr K 60 (am 6) A3, gArr K 60 (am 7) A4, gArr K 60 (am 8) A5, gArr K 60 (am 9) A6]) S C hG 3 rfl (by omega) (by omega) (by omega) (by omega) rfl dX9_crossLayer_105 (fun H locs hG => ?_)
  refine lv_aload_n S.1 S.2.1 dX9_crossLayer_106 rfl (lv_at hl 4 rfl) ?_
  refine g_get S C hG iX90 0 rfl rfl 6 (by decide) (List.mem_of_getElem? (i := 13) rfl) rfl dX9_crossLayer_107 ?_
  refine lv_aload_n S.1 S.2.1 dX9_crossLayer_110 rfl (lv_at hl 4 rfl) ?_
  refine g_get S C hG iX90 0 rfl rfl 11 (by decide) (List.mem_of_getElem? (i := 10) rfl) rfl dX9_crossLayer_111 ?_
  refine lv_iload_n S.1 S.2.1 dX9_crossLayer_114 rfl (lv_at hl 2 rfl) ?_
  refine lv_aload_n S.1 S.2.1 dX9_crossLayer_115 rfl (lv_at hl 4 rfl) ?_
  refine g_get S C hG iX90 0 rfl rfl 15 (by decide) (List.mem_of_getElem? (i := 2) rfl) rfl dX9_crossLayer_116 ?_
  refine g_imul S dX9_crossLayer_119 rfl ?_
  refine lv_iload_n S.1 S.2.1 dX9_crossLayer_120 rfl (lv_at hl 1 rfl) ?_
  refine g_idiv S dX9_crossLayer_121 (by omega) (by omega) rfl ?_
  refine g_top (w := .int (iI (shN NF sl ly))) (congrArg (fun z : Int => Value.int (iI z)) (rfl)) ?_
  refine g_iast (gs' := [gMdl K am th rw lg mr en (qN NF sl ly pw) sl ly dn iz tz nx st tk vl ef ep hO hB ol rm oz, gArr K 95 rw NF, gArr K 60 (am 3) (upI A0 lg ly), gArrZ K 60 (am 4) (upI A1 lg dn), gArr K 60 (am 5) (upI A2 lg (shN NF sl ly)), gArr K 60 (am 6) A3, gArr K 60 (am 7) A4, gArr K 60 (am 8) A5, gArr K 60 (am 9) A6]) S C hG 4 rfl (by omega) (by omega) (by omega) rfl dX9_crossLayer_122 (fun H locs hG => ?_)
  refine lv_aload_n S.1 S.2.1 dX9_crossLayer_123 rfl (lv_at hl 4 rfl) ?_
  refine g_get S C hG iX90 0 rfl rfl 7 (by decide) (List.mem_of_getElem? (i := 14) rfl) rfl dX9_crossLayer_124 ?_
  refine lv_aload_n S.1 S.2.1 dX9_crossLayer_127 rfl (lv_at hl 4 rfl) ?_
  refine g_get S C hG iX90 0 rfl rfl 11 (by decide) (List.mem_of_getElem? (i := 10) rfl) rfl dX9_crossLayer_128 ?_
  refine lv_iload S.1 S.2.1 dX9_crossLayer_131 (lv_at hl 0 rfl) ?_
  refine g_iast (gs' := [gMdl K am th rw lg mr en (qN NF sl ly pw) sl ly dn iz tz nx st tk vl ef ep hO hB ol rm oz, gArr K 95 rw NF, gArr K 60 (am 3) (upI A0 lg ly), gArrZ K 60 (am 4) (upI A1 lg dn), gArr K 60 (am 5) (upI A2 lg (shN NF sl ly)), gArr K 60 (am 6) (upI A3 lg (leN NF sl ly)), gArr K 60 (am 7) A4, gArr K 60 (am 8) A5, gArr K 60 (am 9) A6]) S C hG 5 rfl (by omega) (by omega) (by omega) rfl dX9_crossLayer_133 (fun H locs hG => ?_)
  refine lv_aload_n S.1 S.2.1 dX9_crossLayer_134 rfl (lv_at hl 4 rfl) ?_
  refine g_get S C hG iX90 0 rfl rfl 8 (by decide) (List.mem_of_getElem? (i := 15) rfl) rfl dX9_crossLayer_135 ?_
  refine lv_aload_n S.1 S.2.1 dX9_crossLayer_138 rfl (lv_at hl 4 rfl) ?_
  refine g_get S C hG iX90 0 rfl rfl 11 (by decide) (List.mem_of_getElem? (i := 10) rfl) rfl dX9_crossLayer_139 ?_
  refine lv_iload S.1 S.2.1 dX9_crossLayer_142 (lv_at hl 0 rfl) ?_
  refine g_i2l S dX9_crossLayer_144 (by omega) ?_
  refine lv_iload_n S.1 S.2.1 dX9_crossLayer_145 rfl (lv_at hl 3 rfl) ?_
  refine g_i2l S dX9_crossLayer_146 (by omega) ?_
  refine g_lmul S dX9_crossLayer_147 rfl ?_
  refine g_ldc2 (z := 1000) S dX9_crossLayer_148 (List.mem_of_getElem? (i := 16) rfl) rfl ?_
  refine g_ldiv S dX9_crossLayer_151 (by omega) (by omega) rfl ?_
  refine g_top (w := .long (iL (tmN NF sl ly))) (congrArg (fun z : Int => Value.long (iL z)) (rfl)) ?_
  refine g_l2i S dX9_crossLayer_152 ?_
  refine g_iast (gs' := [gMdl K am th rw lg mr en (qN NF sl ly pw) sl ly dn iz tz nx st tk vl ef ep hO hB ol rm oz, gArr K 95 rw NF, gArr K 60 (am 3) (upI A0 lg ly), gArrZ K 60 (am 4) (upI A1 lg dn), gArr K 60 (am 5) (upI A2 lg (shN NF sl ly)), gArr K 60 (am 6) (upI A3 lg (leN NF sl ly)), gArr K 60 (am 7) (upI A4 lg (tmN NF sl ly)), gArr K 60 (am 8) A5, gArr K 60 (am 9) A6]) S C hG 6 rfl (by omega) (by omega) (by omega) rfl dX9_crossLayer_153 (fun H locs hG => ?_)
  refine lv_aload_n S.1 S.2.1 dX9_crossLayer_154 rfl (lv_at hl 4 rfl) ?_
  refine g_get S C hG iX90 0 rfl rfl 9 (by decide) (List.mem_of_getElem? (i := 17) rfl) rfl dX9_crossLayer_155 ?_
  refine lv_aload_n S.1 S.2.1 dX9_crossLayer_158 rfl (lv_at hl 4 rfl) ?_
  refine g_get S C hG iX90 0 rfl rfl 11 (by decide) (List.mem_of_getElem? (i := 10) rfl) rfl dX9_crossLayer_159 ?_
  refine lv_aload_n S.1 S.2.1 dX9_crossLayer_162 rfl (lv_at hl 4 rfl) ?_
  refine g_get S C hG iX90 0 rfl rfl 14 (by decide) (List.mem_of_getElem? (i := 3) rfl) rfl dX9_crossLayer_163 ?_
  refine g_l2i S dX9_crossLayer_166 ?_
  refine g_iast (gs' := [gMdl K am th rw lg mr en (qN NF sl ly pw) sl ly dn iz tz nx st tk vl ef ep hO hB ol rm oz, gArr K 95 rw NF, gArr K 60 (am 3) (upI A0 lg ly), gArrZ K 60 (am 4) (upI A1 lg dn), gArr K 60 (am 5) (upI A2 lg (shN NF sl ly)), gArr K 60 (am 6) (upI A3 lg (leN NF sl ly)), gArr K 60 (am 7) (upI A4 lg (tmN NF sl ly)), gArr K 60 (am 8) (upI A5 lg (qN NF sl ly pw)), gArr K 60 (am 9) A6]) S C hG 7 rfl (by omega) (by omega) (by omega) rfl dX9_crossLayer_167 (fun H locs hG => ?_)
  refine lv_aload_n S.1 S.2.1 dX9_crossLayer_168 rfl (lv_at hl 4 rfl) ?_
  refine lv_dup S.1 S.2.1 dX9_crossLayer_169 rfl ?_
  refine g_get S C hG iX90 0 rfl rfl 11 (by decide) (List.mem_of_getElem? (i := 10) rfl) rfl dX9_crossLayer_170 ?_
  refine g_iconst S dX9_crossLayer_173 ?_
  refine g_iadd S dX9_crossLayer_174 rfl ?_
  refine g_put (gs' := [gMdl K am th rw (lg + 1) mr en (qN NF sl ly pw) sl ly dn iz tz nx st tk vl ef ep hO hB ol rm oz, gArr K 95 rw NF, gArr K 60 (am 3) (upI A0 lg ly), gArrZ K 60 (am 4) (upI A1 lg dn), gArr K 60 (am 5) (upI A2 lg (shN NF sl ly)), gArr K 60 (am 6) (upI A3 lg (leN NF sl ly)), gArr K 60 (am 7) (upI A4 lg (tmN NF sl ly)), gArr K 60 (am 8) (upI A5 lg (qN NF sl ly pw)), gArr K 60 (am 9) A6]) S C hG iX90 tyX9 tyX9_ok nmX9 0 rfl rfl 11 (by decide) (List.mem_of_getElem? (i := 10) rfl) rfl rfl rfl (Nat.le_of_ble_eq_true rfl) rfl dX9_crossLayer_175 (fun H locs hG => ?_)
  have hG : gW K A s.heap [gMdl K am th rw (lg + 1) mr en (qN NF sl ly pw) sl ly dn iz tz nx st tk vl ef ep hO hB ol rm oz, gArr K 95 rw NF, gArr K 60 (am 3) (upI A0 lg ly), gArrZ K 60 (am 4) (upI A1 lg dn), gArr K 60 (am 5) (upI A2 lg (shN NF sl ly)), gArr K 60 (am 6) (upI A3 lg (leN NF sl ly)), gArr K 60 (am 7) (upI A4 lg (tmN NF sl ly)), gArr K 60 (am 8) (upI A5 lg (qN NF sl ly pw)), gArr K 60 (am 9) A6] _ _ := hG
  exact g_vret S hr hlk hQ dX9_crossLayer_178 (Nat.le_of_ble_eq_true rfl) (Nat.le_of_ble_eq_true rfl) (() : Unit) trivial hG

set_option maxHeartbeats 1000000 in
set_option maxRecDepth 100000 in
theorem c_X9_layerAhead (l : Launch) (K : KC) (am : Nat → Nat) (th : Int) (rw : Nat) (lg : Int) (mr : Int) (en : Int) (pw : Int) (sl : Int) (ly : Int) (dn : Int) (iz : Int) (tz : Int) (nx : Int) (st : Int) (tk : Int) (vl : Int) (ef : Int) (ep : Int) (hO : Int) (hB : Int) (ol : Int) (rm : Int) (oz : Int) (hdn : dn = 0 ∨ dn = 1) (hly : -2147483648 ≤ ly ∧ ly < 2147483648) : mG l yX9_layerAhead wsX9_layerAhead 0 0 K [.ref (am 0)] [gMdl K am th rw lg mr en pw sl ly dn iz tz nx st tk vl ef ep hO hB ol rm oz] (fun (v : Value) (u : Unit) => (v = .int (iI (ahd ly dn)))) (fun (u : Unit) => [gMdl K am th rw lg mr en pw sl ly dn iz tz nx st tk vl ef ep hO hB ol rm oz]) 0 0 := by
  refine mG_of cX9_layerAhead 1 (by decide) rfl (Nat.le_of_ble_eq_true rfl) ?_
  intro p e s m below meth c A ls Q S C hG hl hr hlk hin hQ
  have S : CallFix p m c cX9_layerAhead 1 s ([.ref (am 0)] : List Value).toArray wsX9_layerAhead RX9 := S
  have iX90 : ∀ w ∈ wsX90, w ∈ wsX9_layerAhead := fun _ h => List.mem_cons_of_mem _ (List.mem_append_right _ (h))
  have hl : lv_has ls 1 [(0, .ref (am 0))] := hl
  have hG : gW K A s.heap [gMdl K am th rw lg mr en pw sl ly dn iz tz nx st tk vl ef ep hO hB ol rm oz] s.heap [] := hG
  refine lv_aload_n S.1 S.2.1 dX9_layerAhead_0 rfl (lv_at hl 0 rfl) ?_
  refine g_get S C hG iX90 0 rfl rfl 17 (by decide) (List.mem_of_getElem? (i := 1) rfl) rfl dX9_layerAhead_1 ?_
  refine g_if_eq (tgt := 16) S dX9_layerAhead_4 (by decide) (by omega) (fun q4 => ?_) (fun q4 => ?_)
  · skip
    refine lv_aload_n S.1 S.2.1 dX9_layerAhead_16 rfl (lv_at hl 0 rfl) ?_
    refine g_get S C hG iX90 0 rfl rfl 16 (by decide) (List.mem_of_getElem? (i := 2) rfl) rfl dX9_layerAhead_17 ?_
    refine g_iconst S dX9_layerAhead_20 ?_
    refine g_isub S dX9_layerAhead_21 rfl ?_
    have hG : gW K A s.heap [gMdl K am th rw lg mr en pw sl ly dn iz tz nx st tk vl ef ep hO hB ol rm oz] _ _ := hG
    exact g_iret S hr hlk hQ dX9_layerAhead_22 (Nat.le_of_ble_eq_true rfl) (Nat.le_of_ble_eq_true rfl) (() : Unit) (congrArg (fun z : Int => Value.int (iI z)) (by unfold ahd <;> split <;> omega)) hG
  · skip
    refine lv_aload_n S.1 S.2.1 dX9_layerAhead_7 rfl (lv_at hl 0 rfl) ?_
    refine g_get S C hG iX90 0 rfl rfl 16 (by decide) (List.mem_of_getElem? (i := 2) rfl) rfl dX9_layerAhead_8 ?_
    refine g_iconst S dX9_layerAhead_11 ?_
    refine g_iadd S dX9_layerAhead_12 rfl ?_
    refine lv_goto (tgt := 22) S.1 S.2.1 dX9_layerAhead_13 (by decide) ?_
    have hG : gW K A s.heap [gMdl K am th rw lg mr en pw sl ly dn iz tz nx st tk vl ef ep hO hB ol rm oz] _ _ := hG
    exact g_iret S hr hlk hQ dX9_layerAhead_22 (Nat.le_of_ble_eq_true rfl) (Nat.le_of_ble_eq_true rfl) (() : Unit) (congrArg (fun z : Int => Value.int (iI z)) (by unfold ahd <;> split <;> omega)) hG

set_option maxHeartbeats 1000000 in
set_option maxRecDepth 100000 in
theorem c_X9_indexAhead (l : Launch) (K : KC) (am : Nat → Nat) (th : Int) (rw : Nat) (lg : Int) (mr : Int) (en : Int) (pw : Int) (sl : Int) (ly : Int) (dn : Int) (iz : Int) (tz : Int) (nx : Int) (st : Int) (tk : Int) (vl : Int) (ef : Int) (ep : Int) (hO : Int) (hB : Int) (ol : Int) (rm : Int) (oz : Int) (NF : Int → Int) (y : Int) (x : Int) (hN : NOk0 NF) (hy : 0 ≤ y ∧ y < NF 0) (hx : x = 0 ∨ x = 1) : mG l yX9_indexAhead wsX9_indexAhead 2 46 K [.ref (am 0), .int (iI y), .int (iI x)] [gMdl K am th rw lg mr en pw sl ly dn iz tz nx st tk vl ef ep hO hB ol rm oz, gArr K 95 rw NF] (fun (v : Value) (u : Unit) => (v = .int (iI (ihN NF y x)))) (fun (u : Unit) => [gMdl K am th rw lg mr en pw sl ly dn iz tz nx st tk vl ef ep hO hB ol rm oz, gArr K 95 rw NF]) 0 0 := by
  refine mG_of cX9_indexAhead 4 (by decide) rfl (Nat.le_of_ble_eq_true rfl) ?_
  intro p e s m below meth c A ls Q S C hG hl hr hlk hin hQ
  have S : CallFix p m c cX9_indexAhead 4 s ([.ref (am 0), .int (iI y), .int (iI x)] : List Value).toArray wsX9_indexAhead RX9 := S
  have iX90 : ∀ w ∈ wsX90, w ∈ wsX9_indexAhead := fun _ h => List.mem_cons_of_mem _ (List.mem_append_right _ (h))
  have hl : lv_has ls 4 [(0, .ref (am 0)), (1, .int (iI y)), (2, .int (iI x))] := hl
  have hG : gW K A s.heap [gMdl K am th rw lg mr en pw sl ly dn iz tz nx st tk vl ef ep hO hB ol rm oz, gArr K 95 rw NF] s.heap [] := hG
  have n0 := hN.1
  have n3 := hN.2.2.2.1
  have n2 := hN.2.2.1
  have n1 := hN.2.1
  refine lv_iload_n S.1 S.2.1 dX9_indexAhead_0 rfl (lv_at hl 2 rfl) ?_
  refine g_if_eq (tgt := 10) S dX9_indexAhead_1 (by decide) (by omega) (fun q1 => ?_) (fun q1 => ?_)
  · skip
    refine lv_iload_n S.1 S.2.1 dX9_indexAhead_10 rfl (lv_at hl 1 rfl) ?_
    refine g_iconst S dX9_indexAhead_11 ?_
    refine g_isub S dX9_indexAhead_12 rfl ?_
    refine lv_istore_n (lv' := [(3, .int (iI (y - 1))), (0, .ref (am 0)), (1, .int (iI y)), (2, .int (iI x))]) S.1 S.2.1 dX9_indexAhead_13 rfl hl (by decide) rfl (fun ls hl => ?_)
    refine lv_aload_n S.1 S.2.1 dX9_indexAhead_14 rfl (lv_at hl 1 rfl) ?_
    refine lv_iload_n S.1 S.2.1 dX9_indexAhead_15 rfl (lv_at hl 0 rfl) ?_
    refine g_invV (As := [.int (iI (y - 1))]) (rest := []) (gs' := (fun u : Unit => [gMdl K am th rw lg mr en pw sl ly dn iz tz nx st tk vl ef ep hO hB ol rm oz, gArr K 95 rw NF])) S C hG [0, 1] (c_X9_isLayer l K am th rw lg mr en pw sl ly dn iz tz nx st tk vl ef ep hO hB ol rm oz NF (y - 1) hN (by omega)) rfl rfl 0 rfl rfl (cwV 1 S.2.2.2.2 gX9_indexAhead_X9_isLayer rfl rfl rfl (by decide +kernel) ⟨Nat.le_of_ble_eq_true rfl, Nat.le_of_ble_eq_true rfl⟩) rfl hl.1 rfl (Nat.le_of_ble_eq_true rfl) dX9_indexAhead_16 ⟨Nat.le_of_ble_eq_true rfl, Nat.le_of_ble_eq_true rfl⟩ (fun _ => Nat.le_of_ble_eq_true rfl) (fun _ => rfl) (fun v u H locs hp hG => ?_)
    subst hp
    refine g_ifeq_b (B := (0 ≤ (y - 1) ∧ (y - 1) < NF 0)) (tgt := 29) S dX9_indexAhead_19 (by decide) (fun q19 => ?_) (fun q19 => ?_)
    · skip
      refine lv_iload_n S.1 S.2.1 dX9_indexAhead_29 rfl (lv_at hl 3 rfl) ?_
      refine g_if_ne (tgt := 40) S dX9_indexAhead_30 (by decide) (by omega) (fun q30 => ?_) (fun q30 => ?_)
      · skip
        refine lv_aload_n S.1 S.2.1 dX9_indexAhead_40 rfl (lv_at hl 1 rfl) ?_
        refine g_get S C hG iX90 0 rfl rfl 3 (by decide) (List.mem_of_getElem? (i := 1) rfl) rfl dX9_indexAhead_41 ?_
        refine g_iconst S dX9_indexAhead_44 ?_
        refine g_iald S C hG 1 rfl (by omega) (by omega) (by omega) dX9_indexAhead_45 ?_
        refine g_iconst S dX9_indexAhead_46 ?_
        refine g_icmp_ne (tgt := 54) S dX9_indexAhead_47 (by decide) (by omega) (by omega) (fun q47 => ?_) (fun q47 => ?_)
        · skip
          refine lv_aload_n S.1 S.2.1 dX9_indexAhead_54 rfl (lv_at hl 1 rfl) ?_
          refine g_get S C hG iX90 0 rfl rfl 3 (by decide) (List.mem_of_getElem? (i := 1) rfl) rfl dX9_indexAhead_55 ?_
          refine g_iconst S dX9_indexAhead_58 ?_
          refine g_iald S C hG 1 rfl (by omega) (by omega) (by omega) dX9_indexAhead_59 ?_
          have hG : gW K A s.heap [gMdl K am th rw lg mr en pw sl ly dn iz tz nx st tk vl ef ep hO hB ol rm oz, gArr K 95 rw NF] _ _ := hG
          exact g_iret S hr hlk hQ dX9_indexAhead_60 (Nat.le_of_ble_eq_true rfl) (Nat.le_of_ble_eq_true rfl) (() : Unit) (congrArg (fun z : Int => Value.int (iI z)) (by unfold ihN <;> rw [show ahd y x = y - 1 by (unfold ahd <;> split <;> omega)] <;> unfold ixN <;> (repeat' split) <;> omega)) hG
        · skip
          refine g_iconst S dX9_indexAhead_50 ?_
          refine lv_goto (tgt := 60) S.1 S.2.1 dX9_indexAhead_51 (by decide) ?_
          have hG : gW K A s.heap [gMdl K am th rw lg mr en pw sl ly dn iz tz nx st tk vl ef ep hO hB ol rm oz, gArr K 95 rw NF] _ _ := hG
          exact g_iret S hr hlk hQ dX9_indexAhead_60 (Nat.le_of_ble_eq_true rfl) (Nat.le_of_ble_eq_true rfl) (() : Unit) (congrArg (fun z : Int => Value.int (iI z)) (by unfold ihN <;> rw [show ahd y x = y - 1 by (unfold ahd <;> split <;> omega)] <;> unfold ixN <;> (repeat' split) <;> omega)) hG
      · skip
        refine lv_aload_n S.1 S.2.1 dX9_indexAhead_33 rfl (lv_at hl 1 rfl) ?_
        refine g_get S C hG iX90 0 rfl rfl 3 (by decide) (List.mem_of_getElem? (i := 1) rfl) rfl dX9_indexAhead_34 ?_
        refine g_iconst S dX9_indexAhead_37 ?_
        refine g_iald S C hG 1 rfl (by omega) (by omega) (by omega) dX9_indexAhead_38 ?_
        have hG : gW K A s.heap [gMdl K am th rw lg mr en pw sl ly dn iz tz nx st tk vl ef ep hO hB ol rm oz, gArr K 95 rw NF] _ _ := hG
        exact g_iret S hr hlk hQ dX9_indexAhead_39 (Nat.le_of_ble_eq_true rfl) (Nat.le_of_ble_eq_true rfl) (() : Unit) (congrArg (fun z : Int => Value.int (iI z)) (by unfold ihN <;> rw [show ahd y x = y - 1 by (unfold ahd <;> split <;> omega)] <;> unfold ixN <;> (repeat' split) <;> omega)) hG
    · skip
      refine lv_aload_n S.1 S.2.1 dX9_indexAhead_22 rfl (lv_at hl 1 rfl) ?_
      refine lv_iload_n S.1 S.2.1 dX9_indexAhead_23 rfl (lv_at hl 0 rfl) ?_
      refine g_iconst S dX9_indexAhead_24 ?_
      refine g_invV (As := [.int (iI (y - 1)), .int (iI 0)]) (rest := []) (gs' := (fun u : Unit => [gMdl K am th rw lg mr en pw sl ly dn iz tz nx st tk vl ef ep hO hB ol rm oz, gArr K 95 rw NF])) S C hG [0, 1] (c_X9_ofLayer l K am th rw lg mr en pw sl ly dn iz tz nx st tk vl ef ep hO hB ol rm oz NF (y - 1) 0 (by omega) (by decide)) rfl rfl 0 rfl rfl (cwV 2 S.2.2.2.2 gX9_indexAhead_X9_ofLayer rfl rfl rfl (by decide +kernel) ⟨Nat.le_of_ble_eq_true rfl, Nat.le_of_ble_eq_true rfl⟩) rfl hl.1 rfl (Nat.le_of_ble_eq_true rfl) dX9_indexAhead_25 ⟨Nat.le_of_ble_eq_true rfl, Nat.le_of_ble_eq_true rfl⟩ (fun _ => Nat.le_of_ble_eq_true rfl) (fun _ => rfl) (fun v u H locs hp hG => ?_)
      subst hp
      have hG : gW K A s.heap [gMdl K am th rw lg mr en pw sl ly dn iz tz nx st tk vl ef ep hO hB ol rm oz, gArr K 95 rw NF] _ _ := hG
      exact g_iret S hr hlk hQ dX9_indexAhead_28 (Nat.le_of_ble_eq_true rfl) (Nat.le_of_ble_eq_true rfl) (() : Unit) (congrArg (fun z : Int => Value.int (iI z)) (by unfold ihN <;> rw [show ahd y x = y - 1 by (unfold ahd <;> split <;> omega)] <;> unfold ixN <;> (repeat' split) <;> omega)) hG
  · skip
    refine lv_iload_n S.1 S.2.1 dX9_indexAhead_4 rfl (lv_at hl 1 rfl) ?_
    refine g_iconst S dX9_indexAhead_5 ?_
    refine g_iadd S dX9_indexAhead_6 rfl ?_
    refine lv_goto (tgt := 13) S.1 S.2.1 dX9_indexAhead_7 (by decide) ?_
    refine lv_istore_n (lv' := [(3, .int (iI (y + 1))), (0, .ref (am 0)), (1, .int (iI y)), (2, .int (iI x))]) S.1 S.2.1 dX9_indexAhead_13 rfl hl (by decide) rfl (fun ls hl => ?_)
    refine lv_aload_n S.1 S.2.1 dX9_indexAhead_14 rfl (lv_at hl 1 rfl) ?_
    refine lv_iload_n S.1 S.2.1 dX9_indexAhead_15 rfl (lv_at hl 0 rfl) ?_
    refine g_invV (As := [.int (iI (y + 1))]) (rest := []) (gs' := (fun u : Unit => [gMdl K am th rw lg mr en pw sl ly dn iz tz nx st tk vl ef ep hO hB ol rm oz, gArr K 95 rw NF])) S C hG [0, 1] (c_X9_isLayer l K am th rw lg mr en pw sl ly dn iz tz nx st tk vl ef ep hO hB ol rm oz NF (y + 1) hN (by omega)) rfl rfl 0 rfl rfl (cwV 1 S.2.2.2.2 gX9_indexAhead_X9_isLayer rfl rfl rfl (by decide +kernel) ⟨Nat.le_of_ble_eq_true rfl, Nat.le_of_ble_eq_true rfl⟩) rfl hl.1 rfl (Nat.le_of_ble_eq_true rfl) dX9_indexAhead_16 ⟨Nat.le_of_ble_eq_true rfl, Nat.le_of_ble_eq_true rfl⟩ (fun _ => Nat.le_of_ble_eq_true rfl) (fun _ => rfl) (fun v u H locs hp hG => ?_)
    subst hp
    refine g_ifeq_b (B := (0 ≤ (y + 1) ∧ (y + 1) < NF 0)) (tgt := 29) S dX9_indexAhead_19 (by decide) (fun q19 => ?_) (fun q19 => ?_)
    · skip
      refine lv_iload_n S.1 S.2.1 dX9_indexAhead_29 rfl (lv_at hl 3 rfl) ?_
      refine g_if_ne (tgt := 40) S dX9_indexAhead_30 (by decide) (by omega) (fun q30 => ?_) (fun q30 => ?_)
      · skip
        refine lv_aload_n S.1 S.2.1 dX9_indexAhead_40 rfl (lv_at hl 1 rfl) ?_
        refine g_get S C hG iX90 0 rfl rfl 3 (by decide) (List.mem_of_getElem? (i := 1) rfl) rfl dX9_indexAhead_41 ?_
        refine g_iconst S dX9_indexAhead_44 ?_
        refine g_iald S C hG 1 rfl (by omega) (by omega) (by omega) dX9_indexAhead_45 ?_
        refine g_iconst S dX9_indexAhead_46 ?_
        refine g_icmp_ne (tgt := 54) S dX9_indexAhead_47 (by decide) (by omega) (by omega) (fun q47 => ?_) (fun q47 => ?_)
        · skip
          refine lv_aload_n S.1 S.2.1 dX9_indexAhead_54 rfl (lv_at hl 1 rfl) ?_
          refine g_get S C hG iX90 0 rfl rfl 3 (by decide) (List.mem_of_getElem? (i := 1) rfl) rfl dX9_indexAhead_55 ?_
          refine g_iconst S dX9_indexAhead_58 ?_
          refine g_iald S C hG 1 rfl (by omega) (by omega) (by omega) dX9_indexAhead_59 ?_
          have hG : gW K A s.heap [gMdl K am th rw lg mr en pw sl ly dn iz tz nx st tk vl ef ep hO hB ol rm oz, gArr K 95 rw NF] _ _ := hG
          exact g_iret S hr hlk hQ dX9_indexAhead_60 (Nat.le_of_ble_eq_true rfl) (Nat.le_of_ble_eq_true rfl) (() : Unit) (congrArg (fun z : Int => Value.int (iI z)) (by unfold ihN <;> rw [show ahd y x = y + 1 by (unfold ahd <;> split <;> omega)] <;> unfold ixN <;> (repeat' split) <;> omega)) hG
        · skip
          refine g_iconst S dX9_indexAhead_50 ?_
          refine lv_goto (tgt := 60) S.1 S.2.1 dX9_indexAhead_51 (by decide) ?_
          have hG : gW K A s.heap [gMdl K am th rw lg mr en pw sl ly dn iz tz nx st tk vl ef ep hO hB ol rm oz, gArr K 95 rw NF] _ _ := hG
          exact g_iret S hr hlk hQ dX9_indexAhead_60 (Nat.le_of_ble_eq_true rfl) (Nat.le_of_ble_eq_true rfl) (() : Unit) (congrArg (fun z : Int => Value.int (iI z)) (by unfold ihN <;> rw [show ahd y x = y + 1 by (unfold ahd <;> split <;> omega)] <;> unfold ixN <;> (repeat' split) <;> omega)) hG
      · skip
        refine lv_aload_n S.1 S.2.1 dX9_indexAhead_33 rfl (lv_at hl 1 rfl) ?_
        refine g_get S C hG iX90 0 rfl rfl 3 (by decide) (List.mem_of_getElem? (i := 1) rfl) rfl dX9_indexAhead_34 ?_
        refine g_iconst S dX9_indexAhead_37 ?_
        refine g_iald S C hG 1 rfl (by omega) (by omega) (by omega) dX9_indexAhead_38 ?_
        have hG : gW K A s.heap [gMdl K am th rw lg mr en pw sl ly dn iz tz nx st tk vl ef ep hO hB ol rm oz, gArr K 95 rw NF] _ _ := hG
        exact g_iret S hr hlk hQ dX9_indexAhead_39 (Nat.le_of_ble_eq_true rfl) (Nat.le_of_ble_eq_true rfl) (() : Unit) (congrArg (fun z : Int => Value.int (iI z)) (by unfold ihN <;> rw [show ahd y x = y + 1 by (unfold ahd <;> split <;> omega)] <;> unfold ixN <;> (repeat' split) <;> omega)) hG
    · skip
      refine lv_aload_n S.1 S.2.1 dX9_indexAhead_22 rfl (lv_at hl 1 rfl) ?_
      refine lv_iload_n S.1 S.2.1 dX9_indexAhead_23 rfl (lv_at hl 0 rfl) ?_
      refine g_iconst S dX9_indexAhead_24 ?_
      refine g_invV (As := [.int (iI (y + 1)), .int (iI 0)]) (rest := []) (gs' := (fun u : Unit => [gMdl K am th rw lg mr en pw sl ly dn iz tz nx st tk vl ef ep hO hB ol rm oz, gArr K 95 rw NF])) S C hG [0, 1] (c_X9_ofLayer l K am th rw lg mr en pw sl ly dn iz tz nx st tk vl ef ep hO hB ol rm oz NF (y + 1) 0 (by omega) (by decide)) rfl rfl 0 rfl rfl (cwV 2 S.2.2.2.2 gX9_indexAhead_X9_ofLayer rfl rfl rfl (by decide +kernel) ⟨Nat.le_of_ble_eq_true rfl, Nat.le_of_ble_eq_true rfl⟩) rfl hl.1 rfl (Nat.le_of_ble_eq_true rfl) dX9_indexAhead_25 ⟨Nat.le_of_ble_eq_true rfl, Nat.le_of_ble_eq_true rfl⟩ (fun _ => Nat.le_of_ble_eq_true rfl) (fun _ => rfl) (fun v u H locs hp hG => ?_)
      subst hp
      have hG : gW K A s.heap [gMdl K am th rw lg mr en pw sl ly dn iz tz nx st tk vl ef ep hO hB ol rm oz, gArr K 95 rw NF] _ _ := hG
      exact g_iret S hr hlk hQ dX9_indexAhead_28 (Nat.le_of_ble_eq_true rfl) (Nat.le_of_ble_eq_true rfl) (() : Unit) (congrArg (fun z : Int => Value.int (iI z)) (by unfold ihN <;> rw [show ahd y x = y + 1 by (unfold ahd <;> split <;> omega)] <;> unfold ixN <;> (repeat' split) <;> omega)) hG

set_option maxHeartbeats 1000000 in
set_option maxRecDepth 100000 in
theorem c_X9_whatBehind (l : Launch) (K : KC) (am : Nat → Nat) (th : Int) (rw : Nat) (lg : Int) (mr : Int) (en : Int) (pw : Int) (sl : Int) (ly : Int) (dn : Int) (iz : Int) (tz : Int) (nx : Int) (st : Int) (tk : Int) (vl : Int) (ef : Int) (ep : Int) (hO : Int) (hB : Int) (ol : Int) (rm : Int) (oz : Int) (NF : Int → Int) (hN : NOk0 NF) (hy : 0 ≤ ly ∧ ly < NF 0) (hsl : 0 ≤ sl ∧ sl < nX NF ly) (hdn : dn = 0 ∨ dn = 1) (hpw : 0 ≤ pw ∧ pw ≤ 1000000) : mG l yX9_whatBehind wsX9_whatBehind 3 69 K [.ref (am 0)] [gMdl K am th rw lg mr en pw sl ly dn iz tz nx st tk vl ef ep hO hB ol rm oz, gArr K 95 rw NF] (fun (v : Value) (u : Unit) => (v = .int (iI (wbN NF sl ly dn pw)))) (fun (u : Unit) => [gMdl K am th rw lg mr en pw sl ly dn iz tz nx st tk vl ef ep hO hB ol rm oz, gArr K 95 rw NF]) 0 0 := by
  refine mG_of cX9_whatBehind 2 (by decide) rfl (Nat.le_of_ble_eq_true rfl) ?_
  intro p e s m below meth c A ls Q S C hG hl hr hlk hin hQ
  have S : CallFix p m c cX9_whatBehind 2 s ([.ref (am 0)] : List Value).toArray wsX9_whatBehind RX9 := S
  have iX90 : ∀ w ∈ wsX90, w ∈ wsX9_whatBehind := fun _ h => List.mem_cons_of_mem _ (List.mem_append_right _ (h))
  have hl : lv_has ls 2 [(0, .ref (am 0))] := hl
  have hG : gW K A s.heap [gMdl K am th rw lg mr en pw sl ly dn iz tz nx st tk vl ef ep hO hB ol rm oz, gArr K 95 rw NF] s.heap [] := hG
  have n0 := hN.1
  have ib : -1 ≤ ihN NF ly dn ∧ ihN NF ly dn ≤ 4000 := by (have z := ixN_bd hN (ahd ly dn) <;> unfold ihN <;> split <;> omega)
  have lb := lay_bd hN hy.1 hy.2
  have ab : -1 ≤ ahd ly dn ∧ ahd ly dn ≤ 10 := by (unfold ahd <;> split <;> omega)
  refine lv_aload_n S.1 S.2.1 dX9_whatBehind_0 rfl (lv_at hl 0 rfl) ?_
  refine g_get S C hG iX90 0 rfl rfl 14 (by decide) (List.mem_of_getElem? (i := 1) rfl) rfl dX9_whatBehind_1 ?_
  refine g_lconst (z := 0) S dX9_whatBehind_4 rfl ?_
  refine g_lcmp S dX9_whatBehind_5 (by omega) (by omega) ?_
  refine g_if_ne (tgt := 11) S dX9_whatBehind_6 (by decide) (by omega) (fun q6 => ?_) (fun q6 => ?_)
  · skip
    refine lv_aload_n S.1 S.2.1 dX9_whatBehind_11 rfl (lv_at hl 0 rfl) ?_
    refine lv_aload_n S.1 S.2.1 dX9_whatBehind_12 rfl (lv_at hl 0 rfl) ?_
    refine g_get S C hG iX90 0 rfl rfl 16 (by decide) (List.mem_of_getElem? (i := 2) rfl) rfl dX9_whatBehind_13 ?_
    refine lv_aload_n S.1 S.2.1 dX9_whatBehind_16 rfl (lv_at hl 0 rfl) ?_
    refine g_get S C hG iX90 0 rfl rfl 17 (by decide) (List.mem_of_getElem? (i := 3) rfl) rfl dX9_whatBehind_17 ?_
    refine g_invV (As := [.int (iI ly), .int (iI dn)]) (rest := []) (gs' := (fun u : Unit => [gMdl K am th rw lg mr en pw sl ly dn iz tz nx st tk vl ef ep hO hB ol rm oz, gArr K 95 rw NF])) S C hG [0, 1] (c_X9_indexAhead l K am th rw lg mr en pw sl ly dn iz tz nx st tk vl ef ep hO hB ol rm oz NF ly dn hN hy hdn) rfl rfl 0 rfl rfl (cwV 2 S.2.2.2.2 gX9_whatBehind_X9_indexAhead rfl rfl rfl (by decide +kernel) ⟨Nat.le_of_ble_eq_true rfl, Nat.le_of_ble_eq_true rfl⟩) rfl hl.1 rfl (Nat.le_of_ble_eq_true rfl) dX9_whatBehind_20 ⟨Nat.le_of_ble_eq_true rfl, Nat.le_of_ble_eq_true rfl⟩ (fun _ => Nat.le_of_ble_eq_true rfl) (fun _ => rfl) (fun v u H locs hp hG => ?_)
    subst hp
    refine lv_istore_n (lv' := [(1, .int (iI (ihN NF ly dn))), (0, .ref (am 0))]) S.1 S.2.1 dX9_whatBehind_23 rfl hl (by decide) rfl (fun ls hl => ?_)
    refine lv_iload_n S.1 S.2.1 dX9_whatBehind_24 rfl (lv_at hl 0 rfl) ?_
    refine g_iconst S dX9_whatBehind_25 ?_
    refine g_icmp_ne (tgt := 31) S dX9_whatBehind_26 (by decide) (by omega) (by omega) (fun q26 => ?_) (fun q26 => ?_)
    · skip
      refine lv_iload_n S.1 S.2.1 dX9_whatBehind_31 rfl (lv_at hl 0 rfl) ?_
      refine lv_aload_n S.1 S.2.1 dX9_whatBehind_32 rfl (lv_at hl 1 rfl) ?_
      refine g_get S C hG iX90 0 rfl rfl 15 (by decide) (List.mem_of_getElem? (i := 4) rfl) rfl dX9_whatBehind_33 ?_
      refine g_icmp_gt (tgt := 41) S dX9_whatBehind_36 (by decide) (by omega) (by omega) (fun q36 => ?_) (fun q36 => ?_)
      · skip
        refine lv_aload_n S.1 S.2.1 dX9_whatBehind_41 rfl (lv_at hl 1 rfl) ?_
        refine lv_aload_n S.1 S.2.1 dX9_whatBehind_42 rfl (lv_at hl 1 rfl) ?_
        refine g_invV (As := []) (rest := [.ref (am 0)]) (gs' := (fun u : Unit => [gMdl K am th rw lg mr en pw sl ly dn iz tz nx st tk vl ef ep hO hB ol rm oz, gArr K 95 rw NF])) S C hG [0] (c_X9_layerAhead l K am th rw lg mr en pw sl ly dn iz tz nx st tk vl ef ep hO hB ol rm oz hdn (by omega)) rfl rfl 0 rfl rfl (cwV 0 S.2.2.2.2 gX9_whatBehind_X9_layerAhead rfl rfl rfl (by decide +kernel) ⟨Nat.le_of_ble_eq_true rfl, Nat.le_of_ble_eq_true rfl⟩) rfl hl.1 rfl (Nat.le_of_ble_eq_true rfl) dX9_whatBehind_43 ⟨Nat.le_of_ble_eq_true rfl, Nat.le_of_ble_eq_true rfl⟩ (fun _ => Nat.le_of_ble_eq_true rfl) (fun _ => rfl) (fun v u H locs hp hG => ?_)
        subst hp
        refine g_invV (As := [.int (iI (ahd ly dn))]) (rest := []) (gs' := (fun u : Unit => [gMdl K am th rw lg mr en pw sl ly dn iz tz nx st tk vl ef ep hO hB ol rm oz, gArr K 95 rw NF])) S C hG [0, 1] (c_X9_isLayer l K am th rw lg mr en pw sl ly dn iz tz nx st tk vl ef ep hO hB ol rm oz NF (ahd ly dn) hN (by omega)) rfl rfl 0 rfl rfl (cwV 1 S.2.2.2.2 gX9_whatBehind_X9_isLayer rfl rfl rfl (by decide +kernel) ⟨Nat.le_of_ble_eq_true rfl, Nat.le_of_ble_eq_true rfl⟩) rfl hl.1 rfl (Nat.le_of_ble_eq_true rfl) dX9_whatBehind_46 ⟨Nat.le_of_ble_eq_true rfl, Nat.le_of_ble_eq_true rfl⟩ (fun _ => Nat.le_of_ble_eq_true rfl) (fun _ => rfl) (fun v u H locs hp hG => ?_)
        subst hp
        refine g_ifeq_b (B := (0 ≤ (ahd ly dn) ∧ (ahd ly dn) < NF 0)) (tgt := 56) S dX9_whatBehind_49 (by decide) (fun q49 => ?_) (fun q49 => ?_)
        · skip
          refine lv_aload_n S.1 S.2.1 dX9_whatBehind_56 rfl (lv_at hl 1 rfl) ?_
          refine g_get S C hG iX90 0 rfl rfl 17 (by decide) (List.mem_of_getElem? (i := 3) rfl) rfl dX9_whatBehind_57 ?_
          refine g_if_eq (tgt := 67) S dX9_whatBehind_60 (by decide) (by omega) (fun q60 => ?_) (fun q60 => ?_)
          · skip
            refine g_iconst S dX9_whatBehind_67 ?_
            have hG : gW K A s.heap [gMdl K am th rw lg mr en pw sl ly dn iz tz nx st tk vl ef ep hO hB ol rm oz, gArr K 95 rw NF] _ _ := hG
            exact g_iret S hr hlk hQ dX9_whatBehind_68 (Nat.le_of_ble_eq_true rfl) (Nat.le_of_ble_eq_true rfl) (() : Unit) (congrArg (fun z : Int => Value.int (iI z)) (by unfold wbN <;> rw [if_neg (by omega), if_neg (by omega), if_neg (by omega), if_neg q49, if_neg (by omega)])) hG
          · skip
            refine g_iconst S dX9_whatBehind_63 ?_
            refine lv_goto (tgt := 68) S.1 S.2.1 dX9_whatBehind_64 (by decide) ?_
            have hG : gW K A s.heap [gMdl K am th rw lg mr en pw sl ly dn iz tz nx st tk vl ef ep hO hB ol rm oz, gArr K 95 rw NF] _ _ := hG
            exact g_iret S hr hlk hQ dX9_whatBehind_68 (Nat.le_of_ble_eq_true rfl) (Nat.le_of_ble_eq_true rfl) (() : Unit) (congrArg (fun z : Int => Value.int (iI z)) (by unfold wbN <;> rw [if_neg (by omega), if_neg (by omega), if_neg (by omega), if_neg q49, if_pos (by omega)])) hG
        · skip
          refine g_iconst S dX9_whatBehind_52 ?_
          refine lv_goto (tgt := 68) S.1 S.2.1 dX9_whatBehind_53 (by decide) ?_
          have hG : gW K A s.heap [gMdl K am th rw lg mr en pw sl ly dn iz tz nx st tk vl ef ep hO hB ol rm oz, gArr K 95 rw NF] _ _ := hG
          exact g_iret S hr hlk hQ dX9_whatBehind_68 (Nat.le_of_ble_eq_true rfl) (Nat.le_of_ble_eq_true rfl) (() : Unit) (congrArg (fun z : Int => Value.int (iI z)) (by unfold wbN <;> rw [if_neg (by omega), if_neg (by omega), if_neg (by omega), if_pos q49])) hG
      · skip
        refine g_iconst S dX9_whatBehind_39 ?_
        have hG : gW K A s.heap [gMdl K am th rw lg mr en pw sl ly dn iz tz nx st tk vl ef ep hO hB ol rm oz, gArr K 95 rw NF] _ _ := hG
        exact g_iret S hr hlk hQ dX9_whatBehind_40 (Nat.le_of_ble_eq_true rfl) (Nat.le_of_ble_eq_true rfl) (() : Unit) (congrArg (fun z : Int => Value.int (iI z)) (by unfold wbN <;> rw [if_neg (by omega), if_neg (by omega), if_pos (by omega)])) hG
    · skip
      refine g_iconst S dX9_whatBehind_29 ?_
      have hG : gW K A s.heap [gMdl K am th rw lg mr en pw sl ly dn iz tz nx st tk vl ef ep hO hB ol rm oz, gArr K 95 rw NF] _ _ := hG
      exact g_iret S hr hlk hQ dX9_whatBehind_30 (Nat.le_of_ble_eq_true rfl) (Nat.le_of_ble_eq_true rfl) (() : Unit) (congrArg (fun z : Int => Value.int (iI z)) (by unfold wbN <;> rw [if_neg (by omega), if_pos (by omega)])) hG
  · skip
    refine g_iconst S dX9_whatBehind_9 ?_
    have hG : gW K A s.heap [gMdl K am th rw lg mr en pw sl ly dn iz tz nx st tk vl ef ep hO hB ol rm oz, gArr K 95 rw NF] _ _ := hG
    exact g_iret S hr hlk hQ dX9_whatBehind_10 (Nat.le_of_ble_eq_true rfl) (Nat.le_of_ble_eq_true rfl) (() : Unit) (congrArg (fun z : Int => Value.int (iI z)) (by unfold wbN <;> rw [if_pos (by omega)])) hG

set_option maxHeartbeats 1000000 in
set_option maxRecDepth 100000 in
theorem c_X9_passOn (l : Launch) (K : KC) (am : Nat → Nat) (th : Int) (rw : Nat) (lg : Int) (mr : Int) (en : Int) (pw : Int) (sl : Int) (ly : Int) (dn : Int) (iz : Int) (tz : Int) (nx : Int) (st : Int) (tk : Int) (vl : Int) (ef : Int) (ep : Int) (hO : Int) (hB : Int) (ol : Int) (rm : Int) (oz : Int) (NF : Int → Int) (hN : NOk0 NF) (hy : 0 ≤ ly ∧ ly < NF 0) (hdn : dn = 0 ∨ dn = 1) (hpw : 0 ≤ pw ∧ pw ≤ 1000000) (hz : 0 ≤ ahd ly dn ∧ ahd ly dn < NF 0) : mV l yX9_passOn wsX9_passOn 1 22 K [.ref (am 0)] [gMdl K am th rw lg mr en pw sl ly dn iz tz nx st tk vl ef ep hO hB ol rm oz, gArr K 95 rw NF] (fun (u : Unit) => True) (fun (u : Unit) => [gMdl K am th rw lg mr en (ppN NF ly (ahd ly dn) pw) sl (ahd ly dn) dn iz tz nx st tk vl ef ep hO hB ol rm oz, gArr K 95 rw NF]) 0 0 := by
  refine mV_of cX9_passOn 5 (by decide) rfl (Nat.le_of_ble_eq_true rfl) ?_
  intro p e s m below meth c A ls Q S C hG hl hr hlk hin hQ
  have S : CallFix p m c cX9_passOn 5 s ([.ref (am 0)] : List Value).toArray wsX9_passOn RX9 := S
  have iX90 : ∀ w ∈ wsX90, w ∈ wsX9_passOn := fun _ h => List.mem_cons_of_mem _ (List.mem_append_right _ (h))
  have hl : lv_has ls 5 [(0, .ref (am 0))] := hl
  have hG : gW K A s.heap [gMdl K am th rw lg mr en pw sl ly dn iz tz nx st tk vl ef ep hO hB ol rm oz, gArr K 95 rw NF] s.heap [] := hG
  have n0 := hN.1
  have lb := lay_bd hN hy.1 hy.2
  have lz := lay_bd hN hz.1 hz.2
  have pb9 := pp_bd hN hy.1 hy.2 hz.1 hz.2 hpw.1 hpw.2
  refine lv_aload_n S.1 S.2.1 dX9_passOn_0 rfl (lv_at hl 0 rfl) ?_
  refine lv_aload_n S.1 S.2.1 dX9_passOn_1 rfl (lv_at hl 0 rfl) ?_
  refine g_get S C hG iX90 0 rfl rfl 16 (by decide) (List.mem_of_getElem? (i := 1) rfl) rfl dX9_passOn_2 ?_
  refine g_iconst S dX9_passOn_5 ?_
  refine g_invV (As := [.int (iI ly), .int (iI 0)]) (rest := []) (gs' := (fun u : Unit => [gMdl K am th rw lg mr en pw sl ly dn iz tz nx st tk vl ef ep hO hB ol rm oz, gArr K 95 rw NF])) S C hG [0, 1] (c_X9_ofLayer l K am th rw lg mr en pw sl ly dn iz tz nx st tk vl ef ep hO hB ol rm oz NF ly 0 (by omega) (by decide)) rfl rfl 0 rfl rfl (cwV 2 S.2.2.2.2 gX9_passOn_X9_ofLayer rfl rfl rfl (by decide +kernel) ⟨Nat.le_of_ble_eq_true rfl, Nat.le_of_ble_eq_true rfl⟩) rfl hl.1 rfl (Nat.le_of_ble_eq_true rfl) dX9_passOn_6 ⟨Nat.le_of_ble_eq_true rfl, Nat.le_of_ble_eq_true rfl⟩ (fun _ => Nat.le_of_ble_eq_true rfl) (fun _ => rfl) (fun v u H locs hp hG => ?_)
  subst hp
  refine g_top (w := .int (iI (nX NF ly))) (congrArg (fun z : Int => Value.int (iI z)) (rfl)) ?_
  refine g_i2l S dX9_passOn_9 (by omega) ?_
  refine lv_lstore_n (lv' := [(1, .long (iL (nX NF ly))), (0, .ref (am 0))]) S.1 S.2.1 dX9_passOn_10 rfl hl (by decide) rfl (fun ls hl => ?_)
  refine lv_aload_n S.1 S.2.1 dX9_passOn_11 rfl (lv_at hl 1 rfl) ?_
  refine lv_aload_n S.1 S.2.1 dX9_passOn_12 rfl (lv_at hl 1 rfl) ?_
  refine g_invV (As := []) (rest := [.ref (am 0)]) (gs' := (fun u : Unit => [gMdl K am th rw lg mr en pw sl ly dn iz tz nx st tk vl ef ep hO hB ol rm oz, gArr K 95 rw NF])) S C hG [0] (c_X9_layerAhead l K am th rw lg mr en pw sl ly dn iz tz nx st tk vl ef ep hO hB ol rm oz hdn (by omega)) rfl rfl 0 rfl rfl (cwV 0 S.2.2.2.2 gX9_passOn_X9_layerAhead rfl rfl rfl (by decide +kernel) ⟨Nat.le_of_ble_eq_true rfl, Nat.le_of_ble_eq_true rfl⟩) rfl hl.1 rfl (Nat.le_of_ble_eq_true rfl) dX9_passOn_13 ⟨Nat.le_of_ble_eq_true rfl, Nat.le_of_ble_eq_true rfl⟩ (fun _ => Nat.le_of_ble_eq_true rfl) (fun _ => rfl) (fun v u H locs hp hG => ?_)
  subst hp
  refine g_iconst S dX9_passOn_16 ?_
  refine g_invV (As := [.int (iI (ahd ly dn)), .int (iI 0)]) (rest := []) (gs' := (fun u : Unit => [gMdl K am th rw lg mr en pw sl ly dn iz tz nx st tk vl ef ep hO hB ol rm oz, gArr K 95 rw NF])) S C hG [0, 1] (c_X9_ofLayer l K am th rw lg mr en pw sl ly dn iz tz nx st tk vl ef ep hO hB ol rm oz NF (ahd ly dn) 0 (by omega) (by decide)) rfl rfl 0 rfl rfl (cwV 2 S.2.2.2.2 gX9_passOn_X9_ofLayer rfl rfl rfl (by decide +kernel) ⟨Nat.le_of_ble_eq_true rfl, Nat.le_of_ble_eq_true rfl⟩) rfl hl.1 rfl (Nat.le_of_ble_eq_true rfl) dX9_passOn_17 ⟨Nat.le_of_ble_eq_true rfl, Nat.le_of_ble_eq_true rfl⟩ (fun _ => Nat.le_of_ble_eq_true rfl) (fun _ => rfl) (fun v u H locs hp hG => ?_)
  subst hp
  refine g_top (w := .int (iI (nX NF (ahd ly dn)))) (congrArg (fun z : Int => Value.int (iI z)) (rfl)) ?_
  refine g_i2l S dX9_passOn_20 (by omega) ?_
  refine lv_lstore_n (lv' := [(3, .long (iL (nX NF (ahd ly dn)))), (1, .long (iL (nX NF ly))), (0, .ref (am 0))]) S.1 S.2.1 dX9_passOn_21 rfl hl (by decide) rfl (fun ls hl => ?_)
  refine lv_aload_n S.1 S.2.1 dX9_passOn_22 rfl (lv_at hl 2 rfl) ?_
  refine lv_dup S.1 S.2.1 dX9_passOn_23 rfl ?_
  refine g_get S C hG iX90 0 rfl rfl 14 (by decide) (List.mem_of_getElem? (i := 2) rfl) rfl dX9_passOn_24 ?_
  refine lv_aload_n S.1 S.2.1 dX9_passOn_27 rfl (lv_at hl 2 rfl) ?_
  refine g_get S C hG iX90 0 rfl rfl 14 (by decide) (List.mem_of_getElem? (i := 2) rfl) rfl dX9_passOn_28 ?_
  refine lv_lload_n S.1 S.2.1 dX9_passOn_31 rfl (lv_at hl 1 rfl) ?_
  refine lv_lload_n S.1 S.2.1 dX9_passOn_32 rfl (lv_at hl 0 rfl) ?_
  refine g_lsub S dX9_passOn_33 rfl ?_
  refine g_lmul S dX9_passOn_34 rfl ?_
  refine lv_lload_n S.1 S.2.1 dX9_passOn_35 rfl (lv_at hl 1 rfl) ?_
  refine lv_lload_n S.1 S.2.1 dX9_passOn_36 rfl (lv_at hl 0 rfl) ?_
  refine g_lsub S dX9_passOn_37 rfl ?_
  refine g_lmul S dX9_passOn_38 rfl ?_
  refine g_top (w := .long (iL (pw * ((nX NF (ahd ly dn) - nX NF ly) * (nX NF (ahd ly dn) - nX NF ly))))) (congrArg (fun z : Int => Value.long (iL z)) ((ppA _ _ _))) ?_
  refine lv_lload_n S.1 S.2.1 dX9_passOn_39 rfl (lv_at hl 1 rfl) ?_
  refine lv_lload_n S.1 S.2.1 dX9_passOn_40 rfl (lv_at hl 0 rfl) ?_
  refine g_ladd S dX9_passOn_41 rfl ?_
  refine lv_lload_n S.1 S.2.1 dX9_passOn_42 rfl (lv_at hl 1 rfl) ?_
  refine lv_lload_n S.1 S.2.1 dX9_passOn_43 rfl (lv_at hl 0 rfl) ?_
  refine g_ladd S dX9_passOn_44 rfl ?_
  refine g_lmul S dX9_passOn_45 rfl ?_
  refine g_top (w := .long (iL ((nX NF (ahd ly dn) + nX NF ly) * (nX NF (ahd ly dn) + nX NF ly)))) (congrArg (fun z : Int => Value.long (iL z)) ((by rw [Int.add_comm]))) ?_
  refine g_ldiv S dX9_passOn_46 (by omega) (by omega) rfl ?_
  refine g_lsub S dX9_passOn_47 rfl ?_
  refine g_top (w := .long (iL (ppN NF ly (ahd ly dn) pw))) (congrArg (fun z : Int => Value.long (iL z)) (rfl)) ?_
  refine g_put (gs' := [gMdl K am th rw lg mr en (ppN NF ly (ahd ly dn) pw) sl ly dn iz tz nx st tk vl ef ep hO hB ol rm oz, gArr K 95 rw NF]) S C hG iX90 tyX9 tyX9_ok nmX9 0 rfl rfl 14 (by decide) (List.mem_of_getElem? (i := 2) rfl) rfl rfl rfl (Nat.le_of_ble_eq_true rfl) rfl dX9_passOn_48 (fun H locs hG => ?_)
  refine lv_aload_n S.1 S.2.1 dX9_passOn_51 rfl (lv_at hl 2 rfl) ?_
  refine lv_aload_n S.1 S.2.1 dX9_passOn_52 rfl (lv_at hl 2 rfl) ?_
  refine g_invV (As := []) (rest := [.ref (am 0)]) (gs' := (fun u : Unit => [gMdl K am th rw lg mr en (ppN NF ly (ahd ly dn) pw) sl ly dn iz tz nx st tk vl ef ep hO hB ol rm oz, gArr K 95 rw NF])) S C hG [0] (c_X9_layerAhead l K am th rw lg mr en (ppN NF ly (ahd ly dn) pw) sl ly dn iz tz nx st tk vl ef ep hO hB ol rm oz hdn (by omega)) rfl rfl 0 rfl rfl (cwV 0 S.2.2.2.2 gX9_passOn_X9_layerAhead rfl rfl rfl (by decide +kernel) ⟨Nat.le_of_ble_eq_true rfl, Nat.le_of_ble_eq_true rfl⟩) rfl hl.1 rfl (Nat.le_of_ble_eq_true rfl) dX9_passOn_53 ⟨Nat.le_of_ble_eq_true rfl, Nat.le_of_ble_eq_true rfl⟩ (fun _ => Nat.le_of_ble_eq_true rfl) (fun _ => rfl) (fun v u H locs hp hG => ?_)
  subst hp
  refine g_put (gs' := [gMdl K am th rw lg mr en (ppN NF ly (ahd ly dn) pw) sl (ahd ly dn) dn iz tz nx st tk vl ef ep hO hB ol rm oz, gArr K 95 rw NF]) S C hG iX90 tyX9 tyX9_ok nmX9 0 rfl rfl 16 (by decide) (List.mem_of_getElem? (i := 1) rfl) rfl rfl rfl (Nat.le_of_ble_eq_true rfl) rfl dX9_passOn_56 (fun H locs hG => ?_)
  have hG : gW K A s.heap [gMdl K am th rw lg mr en (ppN NF ly (ahd ly dn) pw) sl (ahd ly dn) dn iz tz nx st tk vl ef ep hO hB ol rm oz, gArr K 95 rw NF] _ _ := hG
  exact g_vret S hr hlk hQ dX9_passOn_59 (Nat.le_of_ble_eq_true rfl) (Nat.le_of_ble_eq_true rfl) (() : Unit) trivial hG

set_option maxHeartbeats 1000000 in
set_option maxRecDepth 100000 in
theorem c_endBy0 (l : Launch) (K : KC) (am : Nat → Nat) (th : Int) (rw : Nat) (lg : Int) (mr : Int) (en : Int) (pw : Int) (sl : Int) (ly : Int) (dn : Int) (iz : Int) (tz : Int) (nx : Int) (st : Int) (tk : Int) (vl : Int) (ef : Int) (ep : Int) (hO : Int) (hB : Int) (ol : Int) (rm : Int) (oz : Int) (hlg : 0 ≤ lg ∧ lg ≤ 60) : mG l yX9_endBy wsX9_endBy 0 0 K [.ref (am 0), .int (iI 0)] [gMdl K am th rw lg mr en pw sl ly dn iz tz nx st tk vl ef ep hO hB ol rm oz] (fun (v : Value) (u : Unit) => (v = .int (iI (ebN lg 0)))) (fun (u : Unit) => [gMdl K am th rw lg mr en pw sl ly dn iz tz nx st tk vl ef ep hO hB ol rm oz]) 0 0 := by
  refine mG_of cX9_endBy 2 (by decide) rfl (Nat.le_of_ble_eq_true rfl) ?_
  intro p e s m below meth c A ls Q S C hG hl hr hlk hin hQ
  have S : CallFix p m c cX9_endBy 2 s ([.ref (am 0), .int (iI 0)] : List Value).toArray wsX9_endBy RX9 := S
  have iX90 : ∀ w ∈ wsX90, w ∈ wsX9_endBy := fun _ h => List.mem_cons_of_mem _ (List.mem_append_right _ (h))
  have hl : lv_has ls 2 [(0, .ref (am 0)), (1, .int (iI 0))] := hl
  have hG : gW K A s.heap [gMdl K am th rw lg mr en pw sl ly dn iz tz nx st tk vl ef ep hO hB ol rm oz] s.heap [] := hG
  refine lv_iload_n S.1 S.2.1 dX9_endBy_0 rfl (lv_at hl 1 rfl) ?_
  refine lv_tableOut (tgt := 34) S.1 S.2.1 dX9_endBy_1 (by rw [iI_toInt (by omega)] <;> omega) (by decide) ?_
  refine lv_aload_n S.1 S.2.1 dX9_endBy_34 rfl (lv_at hl 0 rfl) ?_
  refine g_get S C hG iX90 0 rfl rfl 11 (by decide) (List.mem_of_getElem? (i := 1) rfl) rfl dX9_endBy_35 ?_
  refine g_bipush S dX9_endBy_38 (by decide) ?_
  refine g_icmp_ne (tgt := 47) S dX9_endBy_40 (by decide) (by omega) (by omega) (fun q40 => ?_) (fun q40 => ?_)
  · skip
    refine g_iconst S dX9_endBy_47 ?_
    have hG : gW K A s.heap [gMdl K am th rw lg mr en pw sl ly dn iz tz nx st tk vl ef ep hO hB ol rm oz] _ _ := hG
    exact g_iret S hr hlk hQ dX9_endBy_48 (Nat.le_of_ble_eq_true rfl) (Nat.le_of_ble_eq_true rfl) (() : Unit) (congrArg (fun z : Int => Value.int (iI z)) (by unfold ebN <;> (repeat' split) <;> omega)) hG
  · skip
    refine g_iconst S dX9_endBy_43 ?_
    refine lv_goto (tgt := 48) S.1 S.2.1 dX9_endBy_44 (by decide) ?_
    have hG : gW K A s.heap [gMdl K am th rw lg mr en pw sl ly dn iz tz nx st tk vl ef ep hO hB ol rm oz] _ _ := hG
    exact g_iret S hr hlk hQ dX9_endBy_48 (Nat.le_of_ble_eq_true rfl) (Nat.le_of_ble_eq_true rfl) (() : Unit) (congrArg (fun z : Int => Value.int (iI z)) (by unfold ebN <;> (repeat' split) <;> omega)) hG

set_option maxHeartbeats 1000000 in
set_option maxRecDepth 100000 in
theorem c_endBy1 (l : Launch) (K : KC) (am : Nat → Nat) (th : Int) (rw : Nat) (lg : Int) (mr : Int) (en : Int) (pw : Int) (sl : Int) (ly : Int) (dn : Int) (iz : Int) (tz : Int) (nx : Int) (st : Int) (tk : Int) (vl : Int) (ef : Int) (ep : Int) (hO : Int) (hB : Int) (ol : Int) (rm : Int) (oz : Int) (hlg : 0 ≤ lg ∧ lg ≤ 60) : mG l yX9_endBy wsX9_endBy 0 0 K [.ref (am 0), .int (iI 1)] [gMdl K am th rw lg mr en pw sl ly dn iz tz nx st tk vl ef ep hO hB ol rm oz] (fun (v : Value) (u : Unit) => (v = .int (iI (ebN lg 1)))) (fun (u : Unit) => [gMdl K am th rw lg mr en pw sl ly dn iz tz nx st tk vl ef ep hO hB ol rm oz]) 0 0 := by
  refine mG_of cX9_endBy 2 (by decide) rfl (Nat.le_of_ble_eq_true rfl) ?_
  intro p e s m below meth c A ls Q S C hG hl hr hlk hin hQ
  have S : CallFix p m c cX9_endBy 2 s ([.ref (am 0), .int (iI 1)] : List Value).toArray wsX9_endBy RX9 := S
  have iX90 : ∀ w ∈ wsX90, w ∈ wsX9_endBy := fun _ h => List.mem_cons_of_mem _ (List.mem_append_right _ (h))
  have hl : lv_has ls 2 [(0, .ref (am 0)), (1, .int (iI 1))] := hl
  have hG : gW K A s.heap [gMdl K am th rw lg mr en pw sl ly dn iz tz nx st tk vl ef ep hO hB ol rm oz] s.heap [] := hG
  refine lv_iload_n S.1 S.2.1 dX9_endBy_0 rfl (lv_at hl 1 rfl) ?_
  refine lv_tableOut (tgt := 34) S.1 S.2.1 dX9_endBy_1 (by rw [iI_toInt (by omega)] <;> omega) (by decide) ?_
  refine lv_aload_n S.1 S.2.1 dX9_endBy_34 rfl (lv_at hl 0 rfl) ?_
  refine g_get S C hG iX90 0 rfl rfl 11 (by decide) (List.mem_of_getElem? (i := 1) rfl) rfl dX9_endBy_35 ?_
  refine g_bipush S dX9_endBy_38 (by decide) ?_
  refine g_icmp_ne (tgt := 47) S dX9_endBy_40 (by decide) (by omega) (by omega) (fun q40 => ?_) (fun q40 => ?_)
  · skip
    refine g_iconst S dX9_endBy_47 ?_
    have hG : gW K A s.heap [gMdl K am th rw lg mr en pw sl ly dn iz tz nx st tk vl ef ep hO hB ol rm oz] _ _ := hG
    exact g_iret S hr hlk hQ dX9_endBy_48 (Nat.le_of_ble_eq_true rfl) (Nat.le_of_ble_eq_true rfl) (() : Unit) (congrArg (fun z : Int => Value.int (iI z)) (by unfold ebN <;> (repeat' split) <;> omega)) hG
  · skip
    refine g_iconst S dX9_endBy_43 ?_
    refine lv_goto (tgt := 48) S.1 S.2.1 dX9_endBy_44 (by decide) ?_
    have hG : gW K A s.heap [gMdl K am th rw lg mr en pw sl ly dn iz tz nx st tk vl ef ep hO hB ol rm oz] _ _ := hG
    exact g_iret S hr hlk hQ dX9_endBy_48 (Nat.le_of_ble_eq_true rfl) (Nat.le_of_ble_eq_true rfl) (() : Unit) (congrArg (fun z : Int => Value.int (iI z)) (by unfold ebN <;> (repeat' split) <;> omega)) hG

set_option maxHeartbeats 1000000 in
set_option maxRecDepth 100000 in
theorem c_endBy2 (l : Launch) (K : KC) (am : Nat → Nat) (th : Int) (rw : Nat) (lg : Int) (mr : Int) (en : Int) (pw : Int) (sl : Int) (ly : Int) (dn : Int) (iz : Int) (tz : Int) (nx : Int) (st : Int) (tk : Int) (vl : Int) (ef : Int) (ep : Int) (hO : Int) (hB : Int) (ol : Int) (rm : Int) (oz : Int) (hlg : 0 ≤ lg ∧ lg ≤ 60) : mG l yX9_endBy wsX9_endBy 0 0 K [.ref (am 0), .int (iI 2)] [gMdl K am th rw lg mr en pw sl ly dn iz tz nx st tk vl ef ep hO hB ol rm oz] (fun (v : Value) (u : Unit) => (v = .int (iI (ebN lg 2)))) (fun (u : Unit) => [gMdl K am th rw lg mr en pw sl ly dn iz tz nx st tk vl ef ep hO hB ol rm oz]) 0 0 := by
  refine mG_of cX9_endBy 2 (by decide) rfl (Nat.le_of_ble_eq_true rfl) ?_
  intro p e s m below meth c A ls Q S C hG hl hr hlk hin hQ
  have S : CallFix p m c cX9_endBy 2 s ([.ref (am 0), .int (iI 2)] : List Value).toArray wsX9_endBy RX9 := S
  have iX90 : ∀ w ∈ wsX90, w ∈ wsX9_endBy := fun _ h => List.mem_cons_of_mem _ (List.mem_append_right _ (h))
  have hl : lv_has ls 2 [(0, .ref (am 0)), (1, .int (iI 2))] := hl
  have hG : gW K A s.heap [gMdl K am th rw lg mr en pw sl ly dn iz tz nx st tk vl ef ep hO hB ol rm oz] s.heap [] := hG
  refine lv_iload_n S.1 S.2.1 dX9_endBy_0 rfl (lv_at hl 1 rfl) ?_
  refine lv_tableOut (tgt := 34) S.1 S.2.1 dX9_endBy_1 (by rw [iI_toInt (by omega)] <;> omega) (by decide) ?_
  refine lv_aload_n S.1 S.2.1 dX9_endBy_34 rfl (lv_at hl 0 rfl) ?_
  refine g_get S C hG iX90 0 rfl rfl 11 (by decide) (List.mem_of_getElem? (i := 1) rfl) rfl dX9_endBy_35 ?_
  refine g_bipush S dX9_endBy_38 (by decide) ?_
  refine g_icmp_ne (tgt := 47) S dX9_endBy_40 (by decide) (by omega) (by omega) (fun q40 => ?_) (fun q40 => ?_)
  · skip
    refine g_iconst S dX9_endBy_47 ?_
    have hG : gW K A s.heap [gMdl K am th rw lg mr en pw sl ly dn iz tz nx st tk vl ef ep hO hB ol rm oz] _ _ := hG
    exact g_iret S hr hlk hQ dX9_endBy_48 (Nat.le_of_ble_eq_true rfl) (Nat.le_of_ble_eq_true rfl) (() : Unit) (congrArg (fun z : Int => Value.int (iI z)) (by unfold ebN <;> (repeat' split) <;> omega)) hG
  · skip
    refine g_iconst S dX9_endBy_43 ?_
    refine lv_goto (tgt := 48) S.1 S.2.1 dX9_endBy_44 (by decide) ?_
    have hG : gW K A s.heap [gMdl K am th rw lg mr en pw sl ly dn iz tz nx st tk vl ef ep hO hB ol rm oz] _ _ := hG
    exact g_iret S hr hlk hQ dX9_endBy_48 (Nat.le_of_ble_eq_true rfl) (Nat.le_of_ble_eq_true rfl) (() : Unit) (congrArg (fun z : Int => Value.int (iI z)) (by unfold ebN <;> (repeat' split) <;> omega)) hG

set_option maxHeartbeats 1000000 in
set_option maxRecDepth 100000 in
theorem c_endBy3 (l : Launch) (K : KC) (am : Nat → Nat) (th : Int) (rw : Nat) (lg : Int) (mr : Int) (en : Int) (pw : Int) (sl : Int) (ly : Int) (dn : Int) (iz : Int) (tz : Int) (nx : Int) (st : Int) (tk : Int) (vl : Int) (ef : Int) (ep : Int) (hO : Int) (hB : Int) (ol : Int) (rm : Int) (oz : Int) (hlg : 0 ≤ lg ∧ lg ≤ 60) : mG l yX9_endBy wsX9_endBy 0 0 K [.ref (am 0), .int (iI 3)] [gMdl K am th rw lg mr en pw sl ly dn iz tz nx st tk vl ef ep hO hB ol rm oz] (fun (v : Value) (u : Unit) => (v = .int (iI (ebN lg 3)))) (fun (u : Unit) => [gMdl K am th rw lg mr en pw sl ly dn iz tz nx st tk vl ef ep hO hB ol rm oz]) 0 0 := by
  refine mG_of cX9_endBy 2 (by decide) rfl (Nat.le_of_ble_eq_true rfl) ?_
  intro p e s m below meth c A ls Q S C hG hl hr hlk hin hQ
  have S : CallFix p m c cX9_endBy 2 s ([.ref (am 0), .int (iI 3)] : List Value).toArray wsX9_endBy RX9 := S
  have iX90 : ∀ w ∈ wsX90, w ∈ wsX9_endBy := fun _ h => List.mem_cons_of_mem _ (List.mem_append_right _ (h))
  have hl : lv_has ls 2 [(0, .ref (am 0)), (1, .int (iI 3))] := hl
  have hG : gW K A s.heap [gMdl K am th rw lg mr en pw sl ly dn iz tz nx st tk vl ef ep hO hB ol rm oz] s.heap [] := hG
  refine lv_iload_n S.1 S.2.1 dX9_endBy_0 rfl (lv_at hl 1 rfl) ?_
  refine lv_tableIn (off := 27) (tgt := 28) S.1 S.2.1 dX9_endBy_1 (by decide) (by decide) rfl (by decide) ?_
  refine g_iconst S dX9_endBy_28 ?_
  have hG : gW K A s.heap [gMdl K am th rw lg mr en pw sl ly dn iz tz nx st tk vl ef ep hO hB ol rm oz] _ _ := hG
  exact g_iret S hr hlk hQ dX9_endBy_29 (Nat.le_of_ble_eq_true rfl) (Nat.le_of_ble_eq_true rfl) (() : Unit) (congrArg (fun z : Int => Value.int (iI z)) (by unfold ebN <;> (repeat' split) <;> omega)) hG

set_option maxHeartbeats 1000000 in
set_option maxRecDepth 100000 in
theorem c_endBy4 (l : Launch) (K : KC) (am : Nat → Nat) (th : Int) (rw : Nat) (lg : Int) (mr : Int) (en : Int) (pw : Int) (sl : Int) (ly : Int) (dn : Int) (iz : Int) (tz : Int) (nx : Int) (st : Int) (tk : Int) (vl : Int) (ef : Int) (ep : Int) (hO : Int) (hB : Int) (ol : Int) (rm : Int) (oz : Int) (hlg : 0 ≤ lg ∧ lg ≤ 60) : mG l yX9_endBy wsX9_endBy 0 0 K [.ref (am 0), .int (iI 4)] [gMdl K am th rw lg mr en pw sl ly dn iz tz nx st tk vl ef ep hO hB ol rm oz] (fun (v : Value) (u : Unit) => (v = .int (iI (ebN lg 4)))) (fun (u : Unit) => [gMdl K am th rw lg mr en pw sl ly dn iz tz nx st tk vl ef ep hO hB ol rm oz]) 0 0 := by
  refine mG_of cX9_endBy 2 (by decide) rfl (Nat.le_of_ble_eq_true rfl) ?_
  intro p e s m below meth c A ls Q S C hG hl hr hlk hin hQ
  have S : CallFix p m c cX9_endBy 2 s ([.ref (am 0), .int (iI 4)] : List Value).toArray wsX9_endBy RX9 := S
  have iX90 : ∀ w ∈ wsX90, w ∈ wsX9_endBy := fun _ h => List.mem_cons_of_mem _ (List.mem_append_right _ (h))
  have hl : lv_has ls 2 [(0, .ref (am 0)), (1, .int (iI 4))] := hl
  have hG : gW K A s.heap [gMdl K am th rw lg mr en pw sl ly dn iz tz nx st tk vl ef ep hO hB ol rm oz] s.heap [] := hG
  refine lv_iload_n S.1 S.2.1 dX9_endBy_0 rfl (lv_at hl 1 rfl) ?_
  refine lv_tableIn (off := 29) (tgt := 30) S.1 S.2.1 dX9_endBy_1 (by decide) (by decide) rfl (by decide) ?_
  refine g_iconst S dX9_endBy_30 ?_
  have hG : gW K A s.heap [gMdl K am th rw lg mr en pw sl ly dn iz tz nx st tk vl ef ep hO hB ol rm oz] _ _ := hG
  exact g_iret S hr hlk hQ dX9_endBy_31 (Nat.le_of_ble_eq_true rfl) (Nat.le_of_ble_eq_true rfl) (() : Unit) (congrArg (fun z : Int => Value.int (iI z)) (by unfold ebN <;> (repeat' split) <;> omega)) hG

set_option maxHeartbeats 1000000 in
set_option maxRecDepth 100000 in
theorem c_endBy5 (l : Launch) (K : KC) (am : Nat → Nat) (th : Int) (rw : Nat) (lg : Int) (mr : Int) (en : Int) (pw : Int) (sl : Int) (ly : Int) (dn : Int) (iz : Int) (tz : Int) (nx : Int) (st : Int) (tk : Int) (vl : Int) (ef : Int) (ep : Int) (hO : Int) (hB : Int) (ol : Int) (rm : Int) (oz : Int) (hlg : 0 ≤ lg ∧ lg ≤ 60) : mG l yX9_endBy wsX9_endBy 0 0 K [.ref (am 0), .int (iI 5)] [gMdl K am th rw lg mr en pw sl ly dn iz tz nx st tk vl ef ep hO hB ol rm oz] (fun (v : Value) (u : Unit) => (v = .int (iI (ebN lg 5)))) (fun (u : Unit) => [gMdl K am th rw lg mr en pw sl ly dn iz tz nx st tk vl ef ep hO hB ol rm oz]) 0 0 := by
  refine mG_of cX9_endBy 2 (by decide) rfl (Nat.le_of_ble_eq_true rfl) ?_
  intro p e s m below meth c A ls Q S C hG hl hr hlk hin hQ
  have S : CallFix p m c cX9_endBy 2 s ([.ref (am 0), .int (iI 5)] : List Value).toArray wsX9_endBy RX9 := S
  have iX90 : ∀ w ∈ wsX90, w ∈ wsX9_endBy := fun _ h => List.mem_cons_of_mem _ (List.mem_append_right _ (h))
  have hl : lv_has ls 2 [(0, .ref (am 0)), (1, .int (iI 5))] := hl
  have hG : gW K A s.heap [gMdl K am th rw lg mr en pw sl ly dn iz tz nx st tk vl ef ep hO hB ol rm oz] s.heap [] := hG
  refine lv_iload_n S.1 S.2.1 dX9_endBy_0 rfl (lv_at hl 1 rfl) ?_
  refine lv_tableIn (off := 31) (tgt := 32) S.1 S.2.1 dX9_endBy_1 (by decide) (by decide) rfl (by decide) ?_
  refine g_iconst S dX9_endBy_32 ?_
  have hG : gW K A s.heap [gMdl K am th rw lg mr en pw sl ly dn iz tz nx st tk vl ef ep hO hB ol rm oz] _ _ := hG
  exact g_iret S hr hlk hQ dX9_endBy_33 (Nat.le_of_ble_eq_true rfl) (Nat.le_of_ble_eq_true rfl) (() : Unit) (congrArg (fun z : Int => Value.int (iI z)) (by unfold ebN <;> (repeat' split) <;> omega)) hG

theorem c_X9_endBy (l : Launch) (K : KC) (am : Nat → Nat) (th : Int) (rw : Nat) (lg : Int) (mr : Int) (en : Int) (pw : Int) (sl : Int) (ly : Int) (dn : Int) (iz : Int) (tz : Int) (nx : Int) (st : Int) (tk : Int) (vl : Int) (ef : Int) (ep : Int) (hO : Int) (hB : Int) (ol : Int) (rm : Int) (oz : Int) (w : Int) (hlg : 0 ≤ lg ∧ lg ≤ 60) (h0 : 0 ≤ w ∧ w ≤ 5) : mG l yX9_endBy wsX9_endBy 0 0 K [.ref (am 0), .int (iI w)] [gMdl K am th rw lg mr en pw sl ly dn iz tz nx st tk vl ef ep hO hB ol rm oz] (fun (v : Value) (u : Unit) => (v = .int (iI (ebN lg w)))) (fun (u : Unit) => [gMdl K am th rw lg mr en pw sl ly dn iz tz nx st tk vl ef ep hO hB ol rm oz]) 0 0 := by
  rcases (show w = 0 ∨ w = 1 ∨ w = 2 ∨ w = 3 ∨ w = 4 ∨ w = 5 by omega) with rfl | rfl | rfl | rfl | rfl | rfl
  · exact c_endBy0 l K am th rw lg mr en pw sl ly dn iz tz nx st tk vl ef ep hO hB ol rm oz hlg
  · exact c_endBy1 l K am th rw lg mr en pw sl ly dn iz tz nx st tk vl ef ep hO hB ol rm oz hlg
  · exact c_endBy2 l K am th rw lg mr en pw sl ly dn iz tz nx st tk vl ef ep hO hB ol rm oz hlg
  · exact c_endBy3 l K am th rw lg mr en pw sl ly dn iz tz nx st tk vl ef ep hO hB ol rm oz hlg
  · exact c_endBy4 l K am th rw lg mr en pw sl ly dn iz tz nx st tk vl ef ep hO hB ol rm oz hlg
  · exact c_endBy5 l K am th rw lg mr en pw sl ly dn iz tz nx st tk vl ef ep hO hB ol rm oz hlg

set_option maxHeartbeats 1000000 in
set_option maxRecDepth 100000 in
theorem c_X9_mirror (l : Launch) (K : KC) (am : Nat → Nat) (th : Int) (rw : Nat) (lg : Int) (mr : Int) (en : Int) (pw : Int) (sl : Int) (ly : Int) (dn : Int) (iz : Int) (tz : Int) (nx : Int) (st : Int) (tk : Int) (vl : Int) (ef : Int) (ep : Int) (hO : Int) (hB : Int) (ol : Int) (rm : Int) (oz : Int) (NF : Int → Int) (A6 : Int → Int) (hpw : 0 ≤ pw ∧ pw ≤ 1000000) (h3 : 0 ≤ NF 3 ∧ NF 3 ≤ 100) (hlg : 1 ≤ lg ∧ lg ≤ 60) (hmr : -2147483648 ≤ mr ∧ mr < 2147483648) : mV l yX9_mirror wsX9_mirror 0 0 K [.ref (am 0)] [gMdl K am th rw lg mr en pw sl ly dn iz tz nx st tk vl ef ep hO hB ol rm oz, gArr K 95 rw NF, gArr K 60 (am 9) A6] (fun (u : Int × (Int → Int)) => ((pw * NF 3 / 100 = 0 ∧ u.1 = 2 ∧ u.2 = upI A6 (lg - 1) 5) ∨ (¬ pw * NF 3 / 100 = 0 ∧ u.1 = en ∧ u.2 = A6))) (fun (u : Int × (Int → Int)) => [gMdl K am th rw lg (mr + 1) u.1 (pw * NF 3 / 100) sl ly 0 iz tz nx st tk vl ef ep hO hB ol rm oz, gArr K 95 rw NF, gArr K 60 (am 9) u.2]) 0 0 := by
  refine mV_of cX9_mirror 1 (by decide) rfl (Nat.le_of_ble_eq_true rfl) ?_
  intro p e s m below meth c A ls Q S C hG hl hr hlk hin hQ
  have S : CallFix p m c cX9_mirror 1 s ([.ref (am 0)] : List Value).toArray wsX9_mirror RX9 := S
  have iX90 : ∀ w ∈ wsX90, w ∈ wsX9_mirror := fun _ h => List.mem_cons_of_mem _ (List.mem_append_right _ (h))
  have hl : lv_has ls 1 [(0, .ref (am 0))] := hl
  have hG : gW K A s.heap [gMdl K am th rw lg mr en pw sl ly dn iz tz nx st tk vl ef ep hO hB ol rm oz, gArr K 95 rw NF, gArr K 60 (am 9) A6] s.heap [] := hG
  have mb := mi_bd hpw.1 hpw.2 h3.1 h3.2
  refine lv_aload_n S.1 S.2.1 dX9_mirror_0 rfl (lv_at hl 0 rfl) ?_
  refine lv_dup S.1 S.2.1 dX9_mirror_1 rfl ?_
  refine g_get S C hG iX90 0 rfl rfl 12 (by decide) (List.mem_of_getElem? (i := 1) rfl) rfl dX9_mirror_2 ?_
  refine g_iconst S dX9_mirror_5 ?_
  refine g_iadd S dX9_mirror_6 rfl ?_
  refine g_put (gs' := [gMdl K am th rw lg (mr + 1) en pw sl ly dn iz tz nx st tk vl ef ep hO hB ol rm oz, gArr K 95 rw NF, gArr K 60 (am 9) A6]) S C hG iX90 tyX9 tyX9_ok nmX9 0 rfl rfl 12 (by decide) (List.mem_of_getElem? (i := 1) rfl) rfl rfl rfl (Nat.le_of_ble_eq_true rfl) rfl dX9_mirror_7 (fun H locs hG => ?_)
  refine lv_aload_n S.1 S.2.1 dX9_mirror_10 rfl (lv_at hl 0 rfl) ?_
  refine lv_aload_n S.1 S.2.1 dX9_mirror_11 rfl (lv_at hl 0 rfl) ?_
  refine g_get S C hG iX90 0 rfl rfl 14 (by decide) (List.mem_of_getElem? (i := 2) rfl) rfl dX9_mirror_12 ?_
  refine lv_aload_n S.1 S.2.1 dX9_mirror_15 rfl (lv_at hl 0 rfl) ?_
  refine g_get S C hG iX90 0 rfl rfl 3 (by decide) (List.mem_of_getElem? (i := 3) rfl) rfl dX9_mirror_16 ?_
  refine g_iconst S dX9_mirror_19 ?_
  refine g_iald S C hG 1 rfl (by omega) (by omega) (by omega) dX9_mirror_20 ?_
  refine g_i2l S dX9_mirror_21 (by omega) ?_
  refine g_lmul S dX9_mirror_22 rfl ?_
  refine g_ldc2 (z := 100) S dX9_mirror_23 (List.mem_of_getElem? (i := 4) rfl) rfl ?_
  refine g_ldiv S dX9_mirror_26 (by omega) (by omega) rfl ?_
  refine g_put (gs' := [gMdl K am th rw lg (mr + 1) en ((pw * (NF 3)) / 100) sl ly dn iz tz nx st tk vl ef ep hO hB ol rm oz, gArr K 95 rw NF, gArr K 60 (am 9) A6]) S C hG iX90 tyX9 tyX9_ok nmX9 0 rfl rfl 14 (by decide) (List.mem_of_getElem? (i := 2) rfl) rfl rfl rfl (Nat.le_of_ble_eq_true rfl) rfl dX9_mirror_27 (fun H locs hG => ?_)
  refine lv_aload_n S.1 S.2.1 dX9_mirror_30 rfl (lv_at hl 0 rfl) ?_
  refine g_iconst S dX9_mirror_31 ?_
  refine g_put (gs' := [gMdl K am th rw lg (mr + 1) en ((pw * (NF 3)) / 100) sl ly 0 iz tz nx st tk vl ef ep hO hB ol rm oz, gArr K 95 rw NF, gArr K 60 (am 9) A6]) S C hG iX90 tyX9 tyX9_ok nmX9 0 rfl rfl 17 (by decide) (List.mem_of_getElem? (i := 5) rfl) rfl (nz_b (Or.inl rfl)) (fz_b (Or.inl rfl)) (Nat.le_of_ble_eq_true rfl) rfl dX9_mirror_32 (fun H locs hG => ?_)
  refine lv_aload_n S.1 S.2.1 dX9_mirror_35 rfl (lv_at hl 0 rfl) ?_
  refine g_get S C hG iX90 0 rfl rfl 14 (by decide) (List.mem_of_getElem? (i := 2) rfl) rfl dX9_mirror_36 ?_
  refine g_lconst (z := 0) S dX9_mirror_39 rfl ?_
  refine g_lcmp S dX9_mirror_40 (by omega) (by omega) ?_
  refine g_if_ne (tgt := 61) S dX9_mirror_41 (by decide) (by omega) (fun q41 => ?_) (fun q41 => ?_)
  · skip
    have hG : gW K A s.heap [gMdl K am th rw lg (mr + 1) en (pw * NF 3 / 100) sl ly 0 iz tz nx st tk vl ef ep hO hB ol rm oz, gArr K 95 rw NF, gArr K 60 (am 9) A6] _ _ := hG
    exact g_vret S hr hlk hQ dX9_mirror_61 (Nat.le_of_ble_eq_true rfl) (Nat.le_of_ble_eq_true rfl) ((en, A6) : Int × (Int → Int)) (Or.inr ⟨by omega, rfl, rfl⟩) hG
  · skip
    refine lv_aload_n S.1 S.2.1 dX9_mirror_44 rfl (lv_at hl 0 rfl) ?_
    refine g_get S C hG iX90 0 rfl rfl 10 (by decide) (List.mem_of_getElem? (i := 6) rfl) rfl dX9_mirror_45 ?_
    refine lv_aload_n S.1 S.2.1 dX9_mirror_48 rfl (lv_at hl 0 rfl) ?_
    refine g_get S C hG iX90 0 rfl rfl 11 (by decide) (List.mem_of_getElem? (i := 7) rfl) rfl dX9_mirror_49 ?_
    refine g_iconst S dX9_mirror_52 ?_
    refine g_isub S dX9_mirror_53 rfl ?_
    refine g_iconst S dX9_mirror_54 ?_
    refine g_iast (gs' := [gMdl K am th rw lg (mr + 1) en ((pw * (NF 3)) / 100) sl ly 0 iz tz nx st tk vl ef ep hO hB ol rm oz, gArr K 95 rw NF, gArr K 60 (am 9) (upI A6 (lg - 1) 5)]) S C hG 2 rfl (by omega) (by omega) (by omega) rfl dX9_mirror_55 (fun H locs hG => ?_)
    refine lv_aload_n S.1 S.2.1 dX9_mirror_56 rfl (lv_at hl 0 rfl) ?_
    refine g_iconst S dX9_mirror_57 ?_
    refine g_put (gs' := [gMdl K am th rw lg (mr + 1) 2 ((pw * (NF 3)) / 100) sl ly 0 iz tz nx st tk vl ef ep hO hB ol rm oz, gArr K 95 rw NF, gArr K 60 (am 9) (upI A6 (lg - 1) 5)]) S C hG iX90 tyX9 tyX9_ok nmX9 0 rfl rfl 13 (by decide) (List.mem_of_getElem? (i := 8) rfl) rfl rfl rfl (Nat.le_of_ble_eq_true rfl) rfl dX9_mirror_58 (fun H locs hG => ?_)
    have hG : gW K A s.heap [gMdl K am th rw lg (mr + 1) 2 (pw * NF 3 / 100) sl ly 0 iz tz nx st tk vl ef ep hO hB ol rm oz, gArr K 95 rw NF, gArr K 60 (am 9) (upI A6 (lg - 1) 5)] _ _ := hG
    exact g_vret S hr hlk hQ dX9_mirror_61 (Nat.le_of_ble_eq_true rfl) (Nat.le_of_ble_eq_true rfl) ((2, upI A6 (lg - 1) 5) : Int × (Int → Int)) (Or.inl ⟨by omega, rfl, rfl⟩) hG

set_option maxHeartbeats 1000000 in
set_option maxRecDepth 100000 in
theorem c_X9_goOnBy (l : Launch) (K : KC) (am : Nat → Nat) (th : Int) (rw : Nat) (lg : Int) (mr : Int) (en : Int) (pw : Int) (sl : Int) (ly : Int) (dn : Int) (iz : Int) (tz : Int) (nx : Int) (st : Int) (tk : Int) (vl : Int) (ef : Int) (ep : Int) (hO : Int) (hB : Int) (ol : Int) (rm : Int) (oz : Int) (NF : Int → Int) (A6 : Int → Int) (w : Int) (hN : NOk0 NF) (hy : 0 ≤ ly ∧ ly < NF 0) (hdn : dn = 0 ∨ dn = 1) (hpw : 0 ≤ pw ∧ pw ≤ 1000000) (hw : w = 0 ∨ w = 1 ∨ w = 2) (hz : w = 0 → 0 ≤ ahd ly dn ∧ ahd ly dn < NF 0) (h3 : w = 2 → NF 2 = 1) (hlg : 1 ≤ lg ∧ lg ≤ 60) (hmr : -2147483648 ≤ mr ∧ mr < 2147483648) : mV l yX9_goOnBy wsX9_goOnBy 2 46 K [.ref (am 0), .int (iI w)] [gMdl K am th rw lg mr en pw sl ly dn iz tz nx st tk vl ef ep hO hB ol rm oz, gArr K 95 rw NF, gArr K 60 (am 9) A6] (fun (u : Int × Int × Int × Int × Int × (Int → Int)) => (GoM NF w lg mr en pw ly dn A6 u.1 u.2.1 u.2.2.1 u.2.2.2.1 u.2.2.2.2.1 u.2.2.2.2.2)) (fun (u : Int × Int × Int × Int × Int × (Int → Int)) => [gMdl K am th rw lg u.1 u.2.1 u.2.2.1 sl u.2.2.2.1 u.2.2.2.2.1 iz tz nx st tk vl ef ep hO hB ol rm oz, gArr K 95 rw NF, gArr K 60 (am 9) u.2.2.2.2.2]) 0 0 := by
  refine mV_of cX9_goOnBy 2 (by decide) rfl (Nat.le_of_ble_eq_true rfl) ?_
  intro p e s m below meth c A ls Q S C hG hl hr hlk hin hQ
  have S : CallFix p m c cX9_goOnBy 2 s ([.ref (am 0), .int (iI w)] : List Value).toArray wsX9_goOnBy RX9 := S
  have iX90 : ∀ w ∈ wsX90, w ∈ wsX9_goOnBy := fun _ h => List.mem_cons_of_mem _ (List.mem_append_right _ (h))
  have hl : lv_has ls 2 [(0, .ref (am 0)), (1, .int (iI w))] := hl
  have hG : gW K A s.heap [gMdl K am th rw lg mr en pw sl ly dn iz tz nx st tk vl ef ep hO hB ol rm oz, gArr K 95 rw NF, gArr K 60 (am 9) A6] s.heap [] := hG
  have n2 := hN.2.2.1
  refine lv_iload_n S.1 S.2.1 dX9_goOnBy_0 rfl (lv_at hl 1 rfl) ?_
  refine g_if_ne (tgt := 11) S dX9_goOnBy_1 (by decide) (by omega) (fun q1 => ?_) (fun q1 => ?_)
  · skip
    refine lv_iload_n S.1 S.2.1 dX9_goOnBy_11 rfl (lv_at hl 1 rfl) ?_
    refine g_iconst S dX9_goOnBy_12 ?_
    refine g_icmp_ne (tgt := 23) S dX9_goOnBy_13 (by decide) (by omega) (by omega) (fun q13 => ?_) (fun q13 => ?_)
    · skip
      refine lv_aload_n S.1 S.2.1 dX9_goOnBy_23 rfl (lv_at hl 0 rfl) ?_
      refine lv_aload_n S.1 S.2.1 dX9_goOnBy_24 rfl (lv_at hl 0 rfl) ?_
      refine g_get S C hG iX90 0 rfl rfl 17 (by decide) (List.mem_of_getElem? (i := 1) rfl) rfl dX9_goOnBy_25 ?_
      refine g_if_ne (tgt := 35) S dX9_goOnBy_28 (by decide) (by omega) (fun q28 => ?_) (fun q28 => ?_)
      · skip
        refine g_iconst S dX9_goOnBy_35 ?_
        refine g_put (gs' := [gMdl K am th rw lg mr en pw sl ly 0 iz tz nx st tk vl ef ep hO hB ol rm oz, gArr K 95 rw NF, gArr K 60 (am 9) A6]) S C hG iX90 tyX9 tyX9_ok nmX9 0 rfl rfl 17 (by decide) (List.mem_of_getElem? (i := 1) rfl) rfl (nz_b (Or.inl rfl)) (fz_b (Or.inl rfl)) (Nat.le_of_ble_eq_true rfl) rfl dX9_goOnBy_36 (fun H locs hG => ?_)
        have hG : gW K A s.heap [gMdl K am th rw lg mr en pw sl ly 0 iz tz nx st tk vl ef ep hO hB ol rm oz, gArr K 95 rw NF, gArr K 60 (am 9) A6] _ _ := hG
        exact g_vret S hr hlk hQ dX9_goOnBy_39 (Nat.le_of_ble_eq_true rfl) (Nat.le_of_ble_eq_true rfl) ((mr, en, pw, ly, 0, A6) : Int × Int × Int × Int × Int × (Int → Int)) (Or.inr (Or.inl ⟨by omega, rfl, rfl, (by show (0 : Int) = 1 - dn <;> omega), rfl, rfl, rfl⟩)) hG
      · skip
        refine g_iconst S dX9_goOnBy_31 ?_
        refine lv_goto (tgt := 36) S.1 S.2.1 dX9_goOnBy_32 (by decide) ?_
        refine g_put (gs' := [gMdl K am th rw lg mr en pw sl ly 1 iz tz nx st tk vl ef ep hO hB ol rm oz, gArr K 95 rw NF, gArr K 60 (am 9) A6]) S C hG iX90 tyX9 tyX9_ok nmX9 0 rfl rfl 17 (by decide) (List.mem_of_getElem? (i := 1) rfl) rfl (nz_b (Or.inr rfl)) (fz_b (Or.inr rfl)) (Nat.le_of_ble_eq_true rfl) rfl dX9_goOnBy_36 (fun H locs hG => ?_)
        have hG : gW K A s.heap [gMdl K am th rw lg mr en pw sl ly 1 iz tz nx st tk vl ef ep hO hB ol rm oz, gArr K 95 rw NF, gArr K 60 (am 9) A6] _ _ := hG
        exact g_vret S hr hlk hQ dX9_goOnBy_39 (Nat.le_of_ble_eq_true rfl) (Nat.le_of_ble_eq_true rfl) ((mr, en, pw, ly, 1, A6) : Int × Int × Int × Int × Int × (Int → Int)) (Or.inr (Or.inl ⟨by omega, rfl, rfl, (by show (1 : Int) = 1 - dn <;> omega), rfl, rfl, rfl⟩)) hG
    · skip
      have q13x : w = 2 := by omega
      refine lv_aload_n S.1 S.2.1 dX9_goOnBy_16 rfl (lv_at hl 0 rfl) ?_
      refine g_invVv (As := []) (rest := []) (gs' := (fun u : Int × (Int → Int) => [gMdl K am th rw lg (mr + 1) u.1 (pw * NF 3 / 100) sl ly 0 iz tz nx st tk vl ef ep hO hB ol rm oz, gArr K 95 rw NF, gArr K 60 (am 9) u.2])) S C hG [0, 1, 2] (c_X9_mirror l K am th rw lg mr en pw sl ly dn iz tz nx st tk vl ef ep hO hB ol rm oz NF A6 hpw (by have z := h3 q13x <;> omega) hlg hmr) rfl rfl 0 rfl rfl (cwV 0 S.2.2.2.2 gX9_goOnBy_X9_mirror rfl rfl rfl (by decide +kernel) ⟨Nat.le_of_ble_eq_true rfl, Nat.le_of_ble_eq_true rfl⟩) rfl hl.1 rfl (Nat.le_of_ble_eq_true rfl) dX9_goOnBy_17 ⟨Nat.le_of_ble_eq_true rfl, Nat.le_of_ble_eq_true rfl⟩ (fun _ => Nat.le_of_ble_eq_true rfl) (fun _ => rfl) (fun u H locs hp hG => ?_)
      obtain ⟨en2_17, B6_17⟩ := u
      have hm_17 := hp
      have hm_17 : (pw * NF 3 / 100 = 0 ∧ en2_17 = 2 ∧ B6_17 = upI A6 (lg - 1) 5) ∨ (¬ pw * NF 3 / 100 = 0 ∧ en2_17 = en ∧ B6_17 = A6) := hm_17
      have hG : gW K A s.heap [gMdl K am th rw lg (mr + 1) en2_17 (pw * NF 3 / 100) sl ly 0 iz tz nx st tk vl ef ep hO hB ol rm oz, gArr K 95 rw NF, gArr K 60 (am 9) B6_17] _ _ := hG
      refine lv_goto (tgt := 39) S.1 S.2.1 dX9_goOnBy_20 (by decide) ?_
      have hG : gW K A s.heap [gMdl K am th rw lg (mr + 1) en2_17 (pw * NF 3 / 100) sl ly 0 iz tz nx st tk vl ef ep hO hB ol rm oz, gArr K 95 rw NF, gArr K 60 (am 9) B6_17] _ _ := hG
      exact g_vret S hr hlk hQ dX9_goOnBy_39 (Nat.le_of_ble_eq_true rfl) (Nat.le_of_ble_eq_true rfl) ((mr + 1, en2_17, pw * NF 3 / 100, ly, 0, B6_17) : Int × Int × Int × Int × Int × (Int → Int)) (Or.inr (Or.inr ⟨q13x, rfl, rfl, rfl, rfl, hm_17⟩)) hG
  · skip
    have q1x : w = 0 := by omega
    refine lv_aload_n S.1 S.2.1 dX9_goOnBy_4 rfl (lv_at hl 0 rfl) ?_
    refine g_invVv (As := []) (rest := []) (gs' := (fun u : Unit => [gMdl K am th rw lg mr en (ppN NF ly (ahd ly dn) pw) sl (ahd ly dn) dn iz tz nx st tk vl ef ep hO hB ol rm oz, gArr K 95 rw NF, gArr K 60 (am 9) A6])) S C hG [0, 1] (c_X9_passOn l K am th rw lg mr en pw sl ly dn iz tz nx st tk vl ef ep hO hB ol rm oz NF hN hy hdn hpw (hz q1x)) rfl rfl 0 rfl rfl (cwV 0 S.2.2.2.2 gX9_goOnBy_X9_passOn rfl rfl rfl (by decide +kernel) ⟨Nat.le_of_ble_eq_true rfl, Nat.le_of_ble_eq_true rfl⟩) rfl hl.1 rfl (Nat.le_of_ble_eq_true rfl) dX9_goOnBy_5 ⟨Nat.le_of_ble_eq_true rfl, Nat.le_of_ble_eq_true rfl⟩ (fun _ => Nat.le_of_ble_eq_true rfl) (fun _ => rfl) (fun u H locs hp hG => ?_)
    refine lv_goto (tgt := 39) S.1 S.2.1 dX9_goOnBy_8 (by decide) ?_
    have hG : gW K A s.heap [gMdl K am th rw lg mr en (ppN NF ly (ahd ly dn) pw) sl (ahd ly dn) dn iz tz nx st tk vl ef ep hO hB ol rm oz, gArr K 95 rw NF, gArr K 60 (am 9) A6] _ _ := hG
    exact g_vret S hr hlk hQ dX9_goOnBy_39 (Nat.le_of_ble_eq_true rfl) (Nat.le_of_ble_eq_true rfl) ((mr, en, ppN NF ly (ahd ly dn) pw, ahd ly dn, dn, A6) : Int × Int × Int × Int × Int × (Int → Int)) (Or.inl ⟨q1x, rfl, rfl, rfl, rfl, rfl, rfl⟩) hG
