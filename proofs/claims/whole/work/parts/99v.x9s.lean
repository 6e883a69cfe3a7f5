set_option maxHeartbeats 1000000 in
set_option maxRecDepth 100000 in
theorem c_X9_parseBottom (l : Launch) (K : KC) (am : Nat → Nat) (th : Int) (rw : Nat) (lg : Int) (mr : Int) (en : Int) (pw : Int) (sl : Int) (ly : Int) (dn : Int) (iz : Int) (tz : Int) (nx : Int) (st : Int) (tk : Int) (vl : Int) (ef : Int) (ep : Int) (hO : Int) (hB : Int) (ol : Int) (rm : Int) (oz : Int) (NF : Int → Int) (IF : Int → Int) (tp : Int) (htz : 0 ≤ tz ∧ tz ≤ 400) (hM : MSt IF tz (.inr tp) nx st tk vl ef ep) (hN : NOk0 NF) (hO9 : hO = 0 ∨ hO = 1) (hB9 : hB = 0 ∨ hB = 1) : mV l yX9_parseBottom wsX9_parseBottom 5 108 K [.ref (am 0)] [gMdl K am th rw lg mr en pw sl ly dn iz tz nx st tk vl ef ep hO hB ol rm oz, gArr K 95 rw NF, gArrB K 400 (am 10) IF] (fun (u : Int × Int × Int × Int × Int × Int × (Int → Int)) => (MSt IF tz (pb (botE IF tz tp NF hO hB) fun t => .inr t.1) u.1 u.2.1 u.2.2.1 u.2.2.2.1 u.2.2.2.2.1 u.2.2.2.2.2.1) ∧ (StmM (botE IF tz tp NF hO hB) u.2.2.2.2.2.2 hO 1)) (fun (u : Int × Int × Int × Int × Int × Int × (Int → Int)) => [gMdl K am th rw lg mr en pw sl ly dn iz tz u.1 u.2.1 u.2.2.1 u.2.2.2.1 u.2.2.2.2.1 u.2.2.2.2.2.1 hO 1 ol rm oz, gArr K 95 rw u.2.2.2.2.2.2, gArrB K 400 (am 10) IF]) 0 0 := by
  refine mV_of cX9_parseBottom 2 (by decide) rfl (Nat.le_of_ble_eq_true rfl) ?_
  intro p e s m below meth c A ls Q S C hG hl hr hlk hin hQ
  have S : CallFix p m c cX9_parseBottom 2 s ([.ref (am 0)] : List Value).toArray wsX9_parseBottom RX9 := S
  have iX90 : ∀ w ∈ wsX90, w ∈ wsX9_parseBottom := fun _ h => List.mem_cons_of_mem _ (List.mem_append_right _ (h))
  have hl : lv_has ls 2 [(0, .ref (am 0))] := hl
  have hG : gW K A s.heap [gMdl K am th rw lg mr en pw sl ly dn iz tz nx st tk vl ef ep hO hB ol rm oz, gArr K 95 rw NF, gArrB K 400 (am 10) IF] s.heap [] := hG
  refine lv_aload_n S.1 S.2.1 dX9_parseBottom_0 rfl (lv_at hl 0 rfl) ?_
  refine lv_aload_n S.1 S.2.1 dX9_parseBottom_1 rfl (lv_at hl 0 rfl) ?_
  refine g_get S C hG iX90 0 rfl rfl 28 (by decide) (List.mem_of_getElem? (i := 1) rfl) rfl dX9_parseBottom_2 ?_
  refine g_iconst S dX9_parseBottom_5 ?_
  refine g_invVv (As := [.int (iI hB), .int (iI 3)]) (rest := []) (gs' := (fun u : Int × Int => [gMdl K am th rw lg mr en pw sl ly dn iz tz nx st tk vl u.1 u.2 hO hB ol rm oz, gArr K 95 rw NF, gArrB K 400 (am 10) IF])) S C hG [0] (c_X9_errsIf l K am th rw lg mr en pw sl ly dn iz tz nx st tk vl ef ep hO hB ol rm oz IF (.inr tp) hB 3 hM (by decide) hB9) rfl rfl 0 rfl rfl (cwV 2 S.2.2.2.2 gX9_parseBottom_X9_errsIf rfl rfl rfl (by decide +kernel) ⟨Nat.le_of_ble_eq_true rfl, Nat.le_of_ble_eq_true rfl⟩) rfl hl.1 rfl (Nat.le_of_ble_eq_true rfl) dX9_parseBottom_6 ⟨Nat.le_of_ble_eq_true rfl, Nat.le_of_ble_eq_true rfl⟩ (fun _ => Nat.le_of_ble_eq_true rfl) (fun _ => rfl) (fun u H locs hp hG => ?_)
  obtain ⟨ef2_6, ep2_6⟩ := u
  have hM2_6 := hp
  have hM2_6 : MSt IF tz (pb (.inr tp) fun i => if hB = 1 then fl IF tz i 3 else .inr i) nx st tk vl ef2_6 ep2_6 := hM2_6
  have hG : gW K A s.heap [gMdl K am th rw lg mr en pw sl ly dn iz tz nx st tk vl ef2_6 ep2_6 hO hB ol rm oz, gArr K 95 rw NF, gArrB K 400 (am 10) IF] _ _ := hG
  refine lv_aload_n S.1 S.2.1 dX9_parseBottom_9 rfl (lv_at hl 0 rfl) ?_
  refine g_iconst S dX9_parseBottom_10 ?_
  refine g_put (gs' := [gMdl K am th rw lg mr en pw sl ly dn iz tz nx st tk vl ef2_6 ep2_6 hO 1 ol rm oz, gArr K 95 rw NF, gArrB K 400 (am 10) IF]) S C hG iX90 tyX9 tyX9_ok nmX9 0 rfl rfl 28 (by decide) (List.mem_of_getElem? (i := 1) rfl) rfl (nz_b (Or.inr rfl)) (fz_b (Or.inr rfl)) (Nat.le_of_ble_eq_true rfl) rfl dX9_parseBottom_11 (fun H locs hG => ?_)
  refine lv_aload_n S.1 S.2.1 dX9_parseBottom_14 rfl (lv_at hl 0 rfl) ?_
  refine g_invVv (As := []) (rest := []) (gs' := (fun u : Int × Int × Int × Int => [gMdl K am th rw lg mr en pw sl ly dn iz tz u.1 u.2.1 u.2.2.1 u.2.2.2 ef2_6 ep2_6 hO 1 ol rm oz, gArr K 95 rw NF, gArrB K 400 (am 10) IF])) S C hG [0, 2] (c_X9_goOn l K am th rw lg mr en pw sl ly dn iz tz nx st tk vl ef2_6 ep2_6 hO 1 ol rm oz IF (x1F IF tz tp hB 3) htz hM2_6) rfl rfl 0 rfl rfl (cwV 0 S.2.2.2.2 gX9_parseBottom_X9_goOn rfl rfl rfl (by decide +kernel) ⟨Nat.le_of_ble_eq_true rfl, Nat.le_of_ble_eq_true rfl⟩) rfl hl.1 rfl (Nat.le_of_ble_eq_true rfl) dX9_parseBottom_15 ⟨Nat.le_of_ble_eq_true rfl, Nat.le_of_ble_eq_true rfl⟩ (fun _ => Nat.le_of_ble_eq_true rfl) (fun _ => rfl) (fun u H locs hp hG => ?_)
  obtain ⟨nx2_15, st2_15, tk2_15, vl2_15⟩ := u
  have hM2_15 := hp
  have hM2_15 : MSt IF tz (pb (x1F IF tz tp hB 3) fun i => .inr (tkE IF tz i)) nx2_15 st2_15 tk2_15 vl2_15 ef2_6 ep2_6 := hM2_15
  have hG : gW K A s.heap [gMdl K am th rw lg mr en pw sl ly dn iz tz nx2_15 st2_15 tk2_15 vl2_15 ef2_6 ep2_6 hO 1 ol rm oz, gArr K 95 rw NF, gArrB K 400 (am 10) IF] _ _ := hG
  refine lv_aload_n S.1 S.2.1 dX9_parseBottom_18 rfl (lv_at hl 0 rfl) ?_
  refine g_ldcSW (q := K.2.2.2.1 6) S.1 S.2.1 S.2.2.2.1 (C.1.2.2.1 (RX9, 289, "open", 6) sw_35) dX9_parseBottom_19 ?_
  refine g_invV (As := [.ref (K.2.2.2.1 6)]) (rest := []) (gs' := (fun u : Unit => [gMdl K am th rw lg mr en pw sl ly dn iz tz nx2_15 st2_15 tk2_15 vl2_15 ef2_6 ep2_6 hO 1 ol rm oz, gArr K 95 rw NF, gArrB K 400 (am 10) IF])) S C hG [0, 2] (c_X9_isWord l K am th rw lg mr en pw sl ly dn iz tz nx2_15 st2_15 tk2_15 vl2_15 ef2_6 ep2_6 hO 1 ol rm oz IF (botX IF tz tp hB) 6 wOpen htz hM2_15 tx_open (by decide)) rfl rfl 0 rfl rfl (cwV 1 S.2.2.2.2 gX9_parseBottom_X9_isWord rfl rfl rfl (by decide +kernel) ⟨Nat.le_of_ble_eq_true rfl, Nat.le_of_ble_eq_true rfl⟩) rfl hl.1 rfl (Nat.le_of_ble_eq_true rfl) dX9_parseBottom_22 ⟨Nat.le_of_ble_eq_true rfl, Nat.le_of_ble_eq_true rfl⟩ (fun _ => Nat.le_of_ble_eq_true rfl) (fun _ => rfl) (fun v u H locs hp hG => ?_)
  subst hp
  refine lv_istore_n (lv' := [(1, .int (iI (bI (wdX IF tz (botX IF tz tp hB) wOpen = true)))), (0, .ref (am 0))]) S.1 S.2.1 dX9_parseBottom_25 rfl hl (by decide) rfl (fun ls hl => ?_)
  refine lv_aload_n S.1 S.2.1 dX9_parseBottom_26 rfl (lv_at hl 1 rfl) ?_
  refine lv_iload_n S.1 S.2.1 dX9_parseBottom_27 rfl (lv_at hl 0 rfl) ?_
  refine g_ifne_b (B := (wdX IF tz (botX IF tz tp hB) wOpen = true)) (tgt := 45) S dX9_parseBottom_28 (by decide) (fun q28 => ?_) (fun q28 => ?_)
  · skip
    refine g_iconst S dX9_parseBottom_45 ?_
    refine g_iconst S dX9_parseBottom_46 ?_
    refine g_invVv (As := [.int (iI 0), .int (iI 1)]) (rest := []) (gs' := (fun u : Int × Int => [gMdl K am th rw lg mr en pw sl ly dn iz tz nx2_15 st2_15 tk2_15 vl2_15 u.1 u.2 hO 1 ol rm oz, gArr K 95 rw NF, gArrB K 400 (am 10) IF])) S C hG [0] (c_X9_errsIf l K am th rw lg mr en pw sl ly dn iz tz nx2_15 st2_15 tk2_15 vl2_15 ef2_6 ep2_6 hO 1 ol rm oz IF (botX IF tz tp hB) 0 1 hM2_15 (by decide) (by decide)) rfl rfl 0 rfl rfl (cwV 2 S.2.2.2.2 gX9_parseBottom_X9_errsIf rfl rfl rfl (by decide +kernel) ⟨Nat.le_of_ble_eq_true rfl, Nat.le_of_ble_eq_true rfl⟩) rfl hl.1 rfl (Nat.le_of_ble_eq_true rfl) dX9_parseBottom_47 ⟨Nat.le_of_ble_eq_true rfl, Nat.le_of_ble_eq_true rfl⟩ (fun _ => Nat.le_of_ble_eq_true rfl) (fun _ => rfl) (fun u H locs hp hG => ?_)
    obtain ⟨ef2_47, ep2_47⟩ := u
    have hM2_47 := hp
    have hM2_47 : MSt IF tz (pb (botX IF tz tp hB) fun i => if 0 = 1 then fl IF tz i 1 else .inr i) nx2_15 st2_15 tk2_15 vl2_15 ef2_47 ep2_47 := hM2_47
    have hG : gW K A s.heap [gMdl K am th rw lg mr en pw sl ly dn iz tz nx2_15 st2_15 tk2_15 vl2_15 ef2_47 ep2_47 hO 1 ol rm oz, gArr K 95 rw NF, gArrB K 400 (am 10) IF] _ _ := hG
    refine lv_aload_n S.1 S.2.1 dX9_parseBottom_50 rfl (lv_at hl 1 rfl) ?_
    refine g_invVv (As := []) (rest := []) (gs' := (fun u : Int × Int × Int × Int => [gMdl K am th rw lg mr en pw sl ly dn iz tz u.1 u.2.1 u.2.2.1 u.2.2.2 ef2_47 ep2_47 hO 1 ol rm oz, gArr K 95 rw NF, gArrB K 400 (am 10) IF])) S C hG [0, 2] (c_X9_goOn l K am th rw lg mr en pw sl ly dn iz tz nx2_15 st2_15 tk2_15 vl2_15 ef2_47 ep2_47 hO 1 ol rm oz IF (ifF IF tz 0 1 (botX IF tz tp hB)) htz hM2_47) rfl rfl 0 rfl rfl (cwV 0 S.2.2.2.2 gX9_parseBottom_X9_goOn rfl rfl rfl (by decide +kernel) ⟨Nat.le_of_ble_eq_true rfl, Nat.le_of_ble_eq_true rfl⟩) rfl hl.1 rfl (Nat.le_of_ble_eq_true rfl) dX9_parseBottom_51 ⟨Nat.le_of_ble_eq_true rfl, Nat.le_of_ble_eq_true rfl⟩ (fun _ => Nat.le_of_ble_eq_true rfl) (fun _ => rfl) (fun u H locs hp hG => ?_)
    obtain ⟨nx2_51, st2_51, tk2_51, vl2_51⟩ := u
    have hM2_51 := hp
    have hM2_51 : MSt IF tz (pb (ifF IF tz 0 1 (botX IF tz tp hB)) fun i => .inr (tkE IF tz i)) nx2_51 st2_51 tk2_51 vl2_51 ef2_47 ep2_47 := hM2_51
    have hG : gW K A s.heap [gMdl K am th rw lg mr en pw sl ly dn iz tz nx2_51 st2_51 tk2_51 vl2_51 ef2_47 ep2_47 hO 1 ol rm oz, gArr K 95 rw NF, gArrB K 400 (am 10) IF] _ _ := hG
    refine lv_aload_n S.1 S.2.1 dX9_parseBottom_54 rfl (lv_at hl 1 rfl) ?_
    refine g_get S C hG iX90 0 rfl rfl 3 (by decide) (List.mem_of_getElem? (i := 2) rfl) rfl dX9_parseBottom_55 ?_
    refine g_iconst S dX9_parseBottom_58 ?_
    refine lv_iload_n S.1 S.2.1 dX9_parseBottom_59 rfl (lv_at hl 0 rfl) ?_
    refine g_ifeq_b (B := (wdX IF tz (botX IF tz tp hB) wOpen = true)) (tgt := 67) S dX9_parseBottom_60 (by decide) (fun q60 => ?_) (fun q60 => ?_)
    · skip
      exact absurd q28 q60
    · skip
      refine g_iconst S dX9_parseBottom_63 ?_
      refine lv_goto (tgt := 68) S.1 S.2.1 dX9_parseBottom_64 (by decide) ?_
      refine g_iast (gs' := [gMdl K am th rw lg mr en pw sl ly dn iz tz nx2_51 st2_51 tk2_51 vl2_51 ef2_47 ep2_47 hO 1 ol rm oz, gArr K 95 rw (upI NF 2 0), gArrB K 400 (am 10) IF]) S C hG 1 rfl (by omega) (by omega) (by omega) rfl dX9_parseBottom_68 (fun H locs hG => ?_)
      refine lv_aload_n S.1 S.2.1 dX9_parseBottom_69 rfl (lv_at hl 1 rfl) ?_
      refine g_get S C hG iX90 0 rfl rfl 3 (by decide) (List.mem_of_getElem? (i := 2) rfl) rfl dX9_parseBottom_70 ?_
      refine g_iconst S dX9_parseBottom_73 ?_
      refine lv_iload_n S.1 S.2.1 dX9_parseBottom_74 rfl (lv_at hl 0 rfl) ?_
      refine g_ifeq_b (B := (wdX IF tz (botX IF tz tp hB) wOpen = true)) (tgt := 91) S dX9_parseBottom_75 (by decide) (fun q75 => ?_) (fun q75 => ?_)
      · skip
        exact absurd q28 q75
      · skip
        refine lv_aload_n S.1 S.2.1 dX9_parseBottom_78 rfl (lv_at hl 1 rfl) ?_
        refine g_sipush S dX9_parseBottom_79 (by decide) ?_
        refine g_sipush S dX9_parseBottom_82 (by decide) ?_
        refine g_invV (As := [.int (iI 1000), .int (iI 4000)]) (rest := [.int (iI 3), .ref rw]) (gs' := (fun u : Int × Int × Int × Int × Int × Int × Int => [gMdl K am th rw lg mr en pw sl ly dn iz tz u.2.1 u.2.2.1 u.2.2.2.1 u.2.2.2.2.1 u.2.2.2.2.2.1 u.2.2.2.2.2.2 hO 1 ol rm oz, gArr K 95 rw (upI NF 2 0), gArrB K 400 (am 10) IF])) S C hG [0, 2] (c_X9_number l K am th rw lg mr en pw sl ly dn iz tz nx2_51 st2_51 tk2_51 vl2_51 ef2_47 ep2_47 hO 1 ol rm oz IF (goF IF tz (ifF IF tz 0 1 (botX IF tz tp hB))) 1000 4000 htz hM2_51 (by decide) (by decide)) rfl rfl 0 rfl rfl (cwV 2 S.2.2.2.2 gX9_parseBottom_X9_number rfl rfl rfl (by decide +kernel) ⟨Nat.le_of_ble_eq_true rfl, Nat.le_of_ble_eq_true rfl⟩) rfl hl.1 rfl (Nat.le_of_ble_eq_true rfl) dX9_parseBottom_85 ⟨Nat.le_of_ble_eq_true rfl, Nat.le_of_ble_eq_true rfl⟩ (fun _ => Nat.le_of_ble_eq_true rfl) (fun _ => rfl) (fun v u H locs hp hG => ?_)
        obtain ⟨r9_85, nx2_85, st2_85, tk2_85, vl2_85, ef2_85, ep2_85⟩ := u
        obtain ⟨rfl, hM2_85, hr_85⟩ := hp
        have hM2_85 : MSt IF tz (pb (goF IF tz (ifF IF tz 0 1 (botX IF tz tp hB))) fun i => pb (numE IF tz i 1000 4000) fun _ => .inr (tkE IF tz i)) nx2_85 st2_85 tk2_85 vl2_85 ef2_85 ep2_85 := hM2_85
        have hr_85 : (1000 ≤ r9_85 ∧ r9_85 ≤ 4000) ∧ ∀ i, (goF IF tz (ifF IF tz 0 1 (botX IF tz tp hB))) = .inr i → okE (numE IF tz i 1000 4000) → r9_85 = tkV IF tz i := hr_85
        have hG : gW K A s.heap [gMdl K am th rw lg mr en pw sl ly dn iz tz nx2_85 st2_85 tk2_85 vl2_85 ef2_85 ep2_85 hO 1 ol rm oz, gArr K 95 rw (upI NF 2 0), gArrB K 400 (am 10) IF] _ _ := hG
        refine lv_goto (tgt := 98) S.1 S.2.1 dX9_parseBottom_88 (by decide) ?_
        refine g_iast (gs' := [gMdl K am th rw lg mr en pw sl ly dn iz tz nx2_85 st2_85 tk2_85 vl2_85 ef2_85 ep2_85 hO 1 ol rm oz, gArr K 95 rw (upI (upI NF 2 0) 3 r9_85), gArrB K 400 (am 10) IF]) S C hG 1 rfl (by omega) (by omega) (by omega) rfl dX9_parseBottom_98 (fun H locs hG => ?_)
        refine lv_aload_n S.1 S.2.1 dX9_parseBottom_99 rfl (lv_at hl 1 rfl) ?_
        refine g_invVv (As := []) (rest := []) (gs' := (fun u : Int × Int × Int × Int × Int × Int => [gMdl K am th rw lg mr en pw sl ly dn iz tz u.1 u.2.1 u.2.2.1 u.2.2.2.1 u.2.2.2.2.1 u.2.2.2.2.2 hO 1 ol rm oz, gArr K 95 rw (upI (upI NF 2 0) 3 r9_85), gArrB K 400 (am 10) IF])) S C hG [0, 2] (c_X9_semicolon l K am th rw lg mr en pw sl ly dn iz tz nx2_85 st2_85 tk2_85 vl2_85 ef2_85 ep2_85 hO 1 ol rm oz IF (nuF IF tz 1000 4000 (goF IF tz (ifF IF tz 0 1 (botX IF tz tp hB)))) htz hM2_85) rfl rfl 0 rfl rfl (cwV 0 S.2.2.2.2 gX9_parseBottom_X9_semicolon rfl rfl rfl (by decide +kernel) ⟨Nat.le_of_ble_eq_true rfl, Nat.le_of_ble_eq_true rfl⟩) rfl hl.1 rfl (Nat.le_of_ble_eq_true rfl) dX9_parseBottom_100 ⟨Nat.le_of_ble_eq_true rfl, Nat.le_of_ble_eq_true rfl⟩ (fun _ => Nat.le_of_ble_eq_true rfl) (fun _ => rfl) (fun u H locs hp hG => ?_)
        obtain ⟨nx2_100, st2_100, tk2_100, vl2_100, ef2_100, ep2_100⟩ := u
        have hM2_100 := hp
        have hM2_100 : MSt IF tz (pb (nuF IF tz 1000 4000 (goF IF tz (ifF IF tz 0 1 (botX IF tz tp hB)))) fun i => pb (smE IF tz i) fun _ => .inr (tkE IF tz i)) nx2_100 st2_100 tk2_100 vl2_100 ef2_100 ep2_100 := hM2_100
        have hG : gW K A s.heap [gMdl K am th rw lg mr en pw sl ly dn iz tz nx2_100 st2_100 tk2_100 vl2_100 ef2_100 ep2_100 hO 1 ol rm oz, gArr K 95 rw (upI (upI NF 2 0) 3 r9_85), gArrB K 400 (am 10) IF] _ _ := hG
        have hG : gW K A s.heap [gMdl K am th rw lg mr en pw sl ly dn iz tz nx2_100 st2_100 tk2_100 vl2_100 ef2_100 ep2_100 hO 1 ol rm oz, gArr K 95 rw (upI (upI NF 2 0) 3 r9_85), gArrB K 400 (am 10) IF] _ _ := hG
        exact g_vret S hr hlk hQ dX9_parseBottom_103 (Nat.le_of_ble_eq_true rfl) (Nat.le_of_ble_eq_true rfl) ((nx2_100, st2_100, tk2_100, vl2_100, ef2_100, ep2_100, upI (upI NF 2 0) 3 r9_85) : Int × Int × Int × Int × Int × Int × (Int → Int)) ⟨(by have z : MSt IF tz (smF IF tz (nuF IF tz 1000 4000 (goF IF tz (ifF IF tz 0 1 (botX IF tz tp hB))))) _ _ _ _ _ _ := hM2_100 <;> rw [bot_eqO (N := NF) (ho := hO) q28] at z <;> exact z), (bot_okO hN q28 hr_85.2)⟩ hG
  · skip
    refine lv_aload_n S.1 S.2.1 dX9_parseBottom_31 rfl (lv_at hl 1 rfl) ?_
    refine g_ldcSW (q := K.2.2.2.1 5) S.1 S.2.1 S.2.2.2.1 (C.1.2.2.1 (RX9, 291, "mirror", 5) sw_36) dX9_parseBottom_32 ?_
    refine g_invV (As := [.ref (K.2.2.2.1 5)]) (rest := [.ref (am 0)]) (gs' := (fun u : Unit => [gMdl K am th rw lg mr en pw sl ly dn iz tz nx2_15 st2_15 tk2_15 vl2_15 ef2_6 ep2_6 hO 1 ol rm oz, gArr K 95 rw NF, gArrB K 400 (am 10) IF])) S C hG [0, 2] (c_X9_isWord l K am th rw lg mr en pw sl ly dn iz tz nx2_15 st2_15 tk2_15 vl2_15 ef2_6 ep2_6 hO 1 ol rm oz IF (botX IF tz tp hB) 5 wMirror htz hM2_15 tx_mirror (by decide)) rfl rfl 0 rfl rfl (cwV 1 S.2.2.2.2 gX9_parseBottom_X9_isWord rfl rfl rfl (by decide +kernel) ⟨Nat.le_of_ble_eq_true rfl, Nat.le_of_ble_eq_true rfl⟩) rfl hl.1 rfl (Nat.le_of_ble_eq_true rfl) dX9_parseBottom_35 ⟨Nat.le_of_ble_eq_true rfl, Nat.le_of_ble_eq_true rfl⟩ (fun _ => Nat.le_of_ble_eq_true rfl) (fun _ => rfl) (fun v u H locs hp hG => ?_)
    subst hp
    refine g_ifne_b (B := (wdX IF tz (botX IF tz tp hB) wMirror = true)) (tgt := 45) S dX9_parseBottom_38 (by decide) (fun q38 => ?_) (fun q38 => ?_)
    · skip
      refine g_iconst S dX9_parseBottom_45 ?_
      refine g_iconst S dX9_parseBottom_46 ?_
      refine g_invVv (As := [.int (iI 0), .int (iI 1)]) (rest := []) (gs' := (fun u : Int × Int => [gMdl K am th rw lg mr en pw sl ly dn iz tz nx2_15 st2_15 tk2_15 vl2_15 u.1 u.2 hO 1 ol rm oz, gArr K 95 rw NF, gArrB K 400 (am 10) IF])) S C hG [0] (c_X9_errsIf l K am th rw lg mr en pw sl ly dn iz tz nx2_15 st2_15 tk2_15 vl2_15 ef2_6 ep2_6 hO 1 ol rm oz IF (botX IF tz tp hB) 0 1 hM2_15 (by decide) (by decide)) rfl rfl 0 rfl rfl (cwV 2 S.2.2.2.2 gX9_parseBottom_X9_errsIf rfl rfl rfl (by decide +kernel) ⟨Nat.le_of_ble_eq_true rfl, Nat.le_of_ble_eq_true rfl⟩) rfl hl.1 rfl (Nat.le_of_ble_eq_true rfl) dX9_parseBottom_47 ⟨Nat.le_of_ble_eq_true rfl, Nat.le_of_ble_eq_true rfl⟩ (fun _ => Nat.le_of_ble_eq_true rfl) (fun _ => rfl) (fun u H locs hp hG => ?_)
      obtain ⟨ef2_47, ep2_47⟩ := u
      have hM2_47 := hp
      have hM2_47 : MSt IF tz (pb (botX IF tz tp hB) fun i => if 0 = 1 then fl IF tz i 1 else .inr i) nx2_15 st2_15 tk2_15 vl2_15 ef2_47 ep2_47 := hM2_47
      have hG : gW K A s.heap [gMdl K am th rw lg mr en pw sl ly dn iz tz nx2_15 st2_15 tk2_15 vl2_15 ef2_47 ep2_47 hO 1 ol rm oz, gArr K 95 rw NF, gArrB K 400 (am 10) IF] _ _ := hG
      refine lv_aload_n S.1 S.2.1 dX9_parseBottom_50 rfl (lv_at hl 1 rfl) ?_
      refine g_invVv (As := []) (rest := []) (gs' := (fun u : Int × Int × Int × Int => [gMdl K am th rw lg mr en pw sl ly dn iz tz u.1 u.2.1 u.2.2.1 u.2.2.2 ef2_47 ep2_47 hO 1 ol rm oz, gArr K 95 rw NF, gArrB K 400 (am 10) IF])) S C hG [0, 2] (c_X9_goOn l K am th rw lg mr en pw sl ly dn iz tz nx2_15 st2_15 tk2_15 vl2_15 ef2_47 ep2_47 hO 1 ol rm oz IF (ifF IF tz 0 1 (botX IF tz tp hB)) htz hM2_47) rfl rfl 0 rfl rfl (cwV 0 S.2.2.2.2 gX9_parseBottom_X9_goOn rfl rfl rfl (by decide +kernel) ⟨Nat.le_of_ble_eq_true rfl, Nat.le_of_ble_eq_true rfl⟩) rfl hl.1 rfl (Nat.le_of_ble_eq_true rfl) dX9_parseBottom_51 ⟨Nat.le_of_ble_eq_true rfl, Nat.le_of_ble_eq_true rfl⟩ (fun _ => Nat.le_of_ble_eq_true rfl) (fun _ => rfl) (fun u H locs hp hG => ?_)
      obtain ⟨nx2_51, st2_51, tk2_51, vl2_51⟩ := u
      have hM2_51 := hp
      have hM2_51 : MSt IF tz (pb (ifF IF tz 0 1 (botX IF tz tp hB)) fun i => .inr (tkE IF tz i)) nx2_51 st2_51 tk2_51 vl2_51 ef2_47 ep2_47 := hM2_51
      have hG : gW K A s.heap [gMdl K am th rw lg mr en pw sl ly dn iz tz nx2_51 st2_51 tk2_51 vl2_51 ef2_47 ep2_47 hO 1 ol rm oz, gArr K 95 rw NF, gArrB K 400 (am 10) IF] _ _ := hG
      refine lv_aload_n S.1 S.2.1 dX9_parseBottom_54 rfl (lv_at hl 1 rfl) ?_
      refine g_get S C hG iX90 0 rfl rfl 3 (by decide) (List.mem_of_getElem? (i := 2) rfl) rfl dX9_parseBottom_55 ?_
      refine g_iconst S dX9_parseBottom_58 ?_
      refine lv_iload_n S.1 S.2.1 dX9_parseBottom_59 rfl (lv_at hl 0 rfl) ?_
      refine g_ifeq_b (B := (wdX IF tz (botX IF tz tp hB) wOpen = true)) (tgt := 67) S dX9_parseBottom_60 (by decide) (fun q60 => ?_) (fun q60 => ?_)
      · skip
        refine g_iconst S dX9_parseBottom_67 ?_
        refine g_iast (gs' := [gMdl K am th rw lg mr en pw sl ly dn iz tz nx2_51 st2_51 tk2_51 vl2_51 ef2_47 ep2_47 hO 1 ol rm oz, gArr K 95 rw (upI NF 2 1), gArrB K 400 (am 10) IF]) S C hG 1 rfl (by omega) (by omega) (by omega) rfl dX9_parseBottom_68 (fun H locs hG => ?_)
        refine lv_aload_n S.1 S.2.1 dX9_parseBottom_69 rfl (lv_at hl 1 rfl) ?_
        refine g_get S C hG iX90 0 rfl rfl 3 (by decide) (List.mem_of_getElem? (i := 2) rfl) rfl dX9_parseBottom_70 ?_
        refine g_iconst S dX9_parseBottom_73 ?_
        refine lv_iload_n S.1 S.2.1 dX9_parseBottom_74 rfl (lv_at hl 0 rfl) ?_
        refine g_ifeq_b (B := (wdX IF tz (botX IF tz tp hB) wOpen = true)) (tgt := 91) S dX9_parseBottom_75 (by decide) (fun q75 => ?_) (fun q75 => ?_)
        · skip
          refine lv_aload_n S.1 S.2.1 dX9_parseBottom_91 rfl (lv_at hl 1 rfl) ?_
          refine g_iconst S dX9_parseBottom_92 ?_
          refine g_bipush S dX9_parseBottom_93 (by decide) ?_
          refine g_invV (As := [.int (iI 0), .int (iI 100)]) (rest := [.int (iI 3), .ref rw]) (gs' := (fun u : Int × Int × Int × Int × Int × Int × Int => [gMdl K am th rw lg mr en pw sl ly dn iz tz u.2.1 u.2.2.1 u.2.2.2.1 u.2.2.2.2.1 u.2.2.2.2.2.1 u.2.2.2.2.2.2 hO 1 ol rm oz, gArr K 95 rw (upI NF 2 1), gArrB K 400 (am 10) IF])) S C hG [0, 2] (c_X9_number l K am th rw lg mr en pw sl ly dn iz tz nx2_51 st2_51 tk2_51 vl2_51 ef2_47 ep2_47 hO 1 ol rm oz IF (goF IF tz (ifF IF tz 0 1 (botX IF tz tp hB))) 0 100 htz hM2_51 (by decide) (by decide)) rfl rfl 0 rfl rfl (cwV 2 S.2.2.2.2 gX9_parseBottom_X9_number rfl rfl rfl (by decide +kernel) ⟨Nat.le_of_ble_eq_true rfl, Nat.le_of_ble_eq_true rfl⟩) rfl hl.1 rfl (Nat.le_of_ble_eq_true rfl) dX9_parseBottom_95 ⟨Nat.le_of_ble_eq_true rfl, Nat.le_of_ble_eq_true rfl⟩ (fun _ => Nat.le_of_ble_eq_true rfl) (fun _ => rfl) (fun v u H locs hp hG => ?_)
          obtain ⟨r9_95, nx2_95, st2_95, tk2_95, vl2_95, ef2_95, ep2_95⟩ := u
          obtain ⟨rfl, hM2_95, hr_95⟩ := hp
          have hM2_95 : MSt IF tz (pb (goF IF tz (ifF IF tz 0 1 (botX IF tz tp hB))) fun i => pb (numE IF tz i 0 100) fun _ => .inr (tkE IF tz i)) nx2_95 st2_95 tk2_95 vl2_95 ef2_95 ep2_95 := hM2_95
          have hr_95 : (0 ≤ r9_95 ∧ r9_95 ≤ 100) ∧ ∀ i, (goF IF tz (ifF IF tz 0 1 (botX IF tz tp hB))) = .inr i → okE (numE IF tz i 0 100) → r9_95 = tkV IF tz i := hr_95
          have hG : gW K A s.heap [gMdl K am th rw lg mr en pw sl ly dn iz tz nx2_95 st2_95 tk2_95 vl2_95 ef2_95 ep2_95 hO 1 ol rm oz, gArr K 95 rw (upI NF 2 1), gArrB K 400 (am 10) IF] _ _ := hG
          refine g_iast (gs' := [gMdl K am th rw lg mr en pw sl ly dn iz tz nx2_95 st2_95 tk2_95 vl2_95 ef2_95 ep2_95 hO 1 ol rm oz, gArr K 95 rw (upI (upI NF 2 1) 3 r9_95), gArrB K 400 (am 10) IF]) S C hG 1 rfl (by omega) (by omega) (by omega) rfl dX9_parseBottom_98 (fun H locs hG => ?_)
          refine lv_aload_n S.1 S.2.1 dX9_parseBottom_99 rfl (lv_at hl 1 rfl) ?_
          refine g_invVv (As := []) (rest := []) (gs' := (fun u : Int × Int × Int × Int × Int × Int => [gMdl K am th rw lg mr en pw sl ly dn iz tz u.1 u.2.1 u.2.2.1 u.2.2.2.1 u.2.2.2.2.1 u.2.2.2.2.2 hO 1 ol rm oz, gArr K 95 rw (upI (upI NF 2 1) 3 r9_95), gArrB K 400 (am 10) IF])) S C hG [0, 2] (c_X9_semicolon l K am th rw lg mr en pw sl ly dn iz tz nx2_95 st2_95 tk2_95 vl2_95 ef2_95 ep2_95 hO 1 ol rm oz IF (nuF IF tz 0 100 (goF IF tz (ifF IF tz 0 1 (botX IF tz tp hB)))) htz hM2_95) rfl rfl 0 rfl rfl (cwV 0 S.2.2.2.2 gX9_parseBottom_X9_semicolon rfl rfl rfl (by decide +kernel) ⟨Nat.le_of_ble_eq_true rfl, Nat.le_of_ble_eq_true rfl⟩) rfl hl.1 rfl (Nat.le_of_ble_eq_true rfl) dX9_parseBottom_100 ⟨Nat.le_of_ble_eq_true rfl, Nat.le_of_ble_eq_true rfl⟩ (fun _ => Nat.le_of_ble_eq_true rfl) (fun _ => rfl) (fun u H locs hp hG => ?_)
          obtain ⟨nx2_100, st2_100, tk2_100, vl2_100, ef2_100, ep2_100⟩ := u
          have hM2_100 := hp
          have hM2_100 : MSt IF tz (pb (nuF IF tz 0 100 (goF IF tz (ifF IF tz 0 1 (botX IF tz tp hB)))) fun i => pb (smE IF tz i) fun _ => .inr (tkE IF tz i)) nx2_100 st2_100 tk2_100 vl2_100 ef2_100 ep2_100 := hM2_100
          have hG : gW K A s.heap [gMdl K am th rw lg mr en pw sl ly dn iz tz nx2_100 st2_100 tk2_100 vl2_100 ef2_100 ep2_100 hO 1 ol rm oz, gArr K 95 rw (upI (upI NF 2 1) 3 r9_95), gArrB K 400 (am 10) IF] _ _ := hG
          have hG : gW K A s.heap [gMdl K am th rw lg mr en pw sl ly dn iz tz nx2_100 st2_100 tk2_100 vl2_100 ef2_100 ep2_100 hO 1 ol rm oz, gArr K 95 rw (upI (upI NF 2 1) 3 r9_95), gArrB K 400 (am 10) IF] _ _ := hG
          exact g_vret S hr hlk hQ dX9_parseBottom_103 (Nat.le_of_ble_eq_true rfl) (Nat.le_of_ble_eq_true rfl) ((nx2_100, st2_100, tk2_100, vl2_100, ef2_100, ep2_100, upI (upI NF 2 1) 3 r9_95) : Int × Int × Int × Int × Int × Int × (Int → Int)) ⟨(by have z : MSt IF tz (smF IF tz (nuF IF tz 0 100 (goF IF tz (ifF IF tz 0 1 (botX IF tz tp hB))))) _ _ _ _ _ _ := hM2_100 <;> rw [bot_eqM (N := NF) (ho := hO) q38] at z <;> exact z), (bot_okM hN q38 hr_95.2)⟩ hG
        · skip
          exact absurd q75 q28
      · skip
        exact absurd q60 q28
    · skip
      refine g_iconst S dX9_parseBottom_41 ?_
      refine lv_goto (tgt := 46) S.1 S.2.1 dX9_parseBottom_42 (by decide) ?_
      refine g_iconst S dX9_parseBottom_46 ?_
      refine g_invVv (As := [.int (iI 1), .int (iI 1)]) (rest := []) (gs' := (fun u : Int × Int => [gMdl K am th rw lg mr en pw sl ly dn iz tz nx2_15 st2_15 tk2_15 vl2_15 u.1 u.2 hO 1 ol rm oz, gArr K 95 rw NF, gArrB K 400 (am 10) IF])) S C hG [0] (c_X9_errsIf l K am th rw lg mr en pw sl ly dn iz tz nx2_15 st2_15 tk2_15 vl2_15 ef2_6 ep2_6 hO 1 ol rm oz IF (botX IF tz tp hB) 1 1 hM2_15 (by decide) (by decide)) rfl rfl 0 rfl rfl (cwV 2 S.2.2.2.2 gX9_parseBottom_X9_errsIf rfl rfl rfl (by decide +kernel) ⟨Nat.le_of_ble_eq_true rfl, Nat.le_of_ble_eq_true rfl⟩) rfl hl.1 rfl (Nat.le_of_ble_eq_true rfl) dX9_parseBottom_47 ⟨Nat.le_of_ble_eq_true rfl, Nat.le_of_ble_eq_true rfl⟩ (fun _ => Nat.le_of_ble_eq_true rfl) (fun _ => rfl) (fun u H locs hp hG => ?_)
      obtain ⟨ef2_47, ep2_47⟩ := u
      have hM2_47 := hp
      have hM2_47 : MSt IF tz (pb (botX IF tz tp hB) fun i => if 1 = 1 then fl IF tz i 1 else .inr i) nx2_15 st2_15 tk2_15 vl2_15 ef2_47 ep2_47 := hM2_47
      have hG : gW K A s.heap [gMdl K am th rw lg mr en pw sl ly dn iz tz nx2_15 st2_15 tk2_15 vl2_15 ef2_47 ep2_47 hO 1 ol rm oz, gArr K 95 rw NF, gArrB K 400 (am 10) IF] _ _ := hG
      refine lv_aload_n S.1 S.2.1 dX9_parseBottom_50 rfl (lv_at hl 1 rfl) ?_
      refine g_invVv (As := []) (rest := []) (gs' := (fun u : Int × Int × Int × Int => [gMdl K am th rw lg mr en pw sl ly dn iz tz u.1 u.2.1 u.2.2.1 u.2.2.2 ef2_47 ep2_47 hO 1 ol rm oz, gArr K 95 rw NF, gArrB K 400 (am 10) IF])) S C hG [0, 2] (c_X9_goOn l K am th rw lg mr en pw sl ly dn iz tz nx2_15 st2_15 tk2_15 vl2_15 ef2_47 ep2_47 hO 1 ol rm oz IF (ifF IF tz 1 1 (botX IF tz tp hB)) htz hM2_47) rfl rfl 0 rfl rfl (cwV 0 S.2.2.2.2 gX9_parseBottom_X9_goOn rfl rfl rfl (by decide +kernel) ⟨Nat.le_of_ble_eq_true rfl, Nat.le_of_ble_eq_true rfl⟩) rfl hl.1 rfl (Nat.le_of_ble_eq_true rfl) dX9_parseBottom_51 ⟨Nat.le_of_ble_eq_true rfl, Nat.le_of_ble_eq_true rfl⟩ (fun _ => Nat.le_of_ble_eq_true rfl) (fun _ => rfl) (fun u H locs hp hG => ?_)
      obtain ⟨nx2_51, st2_51, tk2_51, vl2_51⟩ := u
      have hM2_51 := hp
      have hM2_51 : MSt IF tz (pb (ifF IF tz 1 1 (botX IF tz tp hB)) fun i => .inr (tkE IF tz i)) nx2_51 st2_51 tk2_51 vl2_51 ef2_47 ep2_47 := hM2_51
      have hG : gW K A s.heap [gMdl K am th rw lg mr en pw sl ly dn iz tz nx2_51 st2_51 tk2_51 vl2_51 ef2_47 ep2_47 hO 1 ol rm oz, gArr K 95 rw NF, gArrB K 400 (am 10) IF] _ _ := hG
      refine lv_aload_n S.1 S.2.1 dX9_parseBottom_54 rfl (lv_at hl 1 rfl) ?_
      refine g_get S C hG iX90 0 rfl rfl 3 (by decide) (List.mem_of_getElem? (i := 2) rfl) rfl dX9_parseBottom_55 ?_
      refine g_iconst S dX9_parseBottom_58 ?_
      refine lv_iload_n S.1 S.2.1 dX9_parseBottom_59 rfl (lv_at hl 0 rfl) ?_
      refine g_ifeq_b (B := (wdX IF tz (botX IF tz tp hB) wOpen = true)) (tgt := 67) S dX9_parseBottom_60 (by decide) (fun q60 => ?_) (fun q60 => ?_)
      · skip
        refine g_iconst S dX9_parseBottom_67 ?_
        refine g_iast (gs' := [gMdl K am th rw lg mr en pw sl ly dn iz tz nx2_51 st2_51 tk2_51 vl2_51 ef2_47 ep2_47 hO 1 ol rm oz, gArr K 95 rw (upI NF 2 1), gArrB K 400 (am 10) IF]) S C hG 1 rfl (by omega) (by omega) (by omega) rfl dX9_parseBottom_68 (fun H locs hG => ?_)
        refine lv_aload_n S.1 S.2.1 dX9_parseBottom_69 rfl (lv_at hl 1 rfl) ?_
        refine g_get S C hG iX90 0 rfl rfl 3 (by decide) (List.mem_of_getElem? (i := 2) rfl) rfl dX9_parseBottom_70 ?_
        refine g_iconst S dX9_parseBottom_73 ?_
        refine lv_iload_n S.1 S.2.1 dX9_parseBottom_74 rfl (lv_at hl 0 rfl) ?_
        refine g_ifeq_b (B := (wdX IF tz (botX IF tz tp hB) wOpen = true)) (tgt := 91) S dX9_parseBottom_75 (by decide) (fun q75 => ?_) (fun q75 => ?_)
        · skip
          refine lv_aload_n S.1 S.2.1 dX9_parseBottom_91 rfl (lv_at hl 1 rfl) ?_
          refine g_iconst S dX9_parseBottom_92 ?_
          refine g_bipush S dX9_parseBottom_93 (by decide) ?_
          refine g_invV (As := [.int (iI 0), .int (iI 100)]) (rest := [.int (iI 3), .ref rw]) (gs' := (fun u : Int × Int × Int × Int × Int × Int × Int => [gMdl K am th rw lg mr en pw sl ly dn iz tz u.2.1 u.2.2.1 u.2.2.2.1 u.2.2.2.2.1 u.2.2.2.2.2.1 u.2.2.2.2.2.2 hO 1 ol rm oz, gArr K 95 rw (upI NF 2 1), gArrB K 400 (am 10) IF])) S C hG [0, 2] (c_X9_number l K am th rw lg mr en pw sl ly dn iz tz nx2_51 st2_51 tk2_51 vl2_51 ef2_47 ep2_47 hO 1 ol rm oz IF (goF IF tz (ifF IF tz 1 1 (botX IF tz tp hB))) 0 100 htz hM2_51 (by decide) (by decide)) rfl rfl 0 rfl rfl (cwV 2 S.2.2.2.2 gX9_parseBottom_X9_number rfl rfl rfl (by decide +kernel) ⟨Nat.le_of_ble_eq_true rfl, Nat.le_of_ble_eq_true rfl⟩) rfl hl.1 rfl (Nat.le_of_ble_eq_true rfl) dX9_parseBottom_95 ⟨Nat.le_of_ble_eq_true rfl, Nat.le_of_ble_eq_true rfl⟩ (fun _ => Nat.le_of_ble_eq_true rfl) (fun _ => rfl) (fun v u H locs hp hG => ?_)
          obtain ⟨r9_95, nx2_95, st2_95, tk2_95, vl2_95, ef2_95, ep2_95⟩ := u
          obtain ⟨rfl, hM2_95, hr_95⟩ := hp
          have hM2_95 : MSt IF tz (pb (goF IF tz (ifF IF tz 1 1 (botX IF tz tp hB))) fun i => pb (numE IF tz i 0 100) fun _ => .inr (tkE IF tz i)) nx2_95 st2_95 tk2_95 vl2_95 ef2_95 ep2_95 := hM2_95
          have hr_95 : (0 ≤ r9_95 ∧ r9_95 ≤ 100) ∧ ∀ i, (goF IF tz (ifF IF tz 1 1 (botX IF tz tp hB))) = .inr i → okE (numE IF tz i 0 100) → r9_95 = tkV IF tz i := hr_95
          have hG : gW K A s.heap [gMdl K am th rw lg mr en pw sl ly dn iz tz nx2_95 st2_95 tk2_95 vl2_95 ef2_95 ep2_95 hO 1 ol rm oz, gArr K 95 rw (upI NF 2 1), gArrB K 400 (am 10) IF] _ _ := hG
          refine g_iast (gs' := [gMdl K am th rw lg mr en pw sl ly dn iz tz nx2_95 st2_95 tk2_95 vl2_95 ef2_95 ep2_95 hO 1 ol rm oz, gArr K 95 rw (upI (upI NF 2 1) 3 r9_95), gArrB K 400 (am 10) IF]) S C hG 1 rfl (by omega) (by omega) (by omega) rfl dX9_parseBottom_98 (fun H locs hG => ?_)
          refine lv_aload_n S.1 S.2.1 dX9_parseBottom_99 rfl (lv_at hl 1 rfl) ?_
          refine g_invVv (As := []) (rest := []) (gs' := (fun u : Int × Int × Int × Int × Int × Int => [gMdl K am th rw lg mr en pw sl ly dn iz tz u.1 u.2.1 u.2.2.1 u.2.2.2.1 u.2.2.2.2.1 u.2.2.2.2.2 hO 1 ol rm oz, gArr K 95 rw (upI (upI NF 2 1) 3 r9_95), gArrB K 400 (am 10) IF])) S C hG [0, 2] (c_X9_semicolon l K am th rw lg mr en pw sl ly dn iz tz nx2_95 st2_95 tk2_95 vl2_95 ef2_95 ep2_95 hO 1 ol rm oz IF (nuF IF tz 0 100 (goF IF tz (ifF IF tz 1 1 (botX IF tz tp hB)))) htz hM2_95) rfl rfl 0 rfl rfl (cwV 0 S.2.2.2.2 gX9_parseBottom_X9_semicolon rfl rfl rfl (by decide +kernel) ⟨Nat.le_of_ble_eq_true rfl, Nat.le_of_ble_eq_true rfl⟩) rfl hl.1 rfl (Nat.le_of_ble_eq_true rfl) dX9_parseBottom_100 ⟨Nat.le_of_ble_eq_true rfl, Nat.le_of_ble_eq_true rfl⟩ (fun _ => Nat.le_of_ble_eq_true rfl) (fun _ => rfl) (fun u H locs hp hG => ?_)
          obtain ⟨nx2_100, st2_100, tk2_100, vl2_100, ef2_100, ep2_100⟩ := u
          have hM2_100 := hp
          have hM2_100 : MSt IF tz (pb (nuF IF tz 0 100 (goF IF tz (ifF IF tz 1 1 (botX IF tz tp hB)))) fun i => pb (smE IF tz i) fun _ => .inr (tkE IF tz i)) nx2_100 st2_100 tk2_100 vl2_100 ef2_100 ep2_100 := hM2_100
          have hG : gW K A s.heap [gMdl K am th rw lg mr en pw sl ly dn iz tz nx2_100 st2_100 tk2_100 vl2_100 ef2_100 ep2_100 hO 1 ol rm oz, gArr K 95 rw (upI (upI NF 2 1) 3 r9_95), gArrB K 400 (am 10) IF] _ _ := hG
          have hG : gW K A s.heap [gMdl K am th rw lg mr en pw sl ly dn iz tz nx2_100 st2_100 tk2_100 vl2_100 ef2_100 ep2_100 hO 1 ol rm oz, gArr K 95 rw (upI (upI NF 2 1) 3 r9_95), gArrB K 400 (am 10) IF] _ _ := hG
          exact g_vret S hr hlk hQ dX9_parseBottom_103 (Nat.le_of_ble_eq_true rfl) (Nat.le_of_ble_eq_true rfl) ((nx2_100, st2_100, tk2_100, vl2_100, ef2_100, ep2_100, upI (upI NF 2 1) 3 r9_95) : Int × Int × Int × Int × Int × Int × (Int → Int)) ⟨(by have z : MSt IF tz (smF IF tz (nuF IF tz 0 100 (goF IF tz (ifF IF tz 1 1 (botX IF tz tp hB))))) _ _ _ _ _ _ := hM2_100 <;> rw [(bot_eqX (N := NF) (ho := hO) q28 q38).1] at z <;> exact z), (StmM.nil (bot_eqX (N := NF) (ho := hO) q28 q38).2 _ _ _)⟩ hG
        · skip
          exact absurd q75 q28
      · skip
        exact absurd q60 q28

set_option maxHeartbeats 1000000 in
set_option maxRecDepth 100000 in
theorem c_X9_parseShot (l : Launch) (K : KC) (am : Nat → Nat) (th : Int) (rw : Nat) (lg : Int) (mr : Int) (en : Int) (pw : Int) (sl : Int) (ly : Int) (dn : Int) (iz : Int) (tz : Int) (nx : Int) (st : Int) (tk : Int) (vl : Int) (ef : Int) (ep : Int) (hO : Int) (hB : Int) (ol : Int) (rm : Int) (oz : Int) (NF : Int → Int) (IF : Int → Int) (tp : Int) (htz : 0 ≤ tz ∧ tz ≤ 400) (hM : MSt IF tz (.inr tp) nx st tk vl ef ep) (hN : NOk0 NF) (hO9 : hO = 0 ∨ hO = 1) (hB9 : hB = 0 ∨ hB = 1) : mV l yX9_parseShot wsX9_parseShot 5 108 K [.ref (am 0)] [gMdl K am th rw lg mr en pw sl ly dn iz tz nx st tk vl ef ep hO hB ol rm oz, gArr K 95 rw NF, gArrB K 400 (am 10) IF] (fun (u : Int × Int × Int × Int × Int × Int × (Int → Int)) => (MSt IF tz (pb (shoE IF tz tp NF hO hB) fun t => .inr t.1) u.1 u.2.1 u.2.2.1 u.2.2.2.1 u.2.2.2.2.1 u.2.2.2.2.2.1) ∧ (StmM (shoE IF tz tp NF hO hB) u.2.2.2.2.2.2 hO hB)) (fun (u : Int × Int × Int × Int × Int × Int × (Int → Int)) => [gMdl K am th rw lg mr en pw sl ly dn iz tz u.1 u.2.1 u.2.2.1 u.2.2.2.1 u.2.2.2.2.1 u.2.2.2.2.2.1 hO hB ol rm oz, gArr K 95 rw u.2.2.2.2.2.2, gArrB K 400 (am 10) IF]) 0 0 := by
  refine mV_of cX9_parseShot 4 (by decide) rfl (Nat.le_of_ble_eq_true rfl) ?_
  intro p e s m below meth c A ls Q S C hG hl hr hlk hin hQ
  have S : CallFix p m c cX9_parseShot 4 s ([.ref (am 0)] : List Value).toArray wsX9_parseShot RX9 := S
  have iX90 : ∀ w ∈ wsX90, w ∈ wsX9_parseShot := fun _ h => List.mem_cons_of_mem _ (List.mem_append_right _ (h))
  have hl : lv_has ls 4 [(0, .ref (am 0))] := hl
  have hG : gW K A s.heap [gMdl K am th rw lg mr en pw sl ly dn iz tz nx st tk vl ef ep hO hB ol rm oz, gArr K 95 rw NF, gArrB K 400 (am 10) IF] s.heap [] := hG
  have n0 := hN.1
  have n3 := hN.2.2.2.1
  refine lv_aload_n S.1 S.2.1 dX9_parseShot_0 rfl (lv_at hl 0 rfl) ?_
  refine lv_aload_n S.1 S.2.1 dX9_parseShot_1 rfl (lv_at hl 0 rfl) ?_
  refine g_invV (As := []) (rest := [.ref (am 0)]) (gs' := (fun u : Unit => [gMdl K am th rw lg mr en pw sl ly dn iz tz nx st tk vl ef ep hO hB ol rm oz, gArr K 95 rw NF, gArrB K 400 (am 10) IF])) S C hG [0, 1] (c_X9_shots l K am th rw lg mr en pw sl ly dn iz tz nx st tk vl ef ep hO hB ol rm oz NF) rfl rfl 0 rfl rfl (cwV 0 S.2.2.2.2 gX9_parseShot_X9_shots rfl rfl rfl (by decide +kernel) ⟨Nat.le_of_ble_eq_true rfl, Nat.le_of_ble_eq_true rfl⟩) rfl hl.1 rfl (Nat.le_of_ble_eq_true rfl) dX9_parseShot_2 ⟨Nat.le_of_ble_eq_true rfl, Nat.le_of_ble_eq_true rfl⟩ (fun _ => Nat.le_of_ble_eq_true rfl) (fun _ => rfl) (fun v u H locs hp hG => ?_)
  subst hp
  refine g_bipush S dX9_parseShot_5 (by decide) ?_
  have J15 : ∀ (H : Heap) (locs : List Loc) (ls : Array Slot), lv_has ls 4 [(0, .ref (am 0))] → gW K A s.heap [gMdl K am th rw lg mr en pw sl ly dn iz tz nx st tk vl ef ep hO hB ol rm oz, gArr K 95 rw NF, gArrB K 400 (am 10) IF] H locs → W p l e { frames := 5, cells := 0, slots := 0, locals := 108 } s m ([.ref (am 0)] : List Value).toArray below meth c H locs 0 0 Q (F0 m 15 ls [.int (iI (bI (20 ≤ NF 4))), .ref (am 0)]) := by
    intro  H locs ls  hl hG
    refine g_bipush S dX9_parseShot_15 (by decide) ?_
    refine g_invVv (As := [.int (iI (bI (20 ≤ NF 4))), .int (iI 6)]) (rest := []) (gs' := (fun u : Int × Int => [gMdl K am th rw lg mr en pw sl ly dn iz tz nx st tk vl u.1 u.2 hO hB ol rm oz, gArr K 95 rw NF, gArrB K 400 (am 10) IF])) S C hG [0] (c_X9_errsIf l K am th rw lg mr en pw sl ly dn iz tz nx st tk vl ef ep hO hB ol rm oz IF (.inr tp) (bI (20 ≤ NF 4)) 6 hM (by decide) (bI_01 _)) rfl rfl 0 rfl rfl (cwV 2 S.2.2.2.2 gX9_parseShot_X9_errsIf rfl rfl rfl (by decide +kernel) ⟨Nat.le_of_ble_eq_true rfl, Nat.le_of_ble_eq_true rfl⟩) rfl hl.1 rfl (Nat.le_of_ble_eq_true rfl) dX9_parseShot_17 ⟨Nat.le_of_ble_eq_true rfl, Nat.le_of_ble_eq_true rfl⟩ (fun _ => Nat.le_of_ble_eq_true rfl) (fun _ => rfl) (fun u H locs hp hG => ?_)
    obtain ⟨ef2_17, ep2_17⟩ := u
    have hM2_17 := hp
    have hM2_17 : MSt IF tz (pb (.inr tp) fun i => if (bI (20 ≤ NF 4)) = 1 then fl IF tz i 6 else .inr i) nx st tk vl ef2_17 ep2_17 := hM2_17
    have hG : gW K A s.heap [gMdl K am th rw lg mr en pw sl ly dn iz tz nx st tk vl ef2_17 ep2_17 hO hB ol rm oz, gArr K 95 rw NF, gArrB K 400 (am 10) IF] _ _ := hG
    refine lv_aload_n S.1 S.2.1 dX9_parseShot_20 rfl (lv_at hl 0 rfl) ?_
    refine g_invVv (As := []) (rest := []) (gs' := (fun u : Int × Int × Int × Int => [gMdl K am th rw lg mr en pw sl ly dn iz tz u.1 u.2.1 u.2.2.1 u.2.2.2 ef2_17 ep2_17 hO hB ol rm oz, gArr K 95 rw NF, gArrB K 400 (am 10) IF])) S C hG [0, 2] (c_X9_goOn l K am th rw lg mr en pw sl ly dn iz tz nx st tk vl ef2_17 ep2_17 hO hB ol rm oz IF (x1F IF tz tp (bI (20 ≤ NF 4)) 6) htz hM2_17) rfl rfl 0 rfl rfl (cwV 0 S.2.2.2.2 gX9_parseShot_X9_goOn rfl rfl rfl (by decide +kernel) ⟨Nat.le_of_ble_eq_true rfl, Nat.le_of_ble_eq_true rfl⟩) rfl hl.1 rfl (Nat.le_of_ble_eq_true rfl) dX9_parseShot_21 ⟨Nat.le_of_ble_eq_true rfl, Nat.le_of_ble_eq_true rfl⟩ (fun _ => Nat.le_of_ble_eq_true rfl) (fun _ => rfl) (fun u H locs hp hG => ?_)
    obtain ⟨nx2_21, st2_21, tk2_21, vl2_21⟩ := u
    have hM2_21 := hp
    have hM2_21 : MSt IF tz (pb (x1F IF tz tp (bI (20 ≤ NF 4)) 6) fun i => .inr (tkE IF tz i)) nx2_21 st2_21 tk2_21 vl2_21 ef2_17 ep2_17 := hM2_21
    have hG : gW K A s.heap [gMdl K am th rw lg mr en pw sl ly dn iz tz nx2_21 st2_21 tk2_21 vl2_21 ef2_17 ep2_17 hO hB ol rm oz, gArr K 95 rw NF, gArrB K 400 (am 10) IF] _ _ := hG
    refine lv_aload_n S.1 S.2.1 dX9_parseShot_24 rfl (lv_at hl 0 rfl) ?_
    refine g_iconst S dX9_parseShot_25 ?_
    refine g_bipush S dX9_parseShot_26 (by decide) ?_
    refine g_invV (As := [.int (iI 0), .int (iI 9)]) (rest := []) (gs' := (fun u : Int × Int × Int => [gMdl K am th rw lg mr en pw sl ly dn iz tz nx2_21 st2_21 tk2_21 vl2_21 u.2.1 u.2.2 hO hB ol rm oz, gArr K 95 rw NF, gArrB K 400 (am 10) IF])) S C hG [0] (c_X9_numberHere l K am th rw lg mr en pw sl ly dn iz tz nx2_21 st2_21 tk2_21 vl2_21 ef2_17 ep2_17 hO hB ol rm oz IF (sh2 IF NF tz tp) 0 9 htz hM2_21 (by decide) (by decide)) rfl rfl 0 rfl rfl (cwV 2 S.2.2.2.2 gX9_parseShot_X9_numberHere rfl rfl rfl (by decide +kernel) ⟨Nat.le_of_ble_eq_true rfl, Nat.le_of_ble_eq_true rfl⟩) rfl hl.1 rfl (Nat.le_of_ble_eq_true rfl) dX9_parseShot_28 ⟨Nat.le_of_ble_eq_true rfl, Nat.le_of_ble_eq_true rfl⟩ (fun _ => Nat.le_of_ble_eq_true rfl) (fun _ => rfl) (fun v u H locs hp hG => ?_)
    obtain ⟨r9_28, ef2_28, ep2_28⟩ := u
    obtain ⟨rfl, hM2_28, hr_28⟩ := hp
    have hM2_28 : MSt IF tz (pb (sh2 IF NF tz tp) fun i => pb (numE IF tz i 0 9) fun _ => .inr i) nx2_21 st2_21 tk2_21 vl2_21 ef2_28 ep2_28 := hM2_28
    have hr_28 : (0 ≤ r9_28 ∧ r9_28 ≤ 9) ∧ ∀ i, (sh2 IF NF tz tp) = .inr i → okE (numE IF tz i 0 9) → r9_28 = tkV IF tz i := hr_28
    have hG : gW K A s.heap [gMdl K am th rw lg mr en pw sl ly dn iz tz nx2_21 st2_21 tk2_21 vl2_21 ef2_28 ep2_28 hO hB ol rm oz, gArr K 95 rw NF, gArrB K 400 (am 10) IF] _ _ := hG
    refine lv_istore_n (lv' := [(1, .int (iI r9_28)), (0, .ref (am 0))]) S.1 S.2.1 dX9_parseShot_31 rfl hl (by decide) rfl (fun ls hl => ?_)
    refine lv_aload_n S.1 S.2.1 dX9_parseShot_32 rfl (lv_at hl 1 rfl) ?_
    refine lv_aload_n S.1 S.2.1 dX9_parseShot_33 rfl (lv_at hl 1 rfl) ?_
    refine lv_iload_n S.1 S.2.1 dX9_parseShot_34 rfl (lv_at hl 0 rfl) ?_
    refine g_invV (As := [.int (iI r9_28)]) (rest := [.ref (am 0)]) (gs' := (fun u : Unit => [gMdl K am th rw lg mr en pw sl ly dn iz tz nx2_21 st2_21 tk2_21 vl2_21 ef2_28 ep2_28 hO hB ol rm oz, gArr K 95 rw NF, gArrB K 400 (am 10) IF])) S C hG [0, 1] (c_X9_isLayer l K am th rw lg mr en pw sl ly dn iz tz nx2_21 st2_21 tk2_21 vl2_21 ef2_28 ep2_28 hO hB ol rm oz NF r9_28 hN (by omega)) rfl rfl 0 rfl rfl (cwV 1 S.2.2.2.2 gX9_parseShot_X9_isLayer rfl rfl rfl (by decide +kernel) ⟨Nat.le_of_ble_eq_true rfl, Nat.le_of_ble_eq_true rfl⟩) rfl hl.1 rfl (Nat.le_of_ble_eq_true rfl) dX9_parseShot_35 ⟨Nat.le_of_ble_eq_true rfl, Nat.le_of_ble_eq_true rfl⟩ (fun _ => Nat.le_of_ble_eq_true rfl) (fun _ => rfl) (fun v u H locs hp hG => ?_)
    subst hp
    have J46 : ∀ (H : Heap) (locs : List Loc) (ls : Array Slot), lv_has ls 4 [(0, .ref (am 0)), (1, .int (iI r9_28))] → gW K A s.heap [gMdl K am th rw lg mr en pw sl ly dn iz tz nx2_21 st2_21 tk2_21 vl2_21 ef2_28 ep2_28 hO hB ol rm oz, gArr K 95 rw NF, gArrB K 400 (am 10) IF] H locs → W p l e { frames := 5, cells := 0, slots := 0, locals := 108 } s m ([.ref (am 0)] : List Value).toArray below meth c H locs 0 0 Q (F0 m 46 ls [.int (iI (bI (¬ (0 ≤ r9_28 ∧ r9_28 < NF 0)))), .ref (am 0)]) := by
      intro  H locs ls  hl hG
      refine g_iconst S dX9_parseShot_46 ?_
      refine g_invVv (As := [.int (iI (bI (¬ (0 ≤ r9_28 ∧ r9_28 < NF 0)))), .int (iI 4)]) (rest := []) (gs' := (fun u : Int × Int => [gMdl K am th rw lg mr en pw sl ly dn iz tz nx2_21 st2_21 tk2_21 vl2_21 u.1 u.2 hO hB ol rm oz, gArr K 95 rw NF, gArrB K 400 (am 10) IF])) S C hG [0] (c_X9_errsIf l K am th rw lg mr en pw sl ly dn iz tz nx2_21 st2_21 tk2_21 vl2_21 ef2_28 ep2_28 hO hB ol rm oz IF (nhF IF tz 0 9 (sh2 IF NF tz tp)) (bI (¬ (0 ≤ r9_28 ∧ r9_28 < NF 0))) 4 hM2_28 (by decide) (bI_01 _)) rfl rfl 0 rfl rfl (cwV 2 S.2.2.2.2 gX9_parseShot_X9_errsIf rfl rfl rfl (by decide +kernel) ⟨Nat.le_of_ble_eq_true rfl, Nat.le_of_ble_eq_true rfl⟩) rfl hl.1 rfl (Nat.le_of_ble_eq_true rfl) dX9_parseShot_47 ⟨Nat.le_of_ble_eq_true rfl, Nat.le_of_ble_eq_true rfl⟩ (fun _ => Nat.le_of_ble_eq_true rfl) (fun _ => rfl) (fun u H locs hp hG => ?_)
      obtain ⟨ef2_47, ep2_47⟩ := u
      have hM2_47 := hp
      have hM2_47 : MSt IF tz (pb (nhF IF tz 0 9 (sh2 IF NF tz tp)) fun i => if (bI (¬ (0 ≤ r9_28 ∧ r9_28 < NF 0))) = 1 then fl IF tz i 4 else .inr i) nx2_21 st2_21 tk2_21 vl2_21 ef2_47 ep2_47 := hM2_47
      have hG : gW K A s.heap [gMdl K am th rw lg mr en pw sl ly dn iz tz nx2_21 st2_21 tk2_21 vl2_21 ef2_47 ep2_47 hO hB ol rm oz, gArr K 95 rw NF, gArrB K 400 (am 10) IF] _ _ := hG
      refine lv_aload_n S.1 S.2.1 dX9_parseShot_50 rfl (lv_at hl 0 rfl) ?_
      refine g_invVv (As := []) (rest := []) (gs' := (fun u : Int × Int × Int × Int => [gMdl K am th rw lg mr en pw sl ly dn iz tz u.1 u.2.1 u.2.2.1 u.2.2.2 ef2_47 ep2_47 hO hB ol rm oz, gArr K 95 rw NF, gArrB K 400 (am 10) IF])) S C hG [0, 2] (c_X9_goOn l K am th rw lg mr en pw sl ly dn iz tz nx2_21 st2_21 tk2_21 vl2_21 ef2_47 ep2_47 hO hB ol rm oz IF (ifF IF tz (bI (¬ (0 ≤ r9_28 ∧ r9_28 < NF 0))) 4 (nhF IF tz 0 9 (sh2 IF NF tz tp))) htz hM2_47) rfl rfl 0 rfl rfl (cwV 0 S.2.2.2.2 gX9_parseShot_X9_goOn rfl rfl rfl (by decide +kernel) ⟨Nat.le_of_ble_eq_true rfl, Nat.le_of_ble_eq_true rfl⟩) rfl hl.1 rfl (Nat.le_of_ble_eq_true rfl) dX9_parseShot_51 ⟨Nat.le_of_ble_eq_true rfl, Nat.le_of_ble_eq_true rfl⟩ (fun _ => Nat.le_of_ble_eq_true rfl) (fun _ => rfl) (fun u H locs hp hG => ?_)
      obtain ⟨nx2_51, st2_51, tk2_51, vl2_51⟩ := u
      have hM2_51 := hp
      have hM2_51 : MSt IF tz (pb (ifF IF tz (bI (¬ (0 ≤ r9_28 ∧ r9_28 < NF 0))) 4 (nhF IF tz 0 9 (sh2 IF NF tz tp))) fun i => .inr (tkE IF tz i)) nx2_51 st2_51 tk2_51 vl2_51 ef2_47 ep2_47 := hM2_51
      have hG : gW K A s.heap [gMdl K am th rw lg mr en pw sl ly dn iz tz nx2_51 st2_51 tk2_51 vl2_51 ef2_47 ep2_47 hO hB ol rm oz, gArr K 95 rw NF, gArrB K 400 (am 10) IF] _ _ := hG
      refine lv_aload_n S.1 S.2.1 dX9_parseShot_54 rfl (lv_at hl 0 rfl) ?_
      refine g_ldcSW (q := K.2.2.2.1 8) S.1 S.2.1 S.2.2.2.1 (C.1.2.2.1 (RX9, 292, "down", 8) sw_38) dX9_parseShot_55 ?_
      refine g_invV (As := [.ref (K.2.2.2.1 8)]) (rest := []) (gs' := (fun u : Unit => [gMdl K am th rw lg mr en pw sl ly dn iz tz nx2_51 st2_51 tk2_51 vl2_51 ef2_47 ep2_47 hO hB ol rm oz, gArr K 95 rw NF, gArrB K 400 (am 10) IF])) S C hG [0, 2] (c_X9_isWord l K am th rw lg mr en pw sl ly dn iz tz nx2_51 st2_51 tk2_51 vl2_51 ef2_47 ep2_47 hO hB ol rm oz IF (sh5 IF NF tz tp r9_28) 8 wDown htz hM2_51 tx_down (by decide)) rfl rfl 0 rfl rfl (cwV 1 S.2.2.2.2 gX9_parseShot_X9_isWord rfl rfl rfl (by decide +kernel) ⟨Nat.le_of_ble_eq_true rfl, Nat.le_of_ble_eq_true rfl⟩) rfl hl.1 rfl (Nat.le_of_ble_eq_true rfl) dX9_parseShot_58 ⟨Nat.le_of_ble_eq_true rfl, Nat.le_of_ble_eq_true rfl⟩ (fun _ => Nat.le_of_ble_eq_true rfl) (fun _ => rfl) (fun v u H locs hp hG => ?_)
      subst hp
      refine lv_istore_n (lv' := [(2, .int (iI (bI (wdX IF tz (sh5 IF NF tz tp r9_28) wDown = true)))), (0, .ref (am 0)), (1, .int (iI r9_28))]) S.1 S.2.1 dX9_parseShot_61 rfl hl (by decide) rfl (fun ls hl => ?_)
      refine lv_aload_n S.1 S.2.1 dX9_parseShot_62 rfl (lv_at hl 1 rfl) ?_
      refine lv_iload_n S.1 S.2.1 dX9_parseShot_63 rfl (lv_at hl 0 rfl) ?_
      have J82 : ∀ (H : Heap) (locs : List Loc) (ls : Array Slot), lv_has ls 4 [(0, .ref (am 0)), (1, .int (iI r9_28)), (2, .int (iI (bI (wdX IF tz (sh5 IF NF tz tp r9_28) wDown = true))))] → gW K A s.heap [gMdl K am th rw lg mr en pw sl ly dn iz tz nx2_51 st2_51 tk2_51 vl2_51 ef2_47 ep2_47 hO hB ol rm oz, gArr K 95 rw NF, gArrB K 400 (am 10) IF] H locs → W p l e { frames := 5, cells := 0, slots := 0, locals := 108 } s m ([.ref (am 0)] : List Value).toArray below meth c H locs 0 0 Q (F0 m 82 ls [.int (iI (bI (¬ wdX IF tz (sh5 IF NF tz tp r9_28) wDown = true ∧ ¬ wdX IF tz (sh5 IF NF tz tp r9_28) wUp = true))), .ref (am 0)]) := by
        intro  H locs ls  hl hG
        refine g_iconst S dX9_parseShot_82 ?_
        refine g_invVv (As := [.int (iI (bI (¬ wdX IF tz (sh5 IF NF tz tp r9_28) wDown = true ∧ ¬ wdX IF tz (sh5 IF NF tz tp r9_28) wUp = true))), .int (iI 1)]) (rest := []) (gs' := (fun u : Int × Int => [gMdl K am th rw lg mr en pw sl ly dn iz tz nx2_51 st2_51 tk2_51 vl2_51 u.1 u.2 hO hB ol rm oz, gArr K 95 rw NF, gArrB K 400 (am 10) IF])) S C hG [0] (c_X9_errsIf l K am th rw lg mr en pw sl ly dn iz tz nx2_51 st2_51 tk2_51 vl2_51 ef2_47 ep2_47 hO hB ol rm oz IF (sh5 IF NF tz tp r9_28) (bI (¬ wdX IF tz (sh5 IF NF tz tp r9_28) wDown = true ∧ ¬ wdX IF tz (sh5 IF NF tz tp r9_28) wUp = true)) 1 hM2_51 (by decide) (bI_01 _)) rfl rfl 0 rfl rfl (cwV 2 S.2.2.2.2 gX9_parseShot_X9_errsIf rfl rfl rfl (by decide +kernel) ⟨Nat.le_of_ble_eq_true rfl, Nat.le_of_ble_eq_true rfl⟩) rfl hl.1 rfl (Nat.le_of_ble_eq_true rfl) dX9_parseShot_83 ⟨Nat.le_of_ble_eq_true rfl, Nat.le_of_ble_eq_true rfl⟩ (fun _ => Nat.le_of_ble_eq_true rfl) (fun _ => rfl) (fun u H locs hp hG => ?_)
        obtain ⟨ef2_83, ep2_83⟩ := u
        have hM2_83 := hp
        have hM2_83 : MSt IF tz (pb (sh5 IF NF tz tp r9_28) fun i => if (bI (¬ wdX IF tz (sh5 IF NF tz tp r9_28) wDown = true ∧ ¬ wdX IF tz (sh5 IF NF tz tp r9_28) wUp = true)) = 1 then fl IF tz i 1 else .inr i) nx2_51 st2_51 tk2_51 vl2_51 ef2_83 ep2_83 := hM2_83
        have hG : gW K A s.heap [gMdl K am th rw lg mr en pw sl ly dn iz tz nx2_51 st2_51 tk2_51 vl2_51 ef2_83 ep2_83 hO hB ol rm oz, gArr K 95 rw NF, gArrB K 400 (am 10) IF] _ _ := hG
        refine lv_aload_n S.1 S.2.1 dX9_parseShot_86 rfl (lv_at hl 0 rfl) ?_
        refine g_invVv (As := []) (rest := []) (gs' := (fun u : Int × Int × Int × Int => [gMdl K am th rw lg mr en pw sl ly dn iz tz u.1 u.2.1 u.2.2.1 u.2.2.2 ef2_83 ep2_83 hO hB ol rm oz, gArr K 95 rw NF, gArrB K 400 (am 10) IF])) S C hG [0, 2] (c_X9_goOn l K am th rw lg mr en pw sl ly dn iz tz nx2_51 st2_51 tk2_51 vl2_51 ef2_83 ep2_83 hO hB ol rm oz IF (ifF IF tz (bI (¬ wdX IF tz (sh5 IF NF tz tp r9_28) wDown = true ∧ ¬ wdX IF tz (sh5 IF NF tz tp r9_28) wUp = true)) 1 (sh5 IF NF tz tp r9_28)) htz hM2_83) rfl rfl 0 rfl rfl (cwV 0 S.2.2.2.2 gX9_parseShot_X9_goOn rfl rfl rfl (by decide +kernel) ⟨Nat.le_of_ble_eq_true rfl, Nat.le_of_ble_eq_true rfl⟩) rfl hl.1 rfl (Nat.le_of_ble_eq_true rfl) dX9_parseShot_87 ⟨Nat.le_of_ble_eq_true rfl, Nat.le_of_ble_eq_true rfl⟩ (fun _ => Nat.le_of_ble_eq_true rfl) (fun _ => rfl) (fun u H locs hp hG => ?_)
        obtain ⟨nx2_87, st2_87, tk2_87, vl2_87⟩ := u
        have hM2_87 := hp
        have hM2_87 : MSt IF tz (pb (ifF IF tz (bI (¬ wdX IF tz (sh5 IF NF tz tp r9_28) wDown = true ∧ ¬ wdX IF tz (sh5 IF NF tz tp r9_28) wUp = true)) 1 (sh5 IF NF tz tp r9_28)) fun i => .inr (tkE IF tz i)) nx2_87 st2_87 tk2_87 vl2_87 ef2_83 ep2_83 := hM2_87
        have hG : gW K A s.heap [gMdl K am th rw lg mr en pw sl ly dn iz tz nx2_87 st2_87 tk2_87 vl2_87 ef2_83 ep2_83 hO hB ol rm oz, gArr K 95 rw NF, gArrB K 400 (am 10) IF] _ _ := hG
        refine lv_aload_n S.1 S.2.1 dX9_parseShot_90 rfl (lv_at hl 0 rfl) ?_
        refine g_iconst S dX9_parseShot_91 ?_
        refine g_sipush S dX9_parseShot_92 (by decide) ?_
        refine g_invV (As := [.int (iI 0), .int (iI 3999)]) (rest := []) (gs' := (fun u : Int × Int × Int => [gMdl K am th rw lg mr en pw sl ly dn iz tz nx2_87 st2_87 tk2_87 vl2_87 u.2.1 u.2.2 hO hB ol rm oz, gArr K 95 rw NF, gArrB K 400 (am 10) IF])) S C hG [0] (c_X9_numberHere l K am th rw lg mr en pw sl ly dn iz tz nx2_87 st2_87 tk2_87 vl2_87 ef2_83 ep2_83 hO hB ol rm oz IF (sh7 IF NF tz tp r9_28) 0 3999 htz hM2_87 (by decide) (by decide)) rfl rfl 0 rfl rfl (cwV 2 S.2.2.2.2 gX9_parseShot_X9_numberHere rfl rfl rfl (by decide +kernel) ⟨Nat.le_of_ble_eq_true rfl, Nat.le_of_ble_eq_true rfl⟩) rfl hl.1 rfl (Nat.le_of_ble_eq_true rfl) dX9_parseShot_95 ⟨Nat.le_of_ble_eq_true rfl, Nat.le_of_ble_eq_true rfl⟩ (fun _ => Nat.le_of_ble_eq_true rfl) (fun _ => rfl) (fun v u H locs hp hG => ?_)
        obtain ⟨r9_95, ef2_95, ep2_95⟩ := u
        obtain ⟨rfl, hM2_95, hr_95⟩ := hp
        have hM2_95 : MSt IF tz (pb (sh7 IF NF tz tp r9_28) fun i => pb (numE IF tz i 0 3999) fun _ => .inr i) nx2_87 st2_87 tk2_87 vl2_87 ef2_95 ep2_95 := hM2_95
        have hr_95 : (0 ≤ r9_95 ∧ r9_95 ≤ 3999) ∧ ∀ i, (sh7 IF NF tz tp r9_28) = .inr i → okE (numE IF tz i 0 3999) → r9_95 = tkV IF tz i := hr_95
        have hG : gW K A s.heap [gMdl K am th rw lg mr en pw sl ly dn iz tz nx2_87 st2_87 tk2_87 vl2_87 ef2_95 ep2_95 hO hB ol rm oz, gArr K 95 rw NF, gArrB K 400 (am 10) IF] _ _ := hG
        have xr8 := hM2_95.rg
        refine lv_istore_n (lv' := [(3, .int (iI r9_95)), (0, .ref (am 0)), (1, .int (iI r9_28)), (2, .int (iI (bI (wdX IF tz (sh5 IF NF tz tp r9_28) wDown = true))))]) S.1 S.2.1 dX9_parseShot_98 rfl hl (by decide) rfl (fun ls hl => ?_)
        refine lv_aload_n S.1 S.2.1 dX9_parseShot_99 rfl (lv_at hl 1 rfl) ?_
        refine lv_aload_n S.1 S.2.1 dX9_parseShot_100 rfl (lv_at hl 1 rfl) ?_
        refine g_invV (As := []) (rest := [.ref (am 0)]) (gs' := (fun u : Unit => [gMdl K am th rw lg mr en pw sl ly dn iz tz nx2_87 st2_87 tk2_87 vl2_87 ef2_95 ep2_95 hO hB ol rm oz, gArr K 95 rw NF, gArrB K 400 (am 10) IF])) S C hG [0] (c_X9_good l K am th rw lg mr en pw sl ly dn iz tz nx2_87 st2_87 tk2_87 vl2_87 ef2_95 ep2_95 hO hB ol rm oz (by omega)) rfl rfl 0 rfl rfl (cwV 0 S.2.2.2.2 gX9_parseShot_X9_good rfl rfl rfl (by decide +kernel) ⟨Nat.le_of_ble_eq_true rfl, Nat.le_of_ble_eq_true rfl⟩) rfl hl.1 rfl (Nat.le_of_ble_eq_true rfl) dX9_parseShot_101 ⟨Nat.le_of_ble_eq_true rfl, Nat.le_of_ble_eq_true rfl⟩ (fun _ => Nat.le_of_ble_eq_true rfl) (fun _ => rfl) (fun v u H locs hp hG => ?_)
        subst hp
        refine g_ifeq_b (B := (ef2_95 = 0)) (tgt := 121) S dX9_parseShot_104 (by decide) (fun q104 => ?_) (fun q104 => ?_)
        · skip
          refine g_iconst S dX9_parseShot_121 ?_
          refine g_iconst S dX9_parseShot_122 ?_
          refine g_invVv (As := [.int (iI 0), .int (iI 5)]) (rest := []) (gs' := (fun u : Int × Int => [gMdl K am th rw lg mr en pw sl ly dn iz tz nx2_87 st2_87 tk2_87 vl2_87 u.1 u.2 hO hB ol rm oz, gArr K 95 rw NF, gArrB K 400 (am 10) IF])) S C hG [0] (c_X9_errsIf l K am th rw lg mr en pw sl ly dn iz tz nx2_87 st2_87 tk2_87 vl2_87 ef2_95 ep2_95 hO hB ol rm oz IF (nhF IF tz 0 3999 (sh7 IF NF tz tp r9_28)) 0 5 hM2_95 (by decide) (by decide)) rfl rfl 0 rfl rfl (cwV 2 S.2.2.2.2 gX9_parseShot_X9_errsIf rfl rfl rfl (by decide +kernel) ⟨Nat.le_of_ble_eq_true rfl, Nat.le_of_ble_eq_true rfl⟩) rfl hl.1 rfl (Nat.le_of_ble_eq_true rfl) dX9_parseShot_123 ⟨Nat.le_of_ble_eq_true rfl, Nat.le_of_ble_eq_true rfl⟩ (fun _ => Nat.le_of_ble_eq_true rfl) (fun _ => rfl) (fun u H locs hp hG => ?_)
          obtain ⟨ef2_123, ep2_123⟩ := u
          have hM2_123 := hp
          have hM2_123 : MSt IF tz (pb (nhF IF tz 0 3999 (sh7 IF NF tz tp r9_28)) fun i => if 0 = 1 then fl IF tz i 5 else .inr i) nx2_87 st2_87 tk2_87 vl2_87 ef2_123 ep2_123 := hM2_123
          have hG : gW K A s.heap [gMdl K am th rw lg mr en pw sl ly dn iz tz nx2_87 st2_87 tk2_87 vl2_87 ef2_123 ep2_123 hO hB ol rm oz, gArr K 95 rw NF, gArrB K 400 (am 10) IF] _ _ := hG
          have hM9 : MSt IF tz (sh9 IF NF tz tp r9_28 r9_95) nx2_87 st2_87 tk2_87 vl2_87 ef2_123 ep2_123 := hM2_95.swap q104 hM2_123
          refine lv_aload_n S.1 S.2.1 dX9_parseShot_126 rfl (lv_at hl 1 rfl) ?_
          refine g_invVv (As := []) (rest := []) (gs' := (fun u : Int × Int × Int × Int => [gMdl K am th rw lg mr en pw sl ly dn iz tz u.1 u.2.1 u.2.2.1 u.2.2.2 ef2_123 ep2_123 hO hB ol rm oz, gArr K 95 rw NF, gArrB K 400 (am 10) IF])) S C hG [0, 2] (c_X9_goOn l K am th rw lg mr en pw sl ly dn iz tz nx2_87 st2_87 tk2_87 vl2_87 ef2_123 ep2_123 hO hB ol rm oz IF (sh9 IF NF tz tp r9_28 r9_95) htz hM9) rfl rfl 0 rfl rfl (cwV 0 S.2.2.2.2 gX9_parseShot_X9_goOn rfl rfl rfl (by decide +kernel) ⟨Nat.le_of_ble_eq_true rfl, Nat.le_of_ble_eq_true rfl⟩) rfl hl.1 rfl (Nat.le_of_ble_eq_true rfl) dX9_parseShot_127 ⟨Nat.le_of_ble_eq_true rfl, Nat.le_of_ble_eq_true rfl⟩ (fun _ => Nat.le_of_ble_eq_true rfl) (fun _ => rfl) (fun u H locs hp hG => ?_)
          obtain ⟨nx2_127, st2_127, tk2_127, vl2_127⟩ := u
          have hM2_127 := hp
          have hM2_127 : MSt IF tz (pb (sh9 IF NF tz tp r9_28 r9_95) fun i => .inr (tkE IF tz i)) nx2_127 st2_127 tk2_127 vl2_127 ef2_123 ep2_123 := hM2_127
          have hG : gW K A s.heap [gMdl K am th rw lg mr en pw sl ly dn iz tz nx2_127 st2_127 tk2_127 vl2_127 ef2_123 ep2_123 hO hB ol rm oz, gArr K 95 rw NF, gArrB K 400 (am 10) IF] _ _ := hG
          refine lv_aload_n S.1 S.2.1 dX9_parseShot_130 rfl (lv_at hl 1 rfl) ?_
          refine g_invVv (As := []) (rest := []) (gs' := (fun u : Int × Int × Int × Int × Int × Int => [gMdl K am th rw lg mr en pw sl ly dn iz tz u.1 u.2.1 u.2.2.1 u.2.2.2.1 u.2.2.2.2.1 u.2.2.2.2.2 hO hB ol rm oz, gArr K 95 rw NF, gArrB K 400 (am 10) IF])) S C hG [0, 2] (c_X9_semicolon l K am th rw lg mr en pw sl ly dn iz tz nx2_127 st2_127 tk2_127 vl2_127 ef2_123 ep2_123 hO hB ol rm oz IF (goF IF tz (sh9 IF NF tz tp r9_28 r9_95)) htz hM2_127) rfl rfl 0 rfl rfl (cwV 0 S.2.2.2.2 gX9_parseShot_X9_semicolon rfl rfl rfl (by decide +kernel) ⟨Nat.le_of_ble_eq_true rfl, Nat.le_of_ble_eq_true rfl⟩) rfl hl.1 rfl (Nat.le_of_ble_eq_true rfl) dX9_parseShot_131 ⟨Nat.le_of_ble_eq_true rfl, Nat.le_of_ble_eq_true rfl⟩ (fun _ => Nat.le_of_ble_eq_true rfl) (fun _ => rfl) (fun u H locs hp hG => ?_)
          obtain ⟨nx2_131, st2_131, tk2_131, vl2_131, ef2_131, ep2_131⟩ := u
          have hM2_131 := hp
          have hM2_131 : MSt IF tz (pb (goF IF tz (sh9 IF NF tz tp r9_28 r9_95)) fun i => pb (smE IF tz i) fun _ => .inr (tkE IF tz i)) nx2_131 st2_131 tk2_131 vl2_131 ef2_131 ep2_131 := hM2_131
          have hG : gW K A s.heap [gMdl K am th rw lg mr en pw sl ly dn iz tz nx2_131 st2_131 tk2_131 vl2_131 ef2_131 ep2_131 hO hB ol rm oz, gArr K 95 rw NF, gArrB K 400 (am 10) IF] _ _ := hG
          have hQ9 := sho_eq (ho := hO) (hb := hB) hN hr_28.2 hr_95.2
          have hMa : MSt IF tz (pb (shoE IF tz tp NF hO hB) fun t => .inr t.1) nx2_131 st2_131 tk2_131 vl2_131 ef2_131 ep2_131 := by (have z : MSt IF tz (smF IF tz (goF IF tz (sh9 IF NF tz tp r9_28 r9_95))) _ _ _ _ _ _ := hM2_131 <;> rw [hQ9.1] at z <;> exact z)
          have xr9 := hMa.rg
          refine lv_aload_n S.1 S.2.1 dX9_parseShot_134 rfl (lv_at hl 1 rfl) ?_
          refine g_invV (As := []) (rest := []) (gs' := (fun u : Unit => [gMdl K am th rw lg mr en pw sl ly dn iz tz nx2_131 st2_131 tk2_131 vl2_131 ef2_131 ep2_131 hO hB ol rm oz, gArr K 95 rw NF, gArrB K 400 (am 10) IF])) S C hG [0] (c_X9_good l K am th rw lg mr en pw sl ly dn iz tz nx2_131 st2_131 tk2_131 vl2_131 ef2_131 ep2_131 hO hB ol rm oz (by omega)) rfl rfl 0 rfl rfl (cwV 0 S.2.2.2.2 gX9_parseShot_X9_good rfl rfl rfl (by decide +kernel) ⟨Nat.le_of_ble_eq_true rfl, Nat.le_of_ble_eq_true rfl⟩) rfl hl.1 rfl (Nat.le_of_ble_eq_true rfl) dX9_parseShot_135 ⟨Nat.le_of_ble_eq_true rfl, Nat.le_of_ble_eq_true rfl⟩ (fun _ => Nat.le_of_ble_eq_true rfl) (fun _ => rfl) (fun v u H locs hp hG => ?_)
          subst hp
          refine g_ifeq_b (B := (ef2_131 = 0)) (tgt := 148) S dX9_parseShot_138 (by decide) (fun q138 => ?_) (fun q138 => ?_)
          · skip
            have hG : gW K A s.heap [gMdl K am th rw lg mr en pw sl ly dn iz tz nx2_131 st2_131 tk2_131 vl2_131 ef2_131 ep2_131 hO hB ol rm oz, gArr K 95 rw NF, gArrB K 400 (am 10) IF] _ _ := hG
            exact g_vret S hr hlk hQ dX9_parseShot_148 (Nat.le_of_ble_eq_true rfl) (Nat.le_of_ble_eq_true rfl) ((nx2_131, st2_131, tk2_131, vl2_131, ef2_131, ep2_131, NF) : Int × Int × Int × Int × Int × Int × (Int → Int)) ⟨hMa, (hMa.noS q138 _ _ _)⟩ hG
          · skip
            refine lv_aload_n S.1 S.2.1 dX9_parseShot_141 rfl (lv_at hl 1 rfl) ?_
            refine lv_iload_n S.1 S.2.1 dX9_parseShot_142 rfl (lv_at hl 2 rfl) ?_
            refine lv_iload_n S.1 S.2.1 dX9_parseShot_143 rfl (lv_at hl 3 rfl) ?_
            refine lv_iload_n S.1 S.2.1 dX9_parseShot_144 rfl (lv_at hl 0 rfl) ?_
            refine g_invVv (As := [.int (iI r9_28), .int (iI (bI (wdX IF tz (sh5 IF NF tz tp r9_28) wDown = true))), .int (iI r9_95)]) (rest := []) (gs' := (fun u : (Int → Int) => [gMdl K am th rw lg mr en pw sl ly dn iz tz nx2_131 st2_131 tk2_131 vl2_131 ef2_131 ep2_131 hO hB ol rm oz, gArr K 95 rw u, gArrB K 400 (am 10) IF])) S C hG [0, 1] (c_X9_addShot l K am th rw lg mr en pw sl ly dn iz tz nx2_131 st2_131 tk2_131 vl2_131 ef2_131 ep2_131 hO hB ol rm oz NF r9_28 (bI (wdX IF tz (sh5 IF NF tz tp r9_28) wDown = true)) r9_95 (by obtain ⟨t9, ht9⟩ := hMa.okS q138 <;> have z := (hQ9.2 t9 ht9).1 <;> omega) (bI_01 _)) rfl rfl 0 rfl rfl (cwV 3 S.2.2.2.2 gX9_parseShot_X9_addShot rfl rfl rfl (by decide +kernel) ⟨Nat.le_of_ble_eq_true rfl, Nat.le_of_ble_eq_true rfl⟩) rfl hl.1 rfl (Nat.le_of_ble_eq_true rfl) dX9_parseShot_145 ⟨Nat.le_of_ble_eq_true rfl, Nat.le_of_ble_eq_true rfl⟩ (fun _ => Nat.le_of_ble_eq_true rfl) (fun _ => rfl) (fun u H locs hp hG => ?_)
            obtain ⟨F2_145, rfl⟩ : ∃ z, z = u := ⟨_, rfl⟩
            have hF_145 := hp
            have hF_145 : F2_145 = addSN NF r9_28 (bI (wdX IF tz (sh5 IF NF tz tp r9_28) wDown = true)) r9_95 := hF_145
            have hG : gW K A s.heap [gMdl K am th rw lg mr en pw sl ly dn iz tz nx2_131 st2_131 tk2_131 vl2_131 ef2_131 ep2_131 hO hB ol rm oz, gArr K 95 rw F2_145, gArrB K 400 (am 10) IF] _ _ := hG
            have hG : gW K A s.heap [gMdl K am th rw lg mr en pw sl ly dn iz tz nx2_131 st2_131 tk2_131 vl2_131 ef2_131 ep2_131 hO hB ol rm oz, gArr K 95 rw F2_145, gArrB K 400 (am 10) IF] _ _ := hG
            exact g_vret S hr hlk hQ dX9_parseShot_148 (Nat.le_of_ble_eq_true rfl) (Nat.le_of_ble_eq_true rfl) ((nx2_131, st2_131, tk2_131, vl2_131, ef2_131, ep2_131, F2_145) : Int × Int × Int × Int × Int × Int × (Int → Int)) ⟨hMa, (fun t ht => by rw [show _ = _ from hF_145] <;> exact (hQ9.2 t ht).2)⟩ hG
        · skip
          obtain ⟨j9, hj9, _, _, _⟩ := hM2_95.good q104
          have yb9 := sh8_y hj9
          have lb9 := lay_bd hN yb9.1 yb9.2
          have lb8 : 1000 ≤ NF (5 + 3 * r9_28 + 0) ∧ NF (5 + 3 * r9_28 + 0) ≤ 4000 := lb9.1
          refine lv_iload_n S.1 S.2.1 dX9_parseShot_107 rfl (lv_at hl 0 rfl) ?_
          refine lv_aload_n S.1 S.2.1 dX9_parseShot_108 rfl (lv_at hl 1 rfl) ?_
          refine lv_iload_n S.1 S.2.1 dX9_parseShot_109 rfl (lv_at hl 2 rfl) ?_
          refine g_iconst S dX9_parseShot_110 ?_
          refine g_invV (As := [.int (iI r9_28), .int (iI 0)]) (rest := [.int (iI r9_95), .ref (am 0)]) (gs' := (fun u : Unit => [gMdl K am th rw lg mr en pw sl ly dn iz tz nx2_87 st2_87 tk2_87 vl2_87 ef2_95 ep2_95 hO hB ol rm oz, gArr K 95 rw NF, gArrB K 400 (am 10) IF])) S C hG [0, 1] (c_X9_ofLayer l K am th rw lg mr en pw sl ly dn iz tz nx2_87 st2_87 tk2_87 vl2_87 ef2_95 ep2_95 hO hB ol rm oz NF r9_28 0 (by omega) (by decide)) rfl rfl 0 rfl rfl (cwV 2 S.2.2.2.2 gX9_parseShot_X9_ofLayer rfl rfl rfl (by decide +kernel) ⟨Nat.le_of_ble_eq_true rfl, Nat.le_of_ble_eq_true rfl⟩) rfl hl.1 rfl (Nat.le_of_ble_eq_true rfl) dX9_parseShot_111 ⟨Nat.le_of_ble_eq_true rfl, Nat.le_of_ble_eq_true rfl⟩ (fun _ => Nat.le_of_ble_eq_true rfl) (fun _ => rfl) (fun v u H locs hp hG => ?_)
          subst hp
          refine g_icmp_lt (tgt := 121) S dX9_parseShot_114 (by decide) (by omega) (by omega) (fun q114 => ?_) (fun q114 => ?_)
          · skip
            refine g_iconst S dX9_parseShot_121 ?_
            refine g_top (w := .int (iI (bI (NF (5 + 3 * r9_28 + 0) ≤ r9_95)))) (congrArg (fun z : Int => Value.int (iI z)) ((bI_f (by omega)).symm)) ?_
            refine g_iconst S dX9_parseShot_122 ?_
            refine g_invVv (As := [.int (iI (bI (NF (5 + 3 * r9_28 + 0) ≤ r9_95))), .int (iI 5)]) (rest := []) (gs' := (fun u : Int × Int => [gMdl K am th rw lg mr en pw sl ly dn iz tz nx2_87 st2_87 tk2_87 vl2_87 u.1 u.2 hO hB ol rm oz, gArr K 95 rw NF, gArrB K 400 (am 10) IF])) S C hG [0] (c_X9_errsIf l K am th rw lg mr en pw sl ly dn iz tz nx2_87 st2_87 tk2_87 vl2_87 ef2_95 ep2_95 hO hB ol rm oz IF (nhF IF tz 0 3999 (sh7 IF NF tz tp r9_28)) (bI (NF (5 + 3 * r9_28 + 0) ≤ r9_95)) 5 hM2_95 (by decide) (bI_01 _)) rfl rfl 0 rfl rfl (cwV 2 S.2.2.2.2 gX9_parseShot_X9_errsIf rfl rfl rfl (by decide +kernel) ⟨Nat.le_of_ble_eq_true rfl, Nat.le_of_ble_eq_true rfl⟩) rfl hl.1 rfl (Nat.le_of_ble_eq_true rfl) dX9_parseShot_123 ⟨Nat.le_of_ble_eq_true rfl, Nat.le_of_ble_eq_true rfl⟩ (fun _ => Nat.le_of_ble_eq_true rfl) (fun _ => rfl) (fun u H locs hp hG => ?_)
            obtain ⟨ef2_123, ep2_123⟩ := u
            have hM2_123 := hp
            have hM2_123 : MSt IF tz (pb (nhF IF tz 0 3999 (sh7 IF NF tz tp r9_28)) fun i => if (bI (NF (5 + 3 * r9_28 + 0) ≤ r9_95)) = 1 then fl IF tz i 5 else .inr i) nx2_87 st2_87 tk2_87 vl2_87 ef2_123 ep2_123 := hM2_123
            have hG : gW K A s.heap [gMdl K am th rw lg mr en pw sl ly dn iz tz nx2_87 st2_87 tk2_87 vl2_87 ef2_123 ep2_123 hO hB ol rm oz, gArr K 95 rw NF, gArrB K 400 (am 10) IF] _ _ := hG
            have hM9 : MSt IF tz (sh9 IF NF tz tp r9_28 r9_95) nx2_87 st2_87 tk2_87 vl2_87 ef2_123 ep2_123 := hM2_123
            refine lv_aload_n S.1 S.2.1 dX9_parseShot_126 rfl (lv_at hl 1 rfl) ?_
            refine g_invVv (As := []) (rest := []) (gs' := (fun u : Int × Int × Int × Int => [gMdl K am th rw lg mr en pw sl ly dn iz tz u.1 u.2.1 u.2.2.1 u.2.2.2 ef2_123 ep2_123 hO hB ol rm oz, gArr K 95 rw NF, gArrB K 400 (am 10) IF])) S C hG [0, 2] (c_X9_goOn l K am th rw lg mr en pw sl ly dn iz tz nx2_87 st2_87 tk2_87 vl2_87 ef2_123 ep2_123 hO hB ol rm oz IF (sh9 IF NF tz tp r9_28 r9_95) htz hM9) rfl rfl 0 rfl rfl (cwV 0 S.2.2.2.2 gX9_parseShot_X9_goOn rfl rfl rfl (by decide +kernel) ⟨Nat.le_of_ble_eq_true rfl, Nat.le_of_ble_eq_true rfl⟩) rfl hl.1 rfl (Nat.le_of_ble_eq_true rfl) dX9_parseShot_127 ⟨Nat.le_of_ble_eq_true rfl, Nat.le_of_ble_eq_true rfl⟩ (fun _ => Nat.le_of_ble_eq_true rfl) (fun _ => rfl) (fun u H locs hp hG => ?_)
            obtain ⟨nx2_127, st2_127, tk2_127, vl2_127⟩ := u
            have hM2_127 := hp
            have hM2_127 : MSt IF tz (pb (sh9 IF NF tz tp r9_28 r9_95) fun i => .inr (tkE IF tz i)) nx2_127 st2_127 tk2_127 vl2_127 ef2_123 ep2_123 := hM2_127
            have hG : gW K A s.heap [gMdl K am th rw lg mr en pw sl ly dn iz tz nx2_127 st2_127 tk2_127 vl2_127 ef2_123 ep2_123 hO hB ol rm oz, gArr K 95 rw NF, gArrB K 400 (am 10) IF] _ _ := hG
            refine lv_aload_n S.1 S.2.1 dX9_parseShot_130 rfl (lv_at hl 1 rfl) ?_
            refine g_invVv (As := []) (rest := []) (gs' := (fun u : Int × Int × Int × Int × Int × Int => [gMdl K am th rw lg mr en pw sl ly dn iz tz u.1 u.2.1 u.2.2.1 u.2.2.2.1 u.2.2.2.2.1 u.2.2.2.2.2 hO hB ol rm oz, gArr K 95 rw NF, gArrB K 400 (am 10) IF])) S C hG [0, 2] (c_X9_semicolon l K am th rw lg mr en pw sl ly dn iz tz nx2_127 st2_127 tk2_127 vl2_127 ef2_123 ep2_123 hO hB ol rm oz IF (goF IF tz (sh9 IF NF tz tp r9_28 r9_95)) htz hM2_127) rfl rfl 0 rfl rfl (cwV 0 S.2.2.2.2 gX9_parseShot_X9_semicolon rfl rfl rfl (by decide +kernel) ⟨Nat.le_of_ble_eq_true rfl, Nat.le_of_ble_eq_true rfl⟩) rfl hl.1 rfl (Nat.le_of_ble_eq_true rfl) dX9_parseShot_131 ⟨Nat.le_of_ble_eq_true rfl, Nat.le_of_ble_eq_true rfl⟩ (fun _ => Nat.le_of_ble_eq_true rfl) (fun _ => rfl) (fun u H locs hp hG => ?_)
            obtain ⟨nx2_131, st2_131, tk2_131, vl2_131, ef2_131, ep2_131⟩ := u
            have hM2_131 := hp
            have hM2_131 : MSt IF tz (pb (goF IF tz (sh9 IF NF tz tp r9_28 r9_95)) fun i => pb (smE IF tz i) fun _ => .inr (tkE IF tz i)) nx2_131 st2_131 tk2_131 vl2_131 ef2_131 ep2_131 := hM2_131
            have hG : gW K A s.heap [gMdl K am th rw lg mr en pw sl ly dn iz tz nx2_131 st2_131 tk2_131 vl2_131 ef2_131 ep2_131 hO hB ol rm oz, gArr K 95 rw NF, gArrB K 400 (am 10) IF] _ _ := hG
            have hQ9 := sho_eq (ho := hO) (hb := hB) hN hr_28.2 hr_95.2
            have hMa : MSt IF tz (pb (shoE IF tz tp NF hO hB) fun t => .inr t.1) nx2_131 st2_131 tk2_131 vl2_131 ef2_131 ep2_131 := by (have z : MSt IF tz (smF IF tz (goF IF tz (sh9 IF NF tz tp r9_28 r9_95))) _ _ _ _ _ _ := hM2_131 <;> rw [hQ9.1] at z <;> exact z)
            have xr9 := hMa.rg
            refine lv_aload_n S.1 S.2.1 dX9_parseShot_134 rfl (lv_at hl 1 rfl) ?_
            refine g_invV (As := []) (rest := []) (gs' := (fun u : Unit => [gMdl K am th rw lg mr en pw sl ly dn iz tz nx2_131 st2_131 tk2_131 vl2_131 ef2_131 ep2_131 hO hB ol rm oz, gArr K 95 rw NF, gArrB K 400 (am 10) IF])) S C hG [0] (c_X9_good l K am th rw lg mr en pw sl ly dn iz tz nx2_131 st2_131 tk2_131 vl2_131 ef2_131 ep2_131 hO hB ol rm oz (by omega)) rfl rfl 0 rfl rfl (cwV 0 S.2.2.2.2 gX9_parseShot_X9_good rfl rfl rfl (by decide +kernel) ⟨Nat.le_of_ble_eq_true rfl, Nat.le_of_ble_eq_true rfl⟩) rfl hl.1 rfl (Nat.le_of_ble_eq_true rfl) dX9_parseShot_135 ⟨Nat.le_of_ble_eq_true rfl, Nat.le_of_ble_eq_true rfl⟩ (fun _ => Nat.le_of_ble_eq_true rfl) (fun _ => rfl) (fun v u H locs hp hG => ?_)
            subst hp
            refine g_ifeq_b (B := (ef2_131 = 0)) (tgt := 148) S dX9_parseShot_138 (by decide) (fun q138 => ?_) (fun q138 => ?_)
            · skip
              have hG : gW K A s.heap [gMdl K am th rw lg mr en pw sl ly dn iz tz nx2_131 st2_131 tk2_131 vl2_131 ef2_131 ep2_131 hO hB ol rm oz, gArr K 95 rw NF, gArrB K 400 (am 10) IF] _ _ := hG
              exact g_vret S hr hlk hQ dX9_parseShot_148 (Nat.le_of_ble_eq_true rfl) (Nat.le_of_ble_eq_true rfl) ((nx2_131, st2_131, tk2_131, vl2_131, ef2_131, ep2_131, NF) : Int × Int × Int × Int × Int × Int × (Int → Int)) ⟨hMa, (hMa.noS q138 _ _ _)⟩ hG
            · skip
              refine lv_aload_n S.1 S.2.1 dX9_parseShot_141 rfl (lv_at hl 1 rfl) ?_
              refine lv_iload_n S.1 S.2.1 dX9_parseShot_142 rfl (lv_at hl 2 rfl) ?_
              refine lv_iload_n S.1 S.2.1 dX9_parseShot_143 rfl (lv_at hl 3 rfl) ?_
              refine lv_iload_n S.1 S.2.1 dX9_parseShot_144 rfl (lv_at hl 0 rfl) ?_
              refine g_invVv (As := [.int (iI r9_28), .int (iI (bI (wdX IF tz (sh5 IF NF tz tp r9_28) wDown = true))), .int (iI r9_95)]) (rest := []) (gs' := (fun u : (Int → Int) => [gMdl K am th rw lg mr en pw sl ly dn iz tz nx2_131 st2_131 tk2_131 vl2_131 ef2_131 ep2_131 hO hB ol rm oz, gArr K 95 rw u, gArrB K 400 (am 10) IF])) S C hG [0, 1] (c_X9_addShot l K am th rw lg mr en pw sl ly dn iz tz nx2_131 st2_131 tk2_131 vl2_131 ef2_131 ep2_131 hO hB ol rm oz NF r9_28 (bI (wdX IF tz (sh5 IF NF tz tp r9_28) wDown = true)) r9_95 (by obtain ⟨t9, ht9⟩ := hMa.okS q138 <;> have z := (hQ9.2 t9 ht9).1 <;> omega) (bI_01 _)) rfl rfl 0 rfl rfl (cwV 3 S.2.2.2.2 gX9_parseShot_X9_addShot rfl rfl rfl (by decide +kernel) ⟨Nat.le_of_ble_eq_true rfl, Nat.le_of_ble_eq_true rfl⟩) rfl hl.1 rfl (Nat.le_of_ble_eq_true rfl) dX9_parseShot_145 ⟨Nat.le_of_ble_eq_true rfl, Nat.le_of_ble_eq_true rfl⟩ (fun _ => Nat.le_of_ble_eq_true rfl) (fun _ => rfl) (fun u H locs hp hG => ?_)
              obtain ⟨F2_145, rfl⟩ : ∃ z, z = u := ⟨_, rfl⟩
              have hF_145 := hp
              have hF_145 : F2_145 = addSN NF r9_28 (bI (wdX IF tz (sh5 IF NF tz tp r9_28) wDown = true)) r9_95 := hF_145
              have hG : gW K A s.heap [gMdl K am th rw lg mr en pw sl ly dn iz tz nx2_131 st2_131 tk2_131 vl2_131 ef2_131 ep2_131 hO hB ol rm oz, gArr K 95 rw F2_145, gArrB K 400 (am 10) IF] _ _ := hG
              have hG : gW K A s.heap [gMdl K am th rw lg mr en pw sl ly dn iz tz nx2_131 st2_131 tk2_131 vl2_131 ef2_131 ep2_131 hO hB ol rm oz, gArr K 95 rw F2_145, gArrB K 400 (am 10) IF] _ _ := hG
              exact g_vret S hr hlk hQ dX9_parseShot_148 (Nat.le_of_ble_eq_true rfl) (Nat.le_of_ble_eq_true rfl) ((nx2_131, st2_131, tk2_131, vl2_131, ef2_131, ep2_131, F2_145) : Int × Int × Int × Int × Int × Int × (Int → Int)) ⟨hMa, (fun t ht => by rw [show _ = _ from hF_145] <;> exact (hQ9.2 t ht).2)⟩ hG
          · skip
            refine g_iconst S dX9_parseShot_117 ?_
            refine g_top (w := .int (iI (bI (NF (5 + 3 * r9_28 + 0) ≤ r9_95)))) (congrArg (fun z : Int => Value.int (iI z)) ((bI_t (by omega)).symm)) ?_
            refine lv_goto (tgt := 122) S.1 S.2.1 dX9_parseShot_118 (by decide) ?_
            refine g_iconst S dX9_parseShot_122 ?_
            refine g_invVv (As := [.int (iI (bI (NF (5 + 3 * r9_28 + 0) ≤ r9_95))), .int (iI 5)]) (rest := []) (gs' := (fun u : Int × Int => [gMdl K am th rw lg mr en pw sl ly dn iz tz nx2_87 st2_87 tk2_87 vl2_87 u.1 u.2 hO hB ol rm oz, gArr K 95 rw NF, gArrB K 400 (am 10) IF])) S C hG [0] (c_X9_errsIf l K am th rw lg mr en pw sl ly dn iz tz nx2_87 st2_87 tk2_87 vl2_87 ef2_95 ep2_95 hO hB ol rm oz IF (nhF IF tz 0 3999 (sh7 IF NF tz tp r9_28)) (bI (NF (5 + 3 * r9_28 + 0) ≤ r9_95)) 5 hM2_95 (by decide) (bI_01 _)) rfl rfl 0 rfl rfl (cwV 2 S.2.2.2.2 gX9_parseShot_X9_errsIf rfl rfl rfl (by decide +kernel) ⟨Nat.le_of_ble_eq_true rfl, Nat.le_of_ble_eq_true rfl⟩) rfl hl.1 rfl (Nat.le_of_ble_eq_true rfl) dX9_parseShot_123 ⟨Nat.le_of_ble_eq_true rfl, Nat.le_of_ble_eq_true rfl⟩ (fun _ => Nat.le_of_ble_eq_true rfl) (fun _ => rfl) (fun u H locs hp hG => ?_)
            obtain ⟨ef2_123, ep2_123⟩ := u
            have hM2_123 := hp
            have hM2_123 : MSt IF tz (pb (nhF IF tz 0 3999 (sh7 IF NF tz tp r9_28)) fun i => if (bI (NF (5 + 3 * r9_28 + 0) ≤ r9_95)) = 1 then fl IF tz i 5 else .inr i) nx2_87 st2_87 tk2_87 vl2_87 ef2_123 ep2_123 := hM2_123
            have hG : gW K A s.heap [gMdl K am th rw lg mr en pw sl ly dn iz tz nx2_87 st2_87 tk2_87 vl2_87 ef2_123 ep2_123 hO hB ol rm oz, gArr K 95 rw NF, gArrB K 400 (am 10) IF] _ _ := hG
            have hM9 : MSt IF tz (sh9 IF NF tz tp r9_28 r9_95) nx2_87 st2_87 tk2_87 vl2_87 ef2_123 ep2_123 := hM2_123
            refine lv_aload_n S.1 S.2.1 dX9_parseShot_126 rfl (lv_at hl 1 rfl) ?_
            refine g_invVv (As := []) (rest := []) (gs' := (fun u : Int × Int × Int × Int => [gMdl K am th rw lg mr en pw sl ly dn iz tz u.1 u.2.1 u.2.2.1 u.2.2.2 ef2_123 ep2_123 hO hB ol rm oz, gArr K 95 rw NF, gArrB K 400 (am 10) IF])) S C hG [0, 2] (c_X9_goOn l K am th rw lg mr en pw sl ly dn iz tz nx2_87 st2_87 tk2_87 vl2_87 ef2_123 ep2_123 hO hB ol rm oz IF (sh9 IF NF tz tp r9_28 r9_95) htz hM9) rfl rfl 0 rfl rfl (cwV 0 S.2.2.2.2 gX9_parseShot_X9_goOn rfl rfl rfl (by decide +kernel) ⟨Nat.le_of_ble_eq_true rfl, Nat.le_of_ble_eq_true rfl⟩) rfl hl.1 rfl (Nat.le_of_ble_eq_true rfl) dX9_parseShot_127 ⟨Nat.le_of_ble_eq_true rfl, Nat.le_of_ble_eq_true rfl⟩ (fun _ => Nat.le_of_ble_eq_true rfl) (fun _ => rfl) (fun u H locs hp hG => ?_)
            obtain ⟨nx2_127, st2_127, tk2_127, vl2_127⟩ := u
            have hM2_127 := hp
            have hM2_127 : MSt IF tz (pb (sh9 IF NF tz tp r9_28 r9_95) fun i => .inr (tkE IF tz i)) nx2_127 st2_127 tk2_127 vl2_127 ef2_123 ep2_123 := hM2_127
            have hG : gW K A s.heap [gMdl K am th rw lg mr en pw sl ly dn iz tz nx2_127 st2_127 tk2_127 vl2_127 ef2_123 ep2_123 hO hB ol rm oz, gArr K 95 rw NF, gArrB K 400 (am 10) IF] _ _ := hG
            refine lv_aload_n S.1 S.2.1 dX9_parseShot_130 rfl (lv_at hl 1 rfl) ?_
            refine g_invVv (As := []) (rest := []) (gs' := (fun u : Int × Int × Int × Int × Int × Int => [gMdl K am th rw lg mr en pw sl ly dn iz tz u.1 u.2.1 u.2.2.1 u.2.2.2.1 u.2.2.2.2.1 u.2.2.2.2.2 hO hB ol rm oz, gArr K 95 rw NF, gArrB K 400 (am 10) IF])) S C hG [0, 2] (c_X9_semicolon l K am th rw lg mr en pw sl ly dn iz tz nx2_127 st2_127 tk2_127 vl2_127 ef2_123 ep2_123 hO hB ol rm oz IF (goF IF tz (sh9 IF NF tz tp r9_28 r9_95)) htz hM2_127) rfl rfl 0 rfl rfl (cwV 0 S.2.2.2.2 gX9_parseShot_X9_semicolon rfl rfl rfl (by decide +kernel) ⟨Nat.le_of_ble_eq_true rfl, Nat.le_of_ble_eq_true rfl⟩) rfl hl.1 rfl (Nat.le_of_ble_eq_true rfl) dX9_parseShot_131 ⟨Nat.le_of_ble_eq_true rfl, Nat.le_of_ble_eq_true rfl⟩ (fun _ => Nat.le_of_ble_eq_true rfl) (fun _ => rfl) (fun u H locs hp hG => ?_)
            obtain ⟨nx2_131, st2_131, tk2_131, vl2_131, ef2_131, ep2_131⟩ := u
            have hM2_131 := hp
            have hM2_131 : MSt IF tz (pb (goF IF tz (sh9 IF NF tz tp r9_28 r9_95)) fun i => pb (smE IF tz i) fun _ => .inr (tkE IF tz i)) nx2_131 st2_131 tk2_131 vl2_131 ef2_131 ep2_131 := hM2_131
            have hG : gW K A s.heap [gMdl K am th rw lg mr en pw sl ly dn iz tz nx2_131 st2_131 tk2_131 vl2_131 ef2_131 ep2_131 hO hB ol rm oz, gArr K 95 rw NF, gArrB K 400 (am 10) IF] _ _ := hG
            have hQ9 := sho_eq (ho := hO) (hb := hB) hN hr_28.2 hr_95.2
            have hMa : MSt IF tz (pb (shoE IF tz tp NF hO hB) fun t => .inr t.1) nx2_131 st2_131 tk2_131 vl2_131 ef2_131 ep2_131 := by (have z : MSt IF tz (smF IF tz (goF IF tz (sh9 IF NF tz tp r9_28 r9_95))) _ _ _ _ _ _ := hM2_131 <;> rw [hQ9.1] at z <;> exact z)
            have xr9 := hMa.rg
            refine lv_aload_n S.1 S.2.1 dX9_parseShot_134 rfl (lv_at hl 1 rfl) ?_
            refine g_invV (As := []) (rest := []) (gs' := (fun u : Unit => [gMdl K am th rw lg mr en pw sl ly dn iz tz nx2_131 st2_131 tk2_131 vl2_131 ef2_131 ep2_131 hO hB ol rm oz, gArr K 95 rw NF, gArrB K 400 (am 10) IF])) S C hG [0] (c_X9_good l K am th rw lg mr en pw sl ly dn iz tz nx2_131 st2_131 tk2_131 vl2_131 ef2_131 ep2_131 hO hB ol rm oz (by omega)) rfl rfl 0 rfl rfl (cwV 0 S.2.2.2.2 gX9_parseShot_X9_good rfl rfl rfl (by decide +kernel) ⟨Nat.le_of_ble_eq_true rfl, Nat.le_of_ble_eq_true rfl⟩) rfl hl.1 rfl (Nat.le_of_ble_eq_true rfl) dX9_parseShot_135 ⟨Nat.le_of_ble_eq_true rfl, Nat.le_of_ble_eq_true rfl⟩ (fun _ => Nat.le_of_ble_eq_true rfl) (fun _ => rfl) (fun v u H locs hp hG => ?_)
            subst hp
            refine g_ifeq_b (B := (ef2_131 = 0)) (tgt := 148) S dX9_parseShot_138 (by decide) (fun q138 => ?_) (fun q138 => ?_)
            · skip
              have hG : gW K A s.heap [gMdl K am th rw lg mr en pw sl ly dn iz tz nx2_131 st2_131 tk2_131 vl2_131 ef2_131 ep2_131 hO hB ol rm oz, gArr K 95 rw NF, gArrB K 400 (am 10) IF] _ _ := hG
              exact g_vret S hr hlk hQ dX9_parseShot_148 (Nat.le_of_ble_eq_true rfl) (Nat.le_of_ble_eq_true rfl) ((nx2_131, st2_131, tk2_131, vl2_131, ef2_131, ep2_131, NF) : Int × Int × Int × Int × Int × Int × (Int → Int)) ⟨hMa, (hMa.noS q138 _ _ _)⟩ hG
            · skip
              refine lv_aload_n S.1 S.2.1 dX9_parseShot_141 rfl (lv_at hl 1 rfl) ?_
              refine lv_iload_n S.1 S.2.1 dX9_parseShot_142 rfl (lv_at hl 2 rfl) ?_
              refine lv_iload_n S.1 S.2.1 dX9_parseShot_143 rfl (lv_at hl 3 rfl) ?_
              refine lv_iload_n S.1 S.2.1 dX9_parseShot_144 rfl (lv_at hl 0 rfl) ?_
              refine g_invVv (As := [.int (iI r9_28), .int (iI (bI (wdX IF tz (sh5 IF NF tz tp r9_28) wDown = true))), .int (iI r9_95)]) (rest := []) (gs' := (fun u : (Int → Int) => [gMdl K am th rw lg mr en pw sl ly dn iz tz nx2_131 st2_131 tk2_131 vl2_131 ef2_131 ep2_131 hO hB ol rm oz, gArr K 95 rw u, gArrB K 400 (am 10) IF])) S C hG [0, 1] (c_X9_addShot l K am th rw lg mr en pw sl ly dn iz tz nx2_131 st2_131 tk2_131 vl2_131 ef2_131 ep2_131 hO hB ol rm oz NF r9_28 (bI (wdX IF tz (sh5 IF NF tz tp r9_28) wDown = true)) r9_95 (by obtain ⟨t9, ht9⟩ := hMa.okS q138 <;> have z := (hQ9.2 t9 ht9).1 <;> omega) (bI_01 _)) rfl rfl 0 rfl rfl (cwV 3 S.2.2.2.2 gX9_parseShot_X9_addShot rfl rfl rfl (by decide +kernel) ⟨Nat.le_of_ble_eq_true rfl, Nat.le_of_ble_eq_true rfl⟩) rfl hl.1 rfl (Nat.le_of_ble_eq_true rfl) dX9_parseShot_145 ⟨Nat.le_of_ble_eq_true rfl, Nat.le_of_ble_eq_true rfl⟩ (fun _ => Nat.le_of_ble_eq_true rfl) (fun _ => rfl) (fun u H locs hp hG => ?_)
              obtain ⟨F2_145, rfl⟩ : ∃ z, z = u := ⟨_, rfl⟩
              have hF_145 := hp
              have hF_145 : F2_145 = addSN NF r9_28 (bI (wdX IF tz (sh5 IF NF tz tp r9_28) wDown = true)) r9_95 := hF_145
              have hG : gW K A s.heap [gMdl K am th rw lg mr en pw sl ly dn iz tz nx2_131 st2_131 tk2_131 vl2_131 ef2_131 ep2_131 hO hB ol rm oz, gArr K 95 rw F2_145, gArrB K 400 (am 10) IF] _ _ := hG
              have hG : gW K A s.heap [gMdl K am th rw lg mr en pw sl ly dn iz tz nx2_131 st2_131 tk2_131 vl2_131 ef2_131 ep2_131 hO hB ol rm oz, gArr K 95 rw F2_145, gArrB K 400 (am 10) IF] _ _ := hG
              exact g_vret S hr hlk hQ dX9_parseShot_148 (Nat.le_of_ble_eq_true rfl) (Nat.le_of_ble_eq_true rfl) ((nx2_131, st2_131, tk2_131, vl2_131, ef2_131, ep2_131, F2_145) : Int × Int × Int × Int × Int × Int × (Int → Int)) ⟨hMa, (fun t ht => by rw [show _ = _ from hF_145] <;> exact (hQ9.2 t ht).2)⟩ hG
      refine g_ifne_b (B := (wdX IF tz (sh5 IF NF tz tp r9_28) wDown = true)) (tgt := 81) S dX9_parseShot_64 (by decide) (fun q64 => ?_) (fun q64 => ?_)
      · skip
        refine g_iconst S dX9_parseShot_81 ?_
        refine g_top (w := .int (iI (bI (¬ wdX IF tz (sh5 IF NF tz tp r9_28) wDown = true ∧ ¬ wdX IF tz (sh5 IF NF tz tp r9_28) wUp = true)))) (congrArg (fun z : Int => Value.int (iI z)) ((bI_f (fun z => z.1 q64)).symm)) ?_
        exact J82 _ _ _ (lv_sub hl [1, 2, 0] rfl) hG
      · skip
        refine lv_aload_n S.1 S.2.1 dX9_parseShot_67 rfl (lv_at hl 1 rfl) ?_
        refine g_ldcSW (q := K.2.2.2.1 9) S.1 S.2.1 S.2.2.2.1 (C.1.2.2.1 (RX9, 294, "up", 9) sw_39) dX9_parseShot_68 ?_
        refine g_invV (As := [.ref (K.2.2.2.1 9)]) (rest := [.ref (am 0)]) (gs' := (fun u : Unit => [gMdl K am th rw lg mr en pw sl ly dn iz tz nx2_51 st2_51 tk2_51 vl2_51 ef2_47 ep2_47 hO hB ol rm oz, gArr K 95 rw NF, gArrB K 400 (am 10) IF])) S C hG [0, 2] (c_X9_isWord l K am th rw lg mr en pw sl ly dn iz tz nx2_51 st2_51 tk2_51 vl2_51 ef2_47 ep2_47 hO hB ol rm oz IF (sh5 IF NF tz tp r9_28) 9 wUp htz hM2_51 tx_up (by decide)) rfl rfl 0 rfl rfl (cwV 1 S.2.2.2.2 gX9_parseShot_X9_isWord rfl rfl rfl (by decide +kernel) ⟨Nat.le_of_ble_eq_true rfl, Nat.le_of_ble_eq_true rfl⟩) rfl hl.1 rfl (Nat.le_of_ble_eq_true rfl) dX9_parseShot_71 ⟨Nat.le_of_ble_eq_true rfl, Nat.le_of_ble_eq_true rfl⟩ (fun _ => Nat.le_of_ble_eq_true rfl) (fun _ => rfl) (fun v u H locs hp hG => ?_)
        subst hp
        refine g_ifne_b (B := (wdX IF tz (sh5 IF NF tz tp r9_28) wUp = true)) (tgt := 81) S dX9_parseShot_74 (by decide) (fun q74 => ?_) (fun q74 => ?_)
        · skip
          refine g_iconst S dX9_parseShot_81 ?_
          refine g_top (w := .int (iI (bI (¬ wdX IF tz (sh5 IF NF tz tp r9_28) wDown = true ∧ ¬ wdX IF tz (sh5 IF NF tz tp r9_28) wUp = true)))) (congrArg (fun z : Int => Value.int (iI z)) ((bI_f (fun z => z.2 q74)).symm)) ?_
          exact J82 _ _ _ (lv_sub hl [1, 2, 0] rfl) hG
        · skip
          refine g_iconst S dX9_parseShot_77 ?_
          refine g_top (w := .int (iI (bI (¬ wdX IF tz (sh5 IF NF tz tp r9_28) wDown = true ∧ ¬ wdX IF tz (sh5 IF NF tz tp r9_28) wUp = true)))) (congrArg (fun z : Int => Value.int (iI z)) ((bI_t ⟨q64, q74⟩).symm)) ?_
          refine lv_goto (tgt := 82) S.1 S.2.1 dX9_parseShot_78 (by decide) ?_
          exact J82 _ _ _ (lv_sub hl [1, 2, 0] rfl) hG
    refine g_ifne_b (B := (0 ≤ r9_28 ∧ r9_28 < NF 0)) (tgt := 45) S dX9_parseShot_38 (by decide) (fun q38 => ?_) (fun q38 => ?_)
    · skip
      refine g_iconst S dX9_parseShot_45 ?_
      refine g_top (w := .int (iI (bI (¬ (0 ≤ r9_28 ∧ r9_28 < NF 0))))) (congrArg (fun z : Int => Value.int (iI z)) ((bI_f (fun z => z q38)).symm)) ?_
      exact J46 _ _ _ (lv_sub hl [1, 0] rfl) hG
    · skip
      refine g_iconst S dX9_parseShot_41 ?_
      refine g_top (w := .int (iI (bI (¬ (0 ≤ r9_28 ∧ r9_28 < NF 0))))) (congrArg (fun z : Int => Value.int (iI z)) ((bI_t q38).symm)) ?_
      refine lv_goto (tgt := 46) S.1 S.2.1 dX9_parseShot_42 (by decide) ?_
      exact J46 _ _ _ (lv_sub hl [1, 0] rfl) hG
  refine g_icmp_ne (tgt := 14) S dX9_parseShot_7 (by decide) (by omega) (by omega) (fun q7 => ?_) (fun q7 => ?_)
  · skip
    refine g_iconst S dX9_parseShot_14 ?_
    refine g_top (w := .int (iI (bI (20 ≤ NF 4)))) (congrArg (fun z : Int => Value.int (iI z)) ((bI_f (by omega)).symm)) ?_
    exact J15 _ _ _ (lv_sub hl [0] rfl) hG
  · skip
    refine g_iconst S dX9_parseShot_10 ?_
    refine g_top (w := .int (iI (bI (20 ≤ NF 4)))) (congrArg (fun z : Int => Value.int (iI z)) ((bI_t (by omega)).symm)) ?_
    refine lv_goto (tgt := 15) S.1 S.2.1 dX9_parseShot_11 (by decide) ?_
    exact J15 _ _ _ (lv_sub hl [0] rfl) hG
