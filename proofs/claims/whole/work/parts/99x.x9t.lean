set_option maxHeartbeats 1000000 in
set_option maxRecDepth 100000 in
theorem c_X9_parseStatement (l : Launch) (K : KC) (am : Nat → Nat) (th : Int) (rw : Nat) (lg : Int) (mr : Int) (en : Int) (pw : Int) (sl : Int) (ly : Int) (dn : Int) (iz : Int) (tz : Int) (nx : Int) (st : Int) (tk : Int) (vl : Int) (ef : Int) (ep : Int) (hO : Int) (hB : Int) (ol : Int) (rm : Int) (oz : Int) (NF : Int → Int) (IF : Int → Int) (tp : Int) (htz : 0 ≤ tz ∧ tz ≤ 400) (hM : MSt IF tz (.inr tp) nx st tk vl ef ep) (hN : NOk0 NF) (hO9 : hO = 0 ∨ hO = 1) (hB9 : hB = 0 ∨ hB = 1) (hnz : isWd IF tz tp wLayer ∨ ¬ NF 0 = 0) : mV l yX9_parseStatement wsX9_parseStatement 8 175 K [.ref (am 0)] [gMdl K am th rw lg mr en pw sl ly dn iz tz nx st tk vl ef ep hO hB ol rm oz, gArr K 95 rw NF, gArrB K 400 (am 10) IF] (fun (u : Int × Int × Int × Int × Int × Int × (Int → Int) × Int × Int) => (MSt IF tz (pb (stmE IF tz tp NF hO hB) fun t => .inr t.1) u.1 u.2.1 u.2.2.1 u.2.2.2.1 u.2.2.2.2.1 u.2.2.2.2.2.1) ∧ (StmM (stmE IF tz tp NF hO hB) u.2.2.2.2.2.2.1 u.2.2.2.2.2.2.2.1 u.2.2.2.2.2.2.2.2) ∧ (u.2.2.2.2.2.2.2.1 = 0 ∨ u.2.2.2.2.2.2.2.1 = 1) ∧ (u.2.2.2.2.2.2.2.2 = 0 ∨ u.2.2.2.2.2.2.2.2 = 1)) (fun (u : Int × Int × Int × Int × Int × Int × (Int → Int) × Int × Int) => [gMdl K am th rw lg mr en pw sl ly dn iz tz u.1 u.2.1 u.2.2.1 u.2.2.2.1 u.2.2.2.2.1 u.2.2.2.2.2.1 u.2.2.2.2.2.2.2.1 u.2.2.2.2.2.2.2.2 ol rm oz, gArr K 95 rw u.2.2.2.2.2.2.1, gArrB K 400 (am 10) IF]) 0 0 := by
  refine mV_of cX9_parseStatement 1 (by decide) rfl (Nat.le_of_ble_eq_true rfl) ?_
  intro p e s m below meth c A ls Q S C hG hl hr hlk hin hQ
  have S : CallFix p m c cX9_parseStatement 1 s ([.ref (am 0)] : List Value).toArray wsX9_parseStatement RX9 := S
  have iX90 : ∀ w ∈ wsX90, w ∈ wsX9_parseStatement := fun _ h => List.mem_cons_of_mem _ (List.mem_append_right _ (h))
  have hl : lv_has ls 1 [(0, .ref (am 0))] := hl
  have hG : gW K A s.heap [gMdl K am th rw lg mr en pw sl ly dn iz tz nx st tk vl ef ep hO hB ol rm oz, gArr K 95 rw NF, gArrB K 400 (am 10) IF] s.heap [] := hG
  refine lv_aload_n S.1 S.2.1 dX9_parseStatement_0 rfl (lv_at hl 0 rfl) ?_
  refine g_ldcSW (q := K.2.2.2.1 0) S.1 S.2.1 S.2.2.2.1 (C.1.2.2.1 (RX9, 299, "layer", 0) sw_30) dX9_parseStatement_1 ?_
  refine g_invV (As := [.ref (K.2.2.2.1 0)]) (rest := []) (gs' := (fun u : Unit => [gMdl K am th rw lg mr en pw sl ly dn iz tz nx st tk vl ef ep hO hB ol rm oz, gArr K 95 rw NF, gArrB K 400 (am 10) IF])) S C hG [0, 2] (c_X9_isWord l K am th rw lg mr en pw sl ly dn iz tz nx st tk vl ef ep hO hB ol rm oz IF (.inr tp) 0 wLayer htz hM tx_layer (by decide)) rfl rfl 0 rfl rfl (cwV 1 S.2.2.2.2 gX9_parseStatement_X9_isWord rfl rfl rfl (by decide +kernel) ⟨Nat.le_of_ble_eq_true rfl, Nat.le_of_ble_eq_true rfl⟩) rfl hl.1 rfl (Nat.le_of_ble_eq_true rfl) dX9_parseStatement_4 ⟨Nat.le_of_ble_eq_true rfl, Nat.le_of_ble_eq_true rfl⟩ (fun _ => Nat.le_of_ble_eq_true rfl) (fun _ => rfl) (fun v u H locs hp hG => ?_)
  subst hp
  refine g_ifeq_b (B := (wdX IF tz (.inr tp) wLayer = true)) (tgt := 17) S dX9_parseStatement_7 (by decide) (fun q7 => ?_) (fun q7 => ?_)
  · skip
    refine lv_aload_n S.1 S.2.1 dX9_parseStatement_17 rfl (lv_at hl 0 rfl) ?_
    refine g_ldcSW (q := K.2.2.2.1 3) S.1 S.2.1 S.2.2.2.1 (C.1.2.2.1 (RX9, 304, "outside", 3) sw_33) dX9_parseStatement_18 ?_
    refine g_invV (As := [.ref (K.2.2.2.1 3)]) (rest := []) (gs' := (fun u : Unit => [gMdl K am th rw lg mr en pw sl ly dn iz tz nx st tk vl ef ep hO hB ol rm oz, gArr K 95 rw NF, gArrB K 400 (am 10) IF])) S C hG [0, 2] (c_X9_isWord l K am th rw lg mr en pw sl ly dn iz tz nx st tk vl ef ep hO hB ol rm oz IF (.inr tp) 3 wOutside htz hM tx_outside (by decide)) rfl rfl 0 rfl rfl (cwV 1 S.2.2.2.2 gX9_parseStatement_X9_isWord rfl rfl rfl (by decide +kernel) ⟨Nat.le_of_ble_eq_true rfl, Nat.le_of_ble_eq_true rfl⟩) rfl hl.1 rfl (Nat.le_of_ble_eq_true rfl) dX9_parseStatement_21 ⟨Nat.le_of_ble_eq_true rfl, Nat.le_of_ble_eq_true rfl⟩ (fun _ => Nat.le_of_ble_eq_true rfl) (fun _ => rfl) (fun v u H locs hp hG => ?_)
    subst hp
    refine g_ifeq_b (B := (wdX IF tz (.inr tp) wOutside = true)) (tgt := 34) S dX9_parseStatement_24 (by decide) (fun q24 => ?_) (fun q24 => ?_)
    · skip
      refine lv_aload_n S.1 S.2.1 dX9_parseStatement_34 rfl (lv_at hl 0 rfl) ?_
      refine g_ldcSW (q := K.2.2.2.1 4) S.1 S.2.1 S.2.2.2.1 (C.1.2.2.1 (RX9, 309, "bottom", 4) sw_34) dX9_parseStatement_35 ?_
      refine g_invV (As := [.ref (K.2.2.2.1 4)]) (rest := []) (gs' := (fun u : Unit => [gMdl K am th rw lg mr en pw sl ly dn iz tz nx st tk vl ef ep hO hB ol rm oz, gArr K 95 rw NF, gArrB K 400 (am 10) IF])) S C hG [0, 2] (c_X9_isWord l K am th rw lg mr en pw sl ly dn iz tz nx st tk vl ef ep hO hB ol rm oz IF (.inr tp) 4 wBottom htz hM tx_bottom (by decide)) rfl rfl 0 rfl rfl (cwV 1 S.2.2.2.2 gX9_parseStatement_X9_isWord rfl rfl rfl (by decide +kernel) ⟨Nat.le_of_ble_eq_true rfl, Nat.le_of_ble_eq_true rfl⟩) rfl hl.1 rfl (Nat.le_of_ble_eq_true rfl) dX9_parseStatement_38 ⟨Nat.le_of_ble_eq_true rfl, Nat.le_of_ble_eq_true rfl⟩ (fun _ => Nat.le_of_ble_eq_true rfl) (fun _ => rfl) (fun v u H locs hp hG => ?_)
      subst hp
      refine g_ifeq_b (B := (wdX IF tz (.inr tp) wBottom = true)) (tgt := 51) S dX9_parseStatement_41 (by decide) (fun q41 => ?_) (fun q41 => ?_)
      · skip
        refine lv_aload_n S.1 S.2.1 dX9_parseStatement_51 rfl (lv_at hl 0 rfl) ?_
        refine g_ldcSW (q := K.2.2.2.1 7) S.1 S.2.1 S.2.2.2.1 (C.1.2.2.1 (RX9, 314, "shot", 7) sw_37) dX9_parseStatement_52 ?_
        refine g_invV (As := [.ref (K.2.2.2.1 7)]) (rest := []) (gs' := (fun u : Unit => [gMdl K am th rw lg mr en pw sl ly dn iz tz nx st tk vl ef ep hO hB ol rm oz, gArr K 95 rw NF, gArrB K 400 (am 10) IF])) S C hG [0, 2] (c_X9_isWord l K am th rw lg mr en pw sl ly dn iz tz nx st tk vl ef ep hO hB ol rm oz IF (.inr tp) 7 wShot htz hM tx_shot (by decide)) rfl rfl 0 rfl rfl (cwV 1 S.2.2.2.2 gX9_parseStatement_X9_isWord rfl rfl rfl (by decide +kernel) ⟨Nat.le_of_ble_eq_true rfl, Nat.le_of_ble_eq_true rfl⟩) rfl hl.1 rfl (Nat.le_of_ble_eq_true rfl) dX9_parseStatement_55 ⟨Nat.le_of_ble_eq_true rfl, Nat.le_of_ble_eq_true rfl⟩ (fun _ => Nat.le_of_ble_eq_true rfl) (fun _ => rfl) (fun v u H locs hp hG => ?_)
        subst hp
        refine g_ifeq_b (B := (wdX IF tz (.inr tp) wShot = true)) (tgt := 68) S dX9_parseStatement_58 (by decide) (fun q58 => ?_) (fun q58 => ?_)
        · skip
          refine lv_aload_n S.1 S.2.1 dX9_parseStatement_68 rfl (lv_at hl 0 rfl) ?_
          refine g_iconst S dX9_parseStatement_69 ?_
          refine g_invVv (As := [.int (iI 1)]) (rest := []) (gs' := (fun u : Int × Int => [gMdl K am th rw lg mr en pw sl ly dn iz tz nx st tk vl u.1 u.2 hO hB ol rm oz, gArr K 95 rw NF, gArrB K 400 (am 10) IF])) S C hG [0] (c_X9_errs l K am th rw lg mr en pw sl ly dn iz tz nx st tk vl ef ep hO hB ol rm oz IF (.inr tp) 1 hM (by decide)) rfl rfl 0 rfl rfl (cwV 1 S.2.2.2.2 gX9_parseStatement_X9_errs rfl rfl rfl (by decide +kernel) ⟨Nat.le_of_ble_eq_true rfl, Nat.le_of_ble_eq_true rfl⟩) rfl hl.1 rfl (Nat.le_of_ble_eq_true rfl) dX9_parseStatement_70 ⟨Nat.le_of_ble_eq_true rfl, Nat.le_of_ble_eq_true rfl⟩ (fun _ => Nat.le_of_ble_eq_true rfl) (fun _ => rfl) (fun u H locs hp hG => ?_)
          obtain ⟨ef2_70, ep2_70⟩ := u
          have hM2_70 := hp
          have hM2_70 : MSt IF tz (pb (.inr tp) fun i => fl IF tz i 1) nx st tk vl ef2_70 ep2_70 := hM2_70
          have hG : gW K A s.heap [gMdl K am th rw lg mr en pw sl ly dn iz tz nx st tk vl ef2_70 ep2_70 hO hB ol rm oz, gArr K 95 rw NF, gArrB K 400 (am 10) IF] _ _ := hG
          have e9 : stmE IF tz tp NF hO hB = fl IF tz tp 1 := ((if_neg q7).trans ((if_neg (hnz.elim (fun z => absurd z q7) id)).trans ((if_neg q24).trans ((if_neg q41).trans (if_neg q58)))))
          have hG : gW K A s.heap [gMdl K am th rw lg mr en pw sl ly dn iz tz nx st tk vl ef2_70 ep2_70 hO hB ol rm oz, gArr K 95 rw NF, gArrB K 400 (am 10) IF] _ _ := hG
          exact g_vret S hr hlk hQ dX9_parseStatement_73 (Nat.le_of_ble_eq_true rfl) (Nat.le_of_ble_eq_true rfl) ((nx, st, tk, vl, ef2_70, ep2_70, NF, hO, hB) : Int × Int × Int × Int × Int × Int × (Int → Int) × Int × Int) ⟨(by rw [e9] <;> exact hM2_70), (StmM.nil (fun t z => by (rw [e9] at z <;> cases z)) _ _ _), hO9, hB9⟩ hG
        · skip
          refine lv_aload_n S.1 S.2.1 dX9_parseStatement_61 rfl (lv_at hl 0 rfl) ?_
          refine g_invVv (As := []) (rest := []) (gs' := (fun u : Int × Int × Int × Int × Int × Int × (Int → Int) => [gMdl K am th rw lg mr en pw sl ly dn iz tz u.1 u.2.1 u.2.2.1 u.2.2.2.1 u.2.2.2.2.1 u.2.2.2.2.2.1 hO hB ol rm oz, gArr K 95 rw u.2.2.2.2.2.2, gArrB K 400 (am 10) IF])) S C hG [0, 1, 2] (c_X9_parseShot l K am th rw lg mr en pw sl ly dn iz tz nx st tk vl ef ep hO hB ol rm oz NF IF tp htz hM hN hO9 hB9) rfl rfl 0 rfl rfl (cwV 0 S.2.2.2.2 gX9_parseStatement_X9_parseShot rfl rfl rfl (by decide +kernel) ⟨Nat.le_of_ble_eq_true rfl, Nat.le_of_ble_eq_true rfl⟩) rfl hl.1 rfl (Nat.le_of_ble_eq_true rfl) dX9_parseStatement_62 ⟨Nat.le_of_ble_eq_true rfl, Nat.le_of_ble_eq_true rfl⟩ (fun _ => Nat.le_of_ble_eq_true rfl) (fun _ => rfl) (fun u H locs hp hG => ?_)
          obtain ⟨nx2_62, st2_62, tk2_62, vl2_62, ef2_62, ep2_62, N2_62⟩ := u
          obtain ⟨hM2_62, hS_62⟩ := hp
          have hM2_62 : MSt IF tz (pb (shoE IF tz tp NF hO hB) fun t => .inr t.1) nx2_62 st2_62 tk2_62 vl2_62 ef2_62 ep2_62 := hM2_62
          have hS_62 : StmM (shoE IF tz tp NF hO hB) N2_62 hO hB := hS_62
          have hG : gW K A s.heap [gMdl K am th rw lg mr en pw sl ly dn iz tz nx2_62 st2_62 tk2_62 vl2_62 ef2_62 ep2_62 hO hB ol rm oz, gArr K 95 rw N2_62, gArrB K 400 (am 10) IF] _ _ := hG
          refine lv_goto (tgt := 73) S.1 S.2.1 dX9_parseStatement_65 (by decide) ?_
          have e9 : stmE IF tz tp NF hO hB = shoE IF tz tp NF hO hB := ((if_neg q7).trans ((if_neg (hnz.elim (fun z => absurd z q7) id)).trans ((if_neg q24).trans ((if_neg q41).trans (if_pos q58)))))
          have hG : gW K A s.heap [gMdl K am th rw lg mr en pw sl ly dn iz tz nx2_62 st2_62 tk2_62 vl2_62 ef2_62 ep2_62 hO hB ol rm oz, gArr K 95 rw N2_62, gArrB K 400 (am 10) IF] _ _ := hG
          exact g_vret S hr hlk hQ dX9_parseStatement_73 (Nat.le_of_ble_eq_true rfl) (Nat.le_of_ble_eq_true rfl) ((nx2_62, st2_62, tk2_62, vl2_62, ef2_62, ep2_62, N2_62, hO, hB) : Int × Int × Int × Int × Int × Int × (Int → Int) × Int × Int) ⟨(by rw [e9] <;> exact hM2_62), (by rw [e9] <;> exact hS_62), (by first | exact hO9 | exact Or.inr rfl), (by first | exact hB9 | exact Or.inr rfl)⟩ hG
      · skip
        refine lv_aload_n S.1 S.2.1 dX9_parseStatement_44 rfl (lv_at hl 0 rfl) ?_
        refine g_invVv (As := []) (rest := []) (gs' := (fun u : Int × Int × Int × Int × Int × Int × (Int → Int) => [gMdl K am th rw lg mr en pw sl ly dn iz tz u.1 u.2.1 u.2.2.1 u.2.2.2.1 u.2.2.2.2.1 u.2.2.2.2.2.1 hO 1 ol rm oz, gArr K 95 rw u.2.2.2.2.2.2, gArrB K 400 (am 10) IF])) S C hG [0, 1, 2] (c_X9_parseBottom l K am th rw lg mr en pw sl ly dn iz tz nx st tk vl ef ep hO hB ol rm oz NF IF tp htz hM hN hO9 hB9) rfl rfl 0 rfl rfl (cwV 0 S.2.2.2.2 gX9_parseStatement_X9_parseBottom rfl rfl rfl (by decide +kernel) ⟨Nat.le_of_ble_eq_true rfl, Nat.le_of_ble_eq_true rfl⟩) rfl hl.1 rfl (Nat.le_of_ble_eq_true rfl) dX9_parseStatement_45 ⟨Nat.le_of_ble_eq_true rfl, Nat.le_of_ble_eq_true rfl⟩ (fun _ => Nat.le_of_ble_eq_true rfl) (fun _ => rfl) (fun u H locs hp hG => ?_)
        obtain ⟨nx2_45, st2_45, tk2_45, vl2_45, ef2_45, ep2_45, N2_45⟩ := u
        obtain ⟨hM2_45, hS_45⟩ := hp
        have hM2_45 : MSt IF tz (pb (botE IF tz tp NF hO hB) fun t => .inr t.1) nx2_45 st2_45 tk2_45 vl2_45 ef2_45 ep2_45 := hM2_45
        have hS_45 : StmM (botE IF tz tp NF hO hB) N2_45 hO 1 := hS_45
        have hG : gW K A s.heap [gMdl K am th rw lg mr en pw sl ly dn iz tz nx2_45 st2_45 tk2_45 vl2_45 ef2_45 ep2_45 hO 1 ol rm oz, gArr K 95 rw N2_45, gArrB K 400 (am 10) IF] _ _ := hG
        refine lv_goto (tgt := 73) S.1 S.2.1 dX9_parseStatement_48 (by decide) ?_
        have e9 : stmE IF tz tp NF hO hB = botE IF tz tp NF hO hB := ((if_neg q7).trans ((if_neg (hnz.elim (fun z => absurd z q7) id)).trans ((if_neg q24).trans (if_pos q41))))
        have hG : gW K A s.heap [gMdl K am th rw lg mr en pw sl ly dn iz tz nx2_45 st2_45 tk2_45 vl2_45 ef2_45 ep2_45 hO 1 ol rm oz, gArr K 95 rw N2_45, gArrB K 400 (am 10) IF] _ _ := hG
        exact g_vret S hr hlk hQ dX9_parseStatement_73 (Nat.le_of_ble_eq_true rfl) (Nat.le_of_ble_eq_true rfl) ((nx2_45, st2_45, tk2_45, vl2_45, ef2_45, ep2_45, N2_45, hO, 1) : Int × Int × Int × Int × Int × Int × (Int → Int) × Int × Int) ⟨(by rw [e9] <;> exact hM2_45), (by rw [e9] <;> exact hS_45), (by first | exact hO9 | exact Or.inr rfl), (by first | exact hB9 | exact Or.inr rfl)⟩ hG
    · skip
      refine lv_aload_n S.1 S.2.1 dX9_parseStatement_27 rfl (lv_at hl 0 rfl) ?_
      refine g_invVv (As := []) (rest := []) (gs' := (fun u : Int × Int × Int × Int × Int × Int × (Int → Int) => [gMdl K am th rw lg mr en pw sl ly dn iz tz u.1 u.2.1 u.2.2.1 u.2.2.2.1 u.2.2.2.2.1 u.2.2.2.2.2.1 1 hB ol rm oz, gArr K 95 rw u.2.2.2.2.2.2, gArrB K 400 (am 10) IF])) S C hG [0, 1, 2] (c_X9_parseOutside l K am th rw lg mr en pw sl ly dn iz tz nx st tk vl ef ep hO hB ol rm oz NF IF tp htz hM hN hO9 hB9) rfl rfl 0 rfl rfl (cwV 0 S.2.2.2.2 gX9_parseStatement_X9_parseOutside rfl rfl rfl (by decide +kernel) ⟨Nat.le_of_ble_eq_true rfl, Nat.le_of_ble_eq_true rfl⟩) rfl hl.1 rfl (Nat.le_of_ble_eq_true rfl) dX9_parseStatement_28 ⟨Nat.le_of_ble_eq_true rfl, Nat.le_of_ble_eq_true rfl⟩ (fun _ => Nat.le_of_ble_eq_true rfl) (fun _ => rfl) (fun u H locs hp hG => ?_)
      obtain ⟨nx2_28, st2_28, tk2_28, vl2_28, ef2_28, ep2_28, N2_28⟩ := u
      obtain ⟨hM2_28, hS_28⟩ := hp
      have hM2_28 : MSt IF tz (pb (outE IF tz tp NF hO hB) fun t => .inr t.1) nx2_28 st2_28 tk2_28 vl2_28 ef2_28 ep2_28 := hM2_28
      have hS_28 : StmM (outE IF tz tp NF hO hB) N2_28 1 hB := hS_28
      have hG : gW K A s.heap [gMdl K am th rw lg mr en pw sl ly dn iz tz nx2_28 st2_28 tk2_28 vl2_28 ef2_28 ep2_28 1 hB ol rm oz, gArr K 95 rw N2_28, gArrB K 400 (am 10) IF] _ _ := hG
      refine lv_goto (tgt := 73) S.1 S.2.1 dX9_parseStatement_31 (by decide) ?_
      have e9 : stmE IF tz tp NF hO hB = outE IF tz tp NF hO hB := ((if_neg q7).trans ((if_neg (hnz.elim (fun z => absurd z q7) id)).trans (if_pos q24)))
      have hG : gW K A s.heap [gMdl K am th rw lg mr en pw sl ly dn iz tz nx2_28 st2_28 tk2_28 vl2_28 ef2_28 ep2_28 1 hB ol rm oz, gArr K 95 rw N2_28, gArrB K 400 (am 10) IF] _ _ := hG
      exact g_vret S hr hlk hQ dX9_parseStatement_73 (Nat.le_of_ble_eq_true rfl) (Nat.le_of_ble_eq_true rfl) ((nx2_28, st2_28, tk2_28, vl2_28, ef2_28, ep2_28, N2_28, 1, hB) : Int × Int × Int × Int × Int × Int × (Int → Int) × Int × Int) ⟨(by rw [e9] <;> exact hM2_28), (by rw [e9] <;> exact hS_28), (by first | exact hO9 | exact Or.inr rfl), (by first | exact hB9 | exact Or.inr rfl)⟩ hG
  · skip
    refine lv_aload_n S.1 S.2.1 dX9_parseStatement_10 rfl (lv_at hl 0 rfl) ?_
    refine g_invVv (As := []) (rest := []) (gs' := (fun u : Int × Int × Int × Int × Int × Int × (Int → Int) => [gMdl K am th rw lg mr en pw sl ly dn iz tz u.1 u.2.1 u.2.2.1 u.2.2.2.1 u.2.2.2.2.1 u.2.2.2.2.2.1 hO hB ol rm oz, gArr K 95 rw u.2.2.2.2.2.2, gArrB K 400 (am 10) IF])) S C hG [0, 1, 2] (c_X9_parseLayer l K am th rw lg mr en pw sl ly dn iz tz nx st tk vl ef ep hO hB ol rm oz NF IF tp htz hM hN hO9 hB9) rfl rfl 0 rfl rfl (cwV 0 S.2.2.2.2 gX9_parseStatement_X9_parseLayer rfl rfl rfl (by decide +kernel) ⟨Nat.le_of_ble_eq_true rfl, Nat.le_of_ble_eq_true rfl⟩) rfl hl.1 rfl (Nat.le_of_ble_eq_true rfl) dX9_parseStatement_11 ⟨Nat.le_of_ble_eq_true rfl, Nat.le_of_ble_eq_true rfl⟩ (fun _ => Nat.le_of_ble_eq_true rfl) (fun _ => rfl) (fun u H locs hp hG => ?_)
    obtain ⟨nx2_11, st2_11, tk2_11, vl2_11, ef2_11, ep2_11, N2_11⟩ := u
    obtain ⟨hM2_11, hS_11⟩ := hp
    have hM2_11 : MSt IF tz (pb (layE IF tz tp NF hO hB) fun t => .inr t.1) nx2_11 st2_11 tk2_11 vl2_11 ef2_11 ep2_11 := hM2_11
    have hS_11 : StmM (layE IF tz tp NF hO hB) N2_11 hO hB := hS_11
    have hG : gW K A s.heap [gMdl K am th rw lg mr en pw sl ly dn iz tz nx2_11 st2_11 tk2_11 vl2_11 ef2_11 ep2_11 hO hB ol rm oz, gArr K 95 rw N2_11, gArrB K 400 (am 10) IF] _ _ := hG
    refine lv_goto (tgt := 73) S.1 S.2.1 dX9_parseStatement_14 (by decide) ?_
    have e9 : stmE IF tz tp NF hO hB = layE IF tz tp NF hO hB := (if_pos q7)
    have hG : gW K A s.heap [gMdl K am th rw lg mr en pw sl ly dn iz tz nx2_11 st2_11 tk2_11 vl2_11 ef2_11 ep2_11 hO hB ol rm oz, gArr K 95 rw N2_11, gArrB K 400 (am 10) IF] _ _ := hG
    exact g_vret S hr hlk hQ dX9_parseStatement_73 (Nat.le_of_ble_eq_true rfl) (Nat.le_of_ble_eq_true rfl) ((nx2_11, st2_11, tk2_11, vl2_11, ef2_11, ep2_11, N2_11, hO, hB) : Int × Int × Int × Int × Int × Int × (Int → Int) × Int × Int) ⟨(by rw [e9] <;> exact hM2_11), (by rw [e9] <;> exact hS_11), (by first | exact hO9 | exact Or.inr rfl), (by first | exact hB9 | exact Or.inr rfl)⟩ hG
