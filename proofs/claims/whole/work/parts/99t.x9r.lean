set_option maxHeartbeats 1000000 in
set_option maxRecDepth 100000 in
theorem c_X9_parseOutside (l : Launch) (K : KC) (am : Nat → Nat) (th : Int) (rw : Nat) (lg : Int) (mr : Int) (en : Int) (pw : Int) (sl : Int) (ly : Int) (dn : Int) (iz : Int) (tz : Int) (nx : Int) (st : Int) (tk : Int) (vl : Int) (ef : Int) (ep : Int) (hO : Int) (hB : Int) (ol : Int) (rm : Int) (oz : Int) (NF : Int → Int) (IF : Int → Int) (tp : Int) (htz : 0 ≤ tz ∧ tz ≤ 400) (hM : MSt IF tz (.inr tp) nx st tk vl ef ep) (hN : NOk0 NF) (hO9 : hO = 0 ∨ hO = 1) (hB9 : hB = 0 ∨ hB = 1) : mV l yX9_parseOutside wsX9_parseOutside 4 89 K [.ref (am 0)] [gMdl K am th rw lg mr en pw sl ly dn iz tz nx st tk vl ef ep hO hB ol rm oz, gArr K 95 rw NF, gArrB K 400 (am 10) IF] (fun (u : Int × Int × Int × Int × Int × Int × (Int → Int)) => (MSt IF tz (pb (outE IF tz tp NF hO hB) fun t => .inr t.1) u.1 u.2.1 u.2.2.1 u.2.2.2.1 u.2.2.2.2.1 u.2.2.2.2.2.1) ∧ (StmM (outE IF tz tp NF hO hB) u.2.2.2.2.2.2 1 hB)) (fun (u : Int × Int × Int × Int × Int × Int × (Int → Int)) => [gMdl K am th rw lg mr en pw sl ly dn iz tz u.1 u.2.1 u.2.2.1 u.2.2.2.1 u.2.2.2.2.1 u.2.2.2.2.2.1 1 hB ol rm oz, gArr K 95 rw u.2.2.2.2.2.2, gArrB K 400 (am 10) IF]) 0 0 := by
  refine mV_of cX9_parseOutside 1 (by decide) rfl (Nat.le_of_ble_eq_true rfl) ?_
  intro p e s m below meth c A ls Q S C hG hl hr hlk hin hQ
  have S : CallFix p m c cX9_parseOutside 1 s ([.ref (am 0)] : List Value).toArray wsX9_parseOutside RX9 := S
  have iX90 : ∀ w ∈ wsX90, w ∈ wsX9_parseOutside := fun _ h => List.mem_cons_of_mem _ (List.mem_append_right _ (h))
  have hl : lv_has ls 1 [(0, .ref (am 0))] := hl
  have hG : gW K A s.heap [gMdl K am th rw lg mr en pw sl ly dn iz tz nx st tk vl ef ep hO hB ol rm oz, gArr K 95 rw NF, gArrB K 400 (am 10) IF] s.heap [] := hG
  refine lv_aload_n S.1 S.2.1 dX9_parseOutside_0 rfl (lv_at hl 0 rfl) ?_
  refine lv_aload_n S.1 S.2.1 dX9_parseOutside_1 rfl (lv_at hl 0 rfl) ?_
  refine g_get S C hG iX90 0 rfl rfl 27 (by decide) (List.mem_of_getElem? (i := 1) rfl) rfl dX9_parseOutside_2 ?_
  refine g_iconst S dX9_parseOutside_5 ?_
  refine g_invVv (As := [.int (iI hO), .int (iI 3)]) (rest := []) (gs' := (fun u : Int × Int => [gMdl K am th rw lg mr en pw sl ly dn iz tz nx st tk vl u.1 u.2 hO hB ol rm oz, gArr K 95 rw NF, gArrB K 400 (am 10) IF])) S C hG [0] (c_X9_errsIf l K am th rw lg mr en pw sl ly dn iz tz nx st tk vl ef ep hO hB ol rm oz IF (.inr tp) hO 3 hM (by decide) hO9) rfl rfl 0 rfl rfl (cwV 2 S.2.2.2.2 gX9_parseOutside_X9_errsIf rfl rfl rfl (by decide +kernel) ⟨Nat.le_of_ble_eq_true rfl, Nat.le_of_ble_eq_true rfl⟩) rfl hl.1 rfl (Nat.le_of_ble_eq_true rfl) dX9_parseOutside_6 ⟨Nat.le_of_ble_eq_true rfl, Nat.le_of_ble_eq_true rfl⟩ (fun _ => Nat.le_of_ble_eq_true rfl) (fun _ => rfl) (fun u H locs hp hG => ?_)
  obtain ⟨ef2_6, ep2_6⟩ := u
  have hM2_6 := hp
  have hM2_6 : MSt IF tz (pb (.inr tp) fun i => if hO = 1 then fl IF tz i 3 else .inr i) nx st tk vl ef2_6 ep2_6 := hM2_6
  have hG : gW K A s.heap [gMdl K am th rw lg mr en pw sl ly dn iz tz nx st tk vl ef2_6 ep2_6 hO hB ol rm oz, gArr K 95 rw NF, gArrB K 400 (am 10) IF] _ _ := hG
  refine lv_aload_n S.1 S.2.1 dX9_parseOutside_9 rfl (lv_at hl 0 rfl) ?_
  refine g_iconst S dX9_parseOutside_10 ?_
  refine g_put (gs' := [gMdl K am th rw lg mr en pw sl ly dn iz tz nx st tk vl ef2_6 ep2_6 1 hB ol rm oz, gArr K 95 rw NF, gArrB K 400 (am 10) IF]) S C hG iX90 tyX9 tyX9_ok nmX9 0 rfl rfl 27 (by decide) (List.mem_of_getElem? (i := 1) rfl) rfl (nz_b (Or.inr rfl)) (fz_b (Or.inr rfl)) (Nat.le_of_ble_eq_true rfl) rfl dX9_parseOutside_11 (fun H locs hG => ?_)
  refine lv_aload_n S.1 S.2.1 dX9_parseOutside_14 rfl (lv_at hl 0 rfl) ?_
  refine g_invVv (As := []) (rest := []) (gs' := (fun u : Int × Int × Int × Int => [gMdl K am th rw lg mr en pw sl ly dn iz tz u.1 u.2.1 u.2.2.1 u.2.2.2 ef2_6 ep2_6 1 hB ol rm oz, gArr K 95 rw NF, gArrB K 400 (am 10) IF])) S C hG [0, 2] (c_X9_goOn l K am th rw lg mr en pw sl ly dn iz tz nx st tk vl ef2_6 ep2_6 1 hB ol rm oz IF (x1F IF tz tp hO 3) htz hM2_6) rfl rfl 0 rfl rfl (cwV 0 S.2.2.2.2 gX9_parseOutside_X9_goOn rfl rfl rfl (by decide +kernel) ⟨Nat.le_of_ble_eq_true rfl, Nat.le_of_ble_eq_true rfl⟩) rfl hl.1 rfl (Nat.le_of_ble_eq_true rfl) dX9_parseOutside_15 ⟨Nat.le_of_ble_eq_true rfl, Nat.le_of_ble_eq_true rfl⟩ (fun _ => Nat.le_of_ble_eq_true rfl) (fun _ => rfl) (fun u H locs hp hG => ?_)
  obtain ⟨nx2_15, st2_15, tk2_15, vl2_15⟩ := u
  have hM2_15 := hp
  have hM2_15 : MSt IF tz (pb (x1F IF tz tp hO 3) fun i => .inr (tkE IF tz i)) nx2_15 st2_15 tk2_15 vl2_15 ef2_6 ep2_6 := hM2_15
  have hG : gW K A s.heap [gMdl K am th rw lg mr en pw sl ly dn iz tz nx2_15 st2_15 tk2_15 vl2_15 ef2_6 ep2_6 1 hB ol rm oz, gArr K 95 rw NF, gArrB K 400 (am 10) IF] _ _ := hG
  refine lv_aload_n S.1 S.2.1 dX9_parseOutside_18 rfl (lv_at hl 0 rfl) ?_
  refine g_get S C hG iX90 0 rfl rfl 3 (by decide) (List.mem_of_getElem? (i := 2) rfl) rfl dX9_parseOutside_19 ?_
  refine g_iconst S dX9_parseOutside_22 ?_
  refine lv_aload_n S.1 S.2.1 dX9_parseOutside_23 rfl (lv_at hl 0 rfl) ?_
  refine g_sipush S dX9_parseOutside_24 (by decide) ?_
  refine g_sipush S dX9_parseOutside_27 (by decide) ?_
  refine g_invV (As := [.int (iI 1000), .int (iI 4000)]) (rest := [.int (iI 1), .ref rw]) (gs' := (fun u : Int × Int × Int × Int × Int × Int × Int => [gMdl K am th rw lg mr en pw sl ly dn iz tz u.2.1 u.2.2.1 u.2.2.2.1 u.2.2.2.2.1 u.2.2.2.2.2.1 u.2.2.2.2.2.2 1 hB ol rm oz, gArr K 95 rw NF, gArrB K 400 (am 10) IF])) S C hG [0, 2] (c_X9_number l K am th rw lg mr en pw sl ly dn iz tz nx2_15 st2_15 tk2_15 vl2_15 ef2_6 ep2_6 1 hB ol rm oz IF (goF IF tz (x1F IF tz tp hO 3)) 1000 4000 htz hM2_15 (by decide) (by decide)) rfl rfl 0 rfl rfl (cwV 2 S.2.2.2.2 gX9_parseOutside_X9_number rfl rfl rfl (by decide +kernel) ⟨Nat.le_of_ble_eq_true rfl, Nat.le_of_ble_eq_true rfl⟩) rfl hl.1 rfl (Nat.le_of_ble_eq_true rfl) dX9_parseOutside_30 ⟨Nat.le_of_ble_eq_true rfl, Nat.le_of_ble_eq_true rfl⟩ (fun _ => Nat.le_of_ble_eq_true rfl) (fun _ => rfl) (fun v u H locs hp hG => ?_)
  obtain ⟨r9_30, nx2_30, st2_30, tk2_30, vl2_30, ef2_30, ep2_30⟩ := u
  obtain ⟨rfl, hM2_30, hr_30⟩ := hp
  have hM2_30 : MSt IF tz (pb (goF IF tz (x1F IF tz tp hO 3)) fun i => pb (numE IF tz i 1000 4000) fun _ => .inr (tkE IF tz i)) nx2_30 st2_30 tk2_30 vl2_30 ef2_30 ep2_30 := hM2_30
  have hr_30 : (1000 ≤ r9_30 ∧ r9_30 ≤ 4000) ∧ ∀ i, (goF IF tz (x1F IF tz tp hO 3)) = .inr i → okE (numE IF tz i 1000 4000) → r9_30 = tkV IF tz i := hr_30
  have hG : gW K A s.heap [gMdl K am th rw lg mr en pw sl ly dn iz tz nx2_30 st2_30 tk2_30 vl2_30 ef2_30 ep2_30 1 hB ol rm oz, gArr K 95 rw NF, gArrB K 400 (am 10) IF] _ _ := hG
  refine g_iast (gs' := [gMdl K am th rw lg mr en pw sl ly dn iz tz nx2_30 st2_30 tk2_30 vl2_30 ef2_30 ep2_30 1 hB ol rm oz, gArr K 95 rw (upI NF 1 r9_30), gArrB K 400 (am 10) IF]) S C hG 1 rfl (by omega) (by omega) (by omega) rfl dX9_parseOutside_33 (fun H locs hG => ?_)
  refine lv_aload_n S.1 S.2.1 dX9_parseOutside_34 rfl (lv_at hl 0 rfl) ?_
  refine g_invVv (As := []) (rest := []) (gs' := (fun u : Int × Int × Int × Int × Int × Int => [gMdl K am th rw lg mr en pw sl ly dn iz tz u.1 u.2.1 u.2.2.1 u.2.2.2.1 u.2.2.2.2.1 u.2.2.2.2.2 1 hB ol rm oz, gArr K 95 rw (upI NF 1 r9_30), gArrB K 400 (am 10) IF])) S C hG [0, 2] (c_X9_semicolon l K am th rw lg mr en pw sl ly dn iz tz nx2_30 st2_30 tk2_30 vl2_30 ef2_30 ep2_30 1 hB ol rm oz IF (nuF IF tz 1000 4000 (goF IF tz (x1F IF tz tp hO 3))) htz hM2_30) rfl rfl 0 rfl rfl (cwV 0 S.2.2.2.2 gX9_parseOutside_X9_semicolon rfl rfl rfl (by decide +kernel) ⟨Nat.le_of_ble_eq_true rfl, Nat.le_of_ble_eq_true rfl⟩) rfl hl.1 rfl (Nat.le_of_ble_eq_true rfl) dX9_parseOutside_35 ⟨Nat.le_of_ble_eq_true rfl, Nat.le_of_ble_eq_true rfl⟩ (fun _ => Nat.le_of_ble_eq_true rfl) (fun _ => rfl) (fun u H locs hp hG => ?_)
  obtain ⟨nx2_35, st2_35, tk2_35, vl2_35, ef2_35, ep2_35⟩ := u
  have hM2_35 := hp
  have hM2_35 : MSt IF tz (pb (nuF IF tz 1000 4000 (goF IF tz (x1F IF tz tp hO 3))) fun i => pb (smE IF tz i) fun _ => .inr (tkE IF tz i)) nx2_35 st2_35 tk2_35 vl2_35 ef2_35 ep2_35 := hM2_35
  have hG : gW K A s.heap [gMdl K am th rw lg mr en pw sl ly dn iz tz nx2_35 st2_35 tk2_35 vl2_35 ef2_35 ep2_35 1 hB ol rm oz, gArr K 95 rw (upI NF 1 r9_30), gArrB K 400 (am 10) IF] _ _ := hG
  have hG : gW K A s.heap [gMdl K am th rw lg mr en pw sl ly dn iz tz nx2_35 st2_35 tk2_35 vl2_35 ef2_35 ep2_35 1 hB ol rm oz, gArr K 95 rw (upI NF 1 r9_30), gArrB K 400 (am 10) IF] _ _ := hG
  exact g_vret S hr hlk hQ dX9_parseOutside_38 (Nat.le_of_ble_eq_true rfl) (Nat.le_of_ble_eq_true rfl) ((nx2_35, st2_35, tk2_35, vl2_35, ef2_35, ep2_35, upI NF 1 r9_30) : Int × Int × Int × Int × Int × Int × (Int → Int)) ⟨(by have z : MSt IF tz (smF IF tz (nuF IF tz 1000 4000 (goF IF tz (x1F IF tz tp hO 3)))) _ _ _ _ _ _ := hM2_35 <;> rw [out_eq (N := NF) hB] at z <;> exact z), (out_ok hN hr_30.2)⟩ hG

set_option maxHeartbeats 1000000 in
set_option maxRecDepth 100000 in
theorem c_X9_parseLayer (l : Launch) (K : KC) (am : Nat → Nat) (th : Int) (rw : Nat) (lg : Int) (mr : Int) (en : Int) (pw : Int) (sl : Int) (ly : Int) (dn : Int) (iz : Int) (tz : Int) (nx : Int) (st : Int) (tk : Int) (vl : Int) (ef : Int) (ep : Int) (hO : Int) (hB : Int) (ol : Int) (rm : Int) (oz : Int) (NF : Int → Int) (IF : Int → Int) (tp : Int) (htz : 0 ≤ tz ∧ tz ≤ 400) (hM : MSt IF tz (.inr tp) nx st tk vl ef ep) (hN : NOk0 NF) (hO9 : hO = 0 ∨ hO = 1) (hB9 : hB = 0 ∨ hB = 1) : mV l yX9_parseLayer wsX9_parseLayer 7 152 K [.ref (am 0)] [gMdl K am th rw lg mr en pw sl ly dn iz tz nx st tk vl ef ep hO hB ol rm oz, gArr K 95 rw NF, gArrB K 400 (am 10) IF] (fun (u : Int × Int × Int × Int × Int × Int × (Int → Int)) => (MSt IF tz (pb (layE IF tz tp NF hO hB) fun t => .inr t.1) u.1 u.2.1 u.2.2.1 u.2.2.2.1 u.2.2.2.2.1 u.2.2.2.2.2.1) ∧ (StmM (layE IF tz tp NF hO hB) u.2.2.2.2.2.2 hO hB)) (fun (u : Int × Int × Int × Int × Int × Int × (Int → Int)) => [gMdl K am th rw lg mr en pw sl ly dn iz tz u.1 u.2.1 u.2.2.1 u.2.2.2.1 u.2.2.2.2.1 u.2.2.2.2.2.1 hO hB ol rm oz, gArr K 95 rw u.2.2.2.2.2.2, gArrB K 400 (am 10) IF]) 0 0 := by
  refine mV_of cX9_parseLayer 4 (by decide) rfl (Nat.le_of_ble_eq_true rfl) ?_
  intro p e s m below meth c A ls Q S C hG hl hr hlk hin hQ
  have S : CallFix p m c cX9_parseLayer 4 s ([.ref (am 0)] : List Value).toArray wsX9_parseLayer RX9 := S
  have iX90 : ∀ w ∈ wsX90, w ∈ wsX9_parseLayer := fun _ h => List.mem_cons_of_mem _ (List.mem_append_right _ (h))
  have hl : lv_has ls 4 [(0, .ref (am 0))] := hl
  have hG : gW K A s.heap [gMdl K am th rw lg mr en pw sl ly dn iz tz nx st tk vl ef ep hO hB ol rm oz, gArr K 95 rw NF, gArrB K 400 (am 10) IF] s.heap [] := hG
  have n0 := hN.1
  refine lv_aload_n S.1 S.2.1 dX9_parseLayer_0 rfl (lv_at hl 0 rfl) ?_
  refine lv_aload_n S.1 S.2.1 dX9_parseLayer_1 rfl (lv_at hl 0 rfl) ?_
  refine g_invV (As := []) (rest := [.ref (am 0)]) (gs' := (fun u : Unit => [gMdl K am th rw lg mr en pw sl ly dn iz tz nx st tk vl ef ep hO hB ol rm oz, gArr K 95 rw NF, gArrB K 400 (am 10) IF])) S C hG [0, 1] (c_X9_layers l K am th rw lg mr en pw sl ly dn iz tz nx st tk vl ef ep hO hB ol rm oz NF) rfl rfl 0 rfl rfl (cwV 0 S.2.2.2.2 gX9_parseLayer_X9_layers rfl rfl rfl (by decide +kernel) ⟨Nat.le_of_ble_eq_true rfl, Nat.le_of_ble_eq_true rfl⟩) rfl hl.1 rfl (Nat.le_of_ble_eq_true rfl) dX9_parseLayer_2 ⟨Nat.le_of_ble_eq_true rfl, Nat.le_of_ble_eq_true rfl⟩ (fun _ => Nat.le_of_ble_eq_true rfl) (fun _ => rfl) (fun v u H locs hp hG => ?_)
  subst hp
  refine g_bipush S dX9_parseLayer_5 (by decide) ?_
  have J15 : ∀ (H : Heap) (locs : List Loc) (ls : Array Slot), lv_has ls 4 [(0, .ref (am 0))] → gW K A s.heap [gMdl K am th rw lg mr en pw sl ly dn iz tz nx st tk vl ef ep hO hB ol rm oz, gArr K 95 rw NF, gArrB K 400 (am 10) IF] H locs → W p l e { frames := 7, cells := 0, slots := 0, locals := 152 } s m ([.ref (am 0)] : List Value).toArray below meth c H locs 0 0 Q (F0 m 15 ls [.int (iI (bI (10 ≤ NF 0))), .ref (am 0)]) := by
    intro  H locs ls  hl hG
    refine g_bipush S dX9_parseLayer_15 (by decide) ?_
    refine g_invVv (As := [.int (iI (bI (10 ≤ NF 0))), .int (iI 6)]) (rest := []) (gs' := (fun u : Int × Int => [gMdl K am th rw lg mr en pw sl ly dn iz tz nx st tk vl u.1 u.2 hO hB ol rm oz, gArr K 95 rw NF, gArrB K 400 (am 10) IF])) S C hG [0] (c_X9_errsIf l K am th rw lg mr en pw sl ly dn iz tz nx st tk vl ef ep hO hB ol rm oz IF (.inr tp) (bI (10 ≤ NF 0)) 6 hM (by decide) (bI_01 _)) rfl rfl 0 rfl rfl (cwV 2 S.2.2.2.2 gX9_parseLayer_X9_errsIf rfl rfl rfl (by decide +kernel) ⟨Nat.le_of_ble_eq_true rfl, Nat.le_of_ble_eq_true rfl⟩) rfl hl.1 rfl (Nat.le_of_ble_eq_true rfl) dX9_parseLayer_17 ⟨Nat.le_of_ble_eq_true rfl, Nat.le_of_ble_eq_true rfl⟩ (fun _ => Nat.le_of_ble_eq_true rfl) (fun _ => rfl) (fun u H locs hp hG => ?_)
    obtain ⟨ef2_17, ep2_17⟩ := u
    have hM2_17 := hp
    have hM2_17 : MSt IF tz (pb (.inr tp) fun i => if (bI (10 ≤ NF 0)) = 1 then fl IF tz i 6 else .inr i) nx st tk vl ef2_17 ep2_17 := hM2_17
    have hG : gW K A s.heap [gMdl K am th rw lg mr en pw sl ly dn iz tz nx st tk vl ef2_17 ep2_17 hO hB ol rm oz, gArr K 95 rw NF, gArrB K 400 (am 10) IF] _ _ := hG
    refine lv_aload_n S.1 S.2.1 dX9_parseLayer_20 rfl (lv_at hl 0 rfl) ?_
    refine g_invVv (As := []) (rest := []) (gs' := (fun u : Int × Int × Int × Int => [gMdl K am th rw lg mr en pw sl ly dn iz tz u.1 u.2.1 u.2.2.1 u.2.2.2 ef2_17 ep2_17 hO hB ol rm oz, gArr K 95 rw NF, gArrB K 400 (am 10) IF])) S C hG [0, 2] (c_X9_goOn l K am th rw lg mr en pw sl ly dn iz tz nx st tk vl ef2_17 ep2_17 hO hB ol rm oz IF (x1F IF tz tp (bI (10 ≤ NF 0)) 6) htz hM2_17) rfl rfl 0 rfl rfl (cwV 0 S.2.2.2.2 gX9_parseLayer_X9_goOn rfl rfl rfl (by decide +kernel) ⟨Nat.le_of_ble_eq_true rfl, Nat.le_of_ble_eq_true rfl⟩) rfl hl.1 rfl (Nat.le_of_ble_eq_true rfl) dX9_parseLayer_21 ⟨Nat.le_of_ble_eq_true rfl, Nat.le_of_ble_eq_true rfl⟩ (fun _ => Nat.le_of_ble_eq_true rfl) (fun _ => rfl) (fun u H locs hp hG => ?_)
    obtain ⟨nx2_21, st2_21, tk2_21, vl2_21⟩ := u
    have hM2_21 := hp
    have hM2_21 : MSt IF tz (pb (x1F IF tz tp (bI (10 ≤ NF 0)) 6) fun i => .inr (tkE IF tz i)) nx2_21 st2_21 tk2_21 vl2_21 ef2_17 ep2_17 := hM2_21
    have hG : gW K A s.heap [gMdl K am th rw lg mr en pw sl ly dn iz tz nx2_21 st2_21 tk2_21 vl2_21 ef2_17 ep2_17 hO hB ol rm oz, gArr K 95 rw NF, gArrB K 400 (am 10) IF] _ _ := hG
    refine lv_aload_n S.1 S.2.1 dX9_parseLayer_24 rfl (lv_at hl 0 rfl) ?_
    refine g_sipush S dX9_parseLayer_25 (by decide) ?_
    refine g_sipush S dX9_parseLayer_28 (by decide) ?_
    refine g_invV (As := [.int (iI 1000), .int (iI 4000)]) (rest := []) (gs' := (fun u : Int × Int × Int × Int × Int × Int × Int => [gMdl K am th rw lg mr en pw sl ly dn iz tz u.2.1 u.2.2.1 u.2.2.2.1 u.2.2.2.2.1 u.2.2.2.2.2.1 u.2.2.2.2.2.2 hO hB ol rm oz, gArr K 95 rw NF, gArrB K 400 (am 10) IF])) S C hG [0, 2] (c_X9_number l K am th rw lg mr en pw sl ly dn iz tz nx2_21 st2_21 tk2_21 vl2_21 ef2_17 ep2_17 hO hB ol rm oz IF (goF IF tz (x1F IF tz tp (bI (10 ≤ NF 0)) 6)) 1000 4000 htz hM2_21 (by decide) (by decide)) rfl rfl 0 rfl rfl (cwV 2 S.2.2.2.2 gX9_parseLayer_X9_number rfl rfl rfl (by decide +kernel) ⟨Nat.le_of_ble_eq_true rfl, Nat.le_of_ble_eq_true rfl⟩) rfl hl.1 rfl (Nat.le_of_ble_eq_true rfl) dX9_parseLayer_31 ⟨Nat.le_of_ble_eq_true rfl, Nat.le_of_ble_eq_true rfl⟩ (fun _ => Nat.le_of_ble_eq_true rfl) (fun _ => rfl) (fun v u H locs hp hG => ?_)
    obtain ⟨r9_31, nx2_31, st2_31, tk2_31, vl2_31, ef2_31, ep2_31⟩ := u
    obtain ⟨rfl, hM2_31, hr_31⟩ := hp
    have hM2_31 : MSt IF tz (pb (goF IF tz (x1F IF tz tp (bI (10 ≤ NF 0)) 6)) fun i => pb (numE IF tz i 1000 4000) fun _ => .inr (tkE IF tz i)) nx2_31 st2_31 tk2_31 vl2_31 ef2_31 ep2_31 := hM2_31
    have hr_31 : (1000 ≤ r9_31 ∧ r9_31 ≤ 4000) ∧ ∀ i, (goF IF tz (x1F IF tz tp (bI (10 ≤ NF 0)) 6)) = .inr i → okE (numE IF tz i 1000 4000) → r9_31 = tkV IF tz i := hr_31
    have hG : gW K A s.heap [gMdl K am th rw lg mr en pw sl ly dn iz tz nx2_31 st2_31 tk2_31 vl2_31 ef2_31 ep2_31 hO hB ol rm oz, gArr K 95 rw NF, gArrB K 400 (am 10) IF] _ _ := hG
    refine lv_istore_n (lv' := [(1, .int (iI r9_31)), (0, .ref (am 0))]) S.1 S.2.1 dX9_parseLayer_34 rfl hl (by decide) rfl (fun ls hl => ?_)
    refine lv_aload_n S.1 S.2.1 dX9_parseLayer_35 rfl (lv_at hl 1 rfl) ?_
    refine g_ldcSW (q := K.2.2.2.1 1) S.1 S.2.1 S.2.2.2.1 (C.1.2.2.1 (RX9, 272, "thick", 1) sw_31) dX9_parseLayer_36 ?_
    refine g_iconst S dX9_parseLayer_39 ?_
    refine g_sipush S dX9_parseLayer_40 (by decide) ?_
    refine g_invV (As := [.ref (K.2.2.2.1 1), .int (iI 1), .int (iI 999)]) (rest := []) (gs' := (fun u : Int × Int × Int × Int × Int × Int × Int => [gMdl K am th rw lg mr en pw sl ly dn iz tz u.2.1 u.2.2.1 u.2.2.2.1 u.2.2.2.2.1 u.2.2.2.2.2.1 u.2.2.2.2.2.2 hO hB ol rm oz, gArr K 95 rw NF, gArrB K 400 (am 10) IF])) S C hG [0, 2] (c_X9_numberAfter l K am th rw lg mr en pw sl ly dn iz tz nx2_31 st2_31 tk2_31 vl2_31 ef2_31 ep2_31 hO hB ol rm oz IF (nuF IF tz 1000 4000 (goF IF tz (x1F IF tz tp (bI (10 ≤ NF 0)) 6))) 1 wThick 1 999 htz hM2_31 tx_thick (by decide) (by decide) (by decide)) rfl rfl 0 rfl rfl (cwV 3 S.2.2.2.2 gX9_parseLayer_X9_numberAfter rfl rfl rfl (by decide +kernel) ⟨Nat.le_of_ble_eq_true rfl, Nat.le_of_ble_eq_true rfl⟩) rfl hl.1 rfl (Nat.le_of_ble_eq_true rfl) dX9_parseLayer_43 ⟨Nat.le_of_ble_eq_true rfl, Nat.le_of_ble_eq_true rfl⟩ (fun _ => Nat.le_of_ble_eq_true rfl) (fun _ => rfl) (fun v u H locs hp hG => ?_)
    obtain ⟨r9_43, nx2_43, st2_43, tk2_43, vl2_43, ef2_43, ep2_43⟩ := u
    obtain ⟨rfl, hM2_43, hr_43⟩ := hp
    have hM2_43 : MSt IF tz (pb (nuF IF tz 1000 4000 (goF IF tz (x1F IF tz tp (bI (10 ≤ NF 0)) 6))) fun iq => pb (wdE IF tz iq wThick) fun _ => pb (numE IF tz (tkE IF tz iq) 1 999) fun _ => .inr (tkE IF tz (tkE IF tz iq))) nx2_43 st2_43 tk2_43 vl2_43 ef2_43 ep2_43 := hM2_43
    have hr_43 : (1 ≤ r9_43 ∧ r9_43 ≤ 999) ∧ ∀ iq, (nuF IF tz 1000 4000 (goF IF tz (x1F IF tz tp (bI (10 ≤ NF 0)) 6))) = .inr iq → okE (wdE IF tz iq wThick) → okE (numE IF tz (tkE IF tz iq) 1 999) → r9_43 = tkV IF tz (tkE IF tz iq) := hr_43
    have hG : gW K A s.heap [gMdl K am th rw lg mr en pw sl ly dn iz tz nx2_43 st2_43 tk2_43 vl2_43 ef2_43 ep2_43 hO hB ol rm oz, gArr K 95 rw NF, gArrB K 400 (am 10) IF] _ _ := hG
    refine lv_istore_n (lv' := [(2, .int (iI r9_43)), (1, .int (iI r9_31)), (0, .ref (am 0))]) S.1 S.2.1 dX9_parseLayer_46 rfl hl (by decide) rfl (fun ls hl => ?_)
    refine lv_aload_n S.1 S.2.1 dX9_parseLayer_47 rfl (lv_at hl 2 rfl) ?_
    refine g_ldcSW (q := K.2.2.2.1 2) S.1 S.2.1 S.2.2.2.1 (C.1.2.2.1 (RX9, 278, "loss", 2) sw_32) dX9_parseLayer_48 ?_
    refine g_invV (As := [.ref (K.2.2.2.1 2)]) (rest := []) (gs' := (fun u : Unit => [gMdl K am th rw lg mr en pw sl ly dn iz tz nx2_43 st2_43 tk2_43 vl2_43 ef2_43 ep2_43 hO hB ol rm oz, gArr K 95 rw NF, gArrB K 400 (am 10) IF])) S C hG [0, 2] (c_X9_isWord l K am th rw lg mr en pw sl ly dn iz tz nx2_43 st2_43 tk2_43 vl2_43 ef2_43 ep2_43 hO hB ol rm oz IF (layX IF NF tz tp) 2 wLoss htz hM2_43 tx_loss (by decide)) rfl rfl 0 rfl rfl (cwV 1 S.2.2.2.2 gX9_parseLayer_X9_isWord rfl rfl rfl (by decide +kernel) ⟨Nat.le_of_ble_eq_true rfl, Nat.le_of_ble_eq_true rfl⟩) rfl hl.1 rfl (Nat.le_of_ble_eq_true rfl) dX9_parseLayer_51 ⟨Nat.le_of_ble_eq_true rfl, Nat.le_of_ble_eq_true rfl⟩ (fun _ => Nat.le_of_ble_eq_true rfl) (fun _ => rfl) (fun v u H locs hp hG => ?_)
    subst hp
    refine g_ifeq_b (B := (wdX IF tz (layX IF NF tz tp) wLoss = true)) (tgt := 70) S dX9_parseLayer_54 (by decide) (fun q54 => ?_) (fun q54 => ?_)
    · skip
      refine g_iconst S dX9_parseLayer_70 ?_
      refine lv_istore_n (lv' := [(3, .int (iI 0)), (2, .int (iI r9_43)), (1, .int (iI r9_31)), (0, .ref (am 0))]) S.1 S.2.1 dX9_parseLayer_71 rfl hl (by decide) rfl (fun ls hl => ?_)
      refine lv_aload_n S.1 S.2.1 dX9_parseLayer_72 rfl (lv_at hl 3 rfl) ?_
      refine g_invVv (As := []) (rest := []) (gs' := (fun u : Int × Int × Int × Int × Int × Int => [gMdl K am th rw lg mr en pw sl ly dn iz tz u.1 u.2.1 u.2.2.1 u.2.2.2.1 u.2.2.2.2.1 u.2.2.2.2.2 hO hB ol rm oz, gArr K 95 rw NF, gArrB K 400 (am 10) IF])) S C hG [0, 2] (c_X9_semicolon l K am th rw lg mr en pw sl ly dn iz tz nx2_43 st2_43 tk2_43 vl2_43 ef2_43 ep2_43 hO hB ol rm oz IF (layX IF NF tz tp) htz hM2_43) rfl rfl 0 rfl rfl (cwV 0 S.2.2.2.2 gX9_parseLayer_X9_semicolon rfl rfl rfl (by decide +kernel) ⟨Nat.le_of_ble_eq_true rfl, Nat.le_of_ble_eq_true rfl⟩) rfl hl.1 rfl (Nat.le_of_ble_eq_true rfl) dX9_parseLayer_73 ⟨Nat.le_of_ble_eq_true rfl, Nat.le_of_ble_eq_true rfl⟩ (fun _ => Nat.le_of_ble_eq_true rfl) (fun _ => rfl) (fun u H locs hp hG => ?_)
      obtain ⟨nx2_73, st2_73, tk2_73, vl2_73, ef2_73, ep2_73⟩ := u
      have hM2_73 := hp
      have hM2_73 : MSt IF tz (pb (layX IF NF tz tp) fun i => pb (smE IF tz i) fun _ => .inr (tkE IF tz i)) nx2_73 st2_73 tk2_73 vl2_73 ef2_73 ep2_73 := hM2_73
      have hG : gW K A s.heap [gMdl K am th rw lg mr en pw sl ly dn iz tz nx2_73 st2_73 tk2_73 vl2_73 ef2_73 ep2_73 hO hB ol rm oz, gArr K 95 rw NF, gArrB K 400 (am 10) IF] _ _ := hG
      have hM9 : MSt IF tz (pb (layE IF tz tp NF hO hB) fun t => .inr t.1) nx2_73 st2_73 tk2_73 vl2_73 ef2_73 ep2_73 := by (have z : MSt IF tz (smF IF tz (layX IF NF tz tp)) _ _ _ _ _ _ := hM2_73 <;> rw [lay_eqF (N := NF) (ho := hO) (hb := hB) q54] at z <;> exact z)
      have hL9 := lay_ok (ho := hO) (hb := hB) hN hr_31.2 hr_43.2 (Or.inr ⟨q54, rfl⟩)
      have xr9 := hM9.rg
      refine lv_aload_n S.1 S.2.1 dX9_parseLayer_76 rfl (lv_at hl 3 rfl) ?_
      refine g_invV (As := []) (rest := []) (gs' := (fun u : Unit => [gMdl K am th rw lg mr en pw sl ly dn iz tz nx2_73 st2_73 tk2_73 vl2_73 ef2_73 ep2_73 hO hB ol rm oz, gArr K 95 rw NF, gArrB K 400 (am 10) IF])) S C hG [0] (c_X9_good l K am th rw lg mr en pw sl ly dn iz tz nx2_73 st2_73 tk2_73 vl2_73 ef2_73 ep2_73 hO hB ol rm oz (by omega)) rfl rfl 0 rfl rfl (cwV 0 S.2.2.2.2 gX9_parseLayer_X9_good rfl rfl rfl (by decide +kernel) ⟨Nat.le_of_ble_eq_true rfl, Nat.le_of_ble_eq_true rfl⟩) rfl hl.1 rfl (Nat.le_of_ble_eq_true rfl) dX9_parseLayer_77 ⟨Nat.le_of_ble_eq_true rfl, Nat.le_of_ble_eq_true rfl⟩ (fun _ => Nat.le_of_ble_eq_true rfl) (fun _ => rfl) (fun v u H locs hp hG => ?_)
      subst hp
      refine g_ifeq_b (B := (ef2_73 = 0)) (tgt := 94) S dX9_parseLayer_80 (by decide) (fun q80 => ?_) (fun q80 => ?_)
      · skip
        have hG : gW K A s.heap [gMdl K am th rw lg mr en pw sl ly dn iz tz nx2_73 st2_73 tk2_73 vl2_73 ef2_73 ep2_73 hO hB ol rm oz, gArr K 95 rw NF, gArrB K 400 (am 10) IF] _ _ := hG
        exact g_vret S hr hlk hQ dX9_parseLayer_94 (Nat.le_of_ble_eq_true rfl) (Nat.le_of_ble_eq_true rfl) ((nx2_73, st2_73, tk2_73, vl2_73, ef2_73, ep2_73, NF) : Int × Int × Int × Int × Int × Int × (Int → Int)) ⟨hM9, (hM9.noS q80 _ _ _)⟩ hG
      · skip
        refine lv_aload_n S.1 S.2.1 dX9_parseLayer_83 rfl (lv_at hl 3 rfl) ?_
        refine lv_aload_n S.1 S.2.1 dX9_parseLayer_84 rfl (lv_at hl 3 rfl) ?_
        refine g_invV (As := []) (rest := [.ref (am 0)]) (gs' := (fun u : Unit => [gMdl K am th rw lg mr en pw sl ly dn iz tz nx2_73 st2_73 tk2_73 vl2_73 ef2_73 ep2_73 hO hB ol rm oz, gArr K 95 rw NF, gArrB K 400 (am 10) IF])) S C hG [0, 1] (c_X9_layers l K am th rw lg mr en pw sl ly dn iz tz nx2_73 st2_73 tk2_73 vl2_73 ef2_73 ep2_73 hO hB ol rm oz NF) rfl rfl 0 rfl rfl (cwV 0 S.2.2.2.2 gX9_parseLayer_X9_layers rfl rfl rfl (by decide +kernel) ⟨Nat.le_of_ble_eq_true rfl, Nat.le_of_ble_eq_true rfl⟩) rfl hl.1 rfl (Nat.le_of_ble_eq_true rfl) dX9_parseLayer_85 ⟨Nat.le_of_ble_eq_true rfl, Nat.le_of_ble_eq_true rfl⟩ (fun _ => Nat.le_of_ble_eq_true rfl) (fun _ => rfl) (fun v u H locs hp hG => ?_)
        subst hp
        refine lv_iload_n S.1 S.2.1 dX9_parseLayer_88 rfl (lv_at hl 2 rfl) ?_
        refine lv_iload_n S.1 S.2.1 dX9_parseLayer_89 rfl (lv_at hl 1 rfl) ?_
        refine lv_iload_n S.1 S.2.1 dX9_parseLayer_90 rfl (lv_at hl 0 rfl) ?_
        refine g_invVv (As := [.int (iI (NF 0)), .int (iI r9_31), .int (iI r9_43), .int (iI 0)]) (rest := []) (gs' := (fun u : (Int → Int) => [gMdl K am th rw lg mr en pw sl ly dn iz tz nx2_73 st2_73 tk2_73 vl2_73 ef2_73 ep2_73 hO hB ol rm oz, gArr K 95 rw u, gArrB K 400 (am 10) IF])) S C hG [0, 1] (c_X9_addOne l K am th rw lg mr en pw sl ly dn iz tz nx2_73 st2_73 tk2_73 vl2_73 ef2_73 ep2_73 hO hB ol rm oz NF (NF 0) r9_31 r9_43 0 (by omega) (by obtain ⟨t9, ht9⟩ := hM9.okS q80 <;> exact (hL9 t9 ht9).1)) rfl rfl 0 rfl rfl (cwV 4 S.2.2.2.2 gX9_parseLayer_X9_addOne rfl rfl rfl (by decide +kernel) ⟨Nat.le_of_ble_eq_true rfl, Nat.le_of_ble_eq_true rfl⟩) rfl hl.1 rfl (Nat.le_of_ble_eq_true rfl) dX9_parseLayer_91 ⟨Nat.le_of_ble_eq_true rfl, Nat.le_of_ble_eq_true rfl⟩ (fun _ => Nat.le_of_ble_eq_true rfl) (fun _ => rfl) (fun u H locs hp hG => ?_)
        obtain ⟨F2_91, rfl⟩ : ∃ z, z = u := ⟨_, rfl⟩
        have hF_91 := hp
        have hF_91 : F2_91 = insLN NF (NF 0) r9_31 r9_43 0 := hF_91
        have hG : gW K A s.heap [gMdl K am th rw lg mr en pw sl ly dn iz tz nx2_73 st2_73 tk2_73 vl2_73 ef2_73 ep2_73 hO hB ol rm oz, gArr K 95 rw F2_91, gArrB K 400 (am 10) IF] _ _ := hG
        have hG : gW K A s.heap [gMdl K am th rw lg mr en pw sl ly dn iz tz nx2_73 st2_73 tk2_73 vl2_73 ef2_73 ep2_73 hO hB ol rm oz, gArr K 95 rw F2_91, gArrB K 400 (am 10) IF] _ _ := hG
        exact g_vret S hr hlk hQ dX9_parseLayer_94 (Nat.le_of_ble_eq_true rfl) (Nat.le_of_ble_eq_true rfl) ((nx2_73, st2_73, tk2_73, vl2_73, ef2_73, ep2_73, F2_91) : Int × Int × Int × Int × Int × Int × (Int → Int)) ⟨hM9, (fun t ht => by rw [show _ = _ from hF_91, insLN_add NF (by omega)] <;> exact (hL9 t ht).2)⟩ hG
    · skip
      refine lv_aload_n S.1 S.2.1 dX9_parseLayer_57 rfl (lv_at hl 2 rfl) ?_
      refine g_ldcSW (q := K.2.2.2.1 2) S.1 S.2.1 S.2.2.2.1 (C.1.2.2.1 (RX9, 278, "loss", 2) sw_32) dX9_parseLayer_58 ?_
      refine g_iconst S dX9_parseLayer_61 ?_
      refine g_bipush S dX9_parseLayer_62 (by decide) ?_
      refine g_invV (As := [.ref (K.2.2.2.1 2), .int (iI 0), .int (iI 99)]) (rest := []) (gs' := (fun u : Int × Int × Int × Int × Int × Int × Int => [gMdl K am th rw lg mr en pw sl ly dn iz tz u.2.1 u.2.2.1 u.2.2.2.1 u.2.2.2.2.1 u.2.2.2.2.2.1 u.2.2.2.2.2.2 hO hB ol rm oz, gArr K 95 rw NF, gArrB K 400 (am 10) IF])) S C hG [0, 2] (c_X9_numberAfter l K am th rw lg mr en pw sl ly dn iz tz nx2_43 st2_43 tk2_43 vl2_43 ef2_43 ep2_43 hO hB ol rm oz IF (layX IF NF tz tp) 2 wLoss 0 99 htz hM2_43 tx_loss (by decide) (by decide) (by decide)) rfl rfl 0 rfl rfl (cwV 3 S.2.2.2.2 gX9_parseLayer_X9_numberAfter rfl rfl rfl (by decide +kernel) ⟨Nat.le_of_ble_eq_true rfl, Nat.le_of_ble_eq_true rfl⟩) rfl hl.1 rfl (Nat.le_of_ble_eq_true rfl) dX9_parseLayer_64 ⟨Nat.le_of_ble_eq_true rfl, Nat.le_of_ble_eq_true rfl⟩ (fun _ => Nat.le_of_ble_eq_true rfl) (fun _ => rfl) (fun v u H locs hp hG => ?_)
      obtain ⟨r9_64, nx2_64, st2_64, tk2_64, vl2_64, ef2_64, ep2_64⟩ := u
      obtain ⟨rfl, hM2_64, hr_64⟩ := hp
      have hM2_64 : MSt IF tz (pb (layX IF NF tz tp) fun iq => pb (wdE IF tz iq wLoss) fun _ => pb (numE IF tz (tkE IF tz iq) 0 99) fun _ => .inr (tkE IF tz (tkE IF tz iq))) nx2_64 st2_64 tk2_64 vl2_64 ef2_64 ep2_64 := hM2_64
      have hr_64 : (0 ≤ r9_64 ∧ r9_64 ≤ 99) ∧ ∀ iq, (layX IF NF tz tp) = .inr iq → okE (wdE IF tz iq wLoss) → okE (numE IF tz (tkE IF tz iq) 0 99) → r9_64 = tkV IF tz (tkE IF tz iq) := hr_64
      have hG : gW K A s.heap [gMdl K am th rw lg mr en pw sl ly dn iz tz nx2_64 st2_64 tk2_64 vl2_64 ef2_64 ep2_64 hO hB ol rm oz, gArr K 95 rw NF, gArrB K 400 (am 10) IF] _ _ := hG
      refine lv_goto (tgt := 71) S.1 S.2.1 dX9_parseLayer_67 (by decide) ?_
      refine lv_istore_n (lv' := [(3, .int (iI r9_64)), (2, .int (iI r9_43)), (1, .int (iI r9_31)), (0, .ref (am 0))]) S.1 S.2.1 dX9_parseLayer_71 rfl hl (by decide) rfl (fun ls hl => ?_)
      refine lv_aload_n S.1 S.2.1 dX9_parseLayer_72 rfl (lv_at hl 3 rfl) ?_
      refine g_invVv (As := []) (rest := []) (gs' := (fun u : Int × Int × Int × Int × Int × Int => [gMdl K am th rw lg mr en pw sl ly dn iz tz u.1 u.2.1 u.2.2.1 u.2.2.2.1 u.2.2.2.2.1 u.2.2.2.2.2 hO hB ol rm oz, gArr K 95 rw NF, gArrB K 400 (am 10) IF])) S C hG [0, 2] (c_X9_semicolon l K am th rw lg mr en pw sl ly dn iz tz nx2_64 st2_64 tk2_64 vl2_64 ef2_64 ep2_64 hO hB ol rm oz IF (naF IF tz 0 99 wLoss (layX IF NF tz tp)) htz hM2_64) rfl rfl 0 rfl rfl (cwV 0 S.2.2.2.2 gX9_parseLayer_X9_semicolon rfl rfl rfl (by decide +kernel) ⟨Nat.le_of_ble_eq_true rfl, Nat.le_of_ble_eq_true rfl⟩) rfl hl.1 rfl (Nat.le_of_ble_eq_true rfl) dX9_parseLayer_73 ⟨Nat.le_of_ble_eq_true rfl, Nat.le_of_ble_eq_true rfl⟩ (fun _ => Nat.le_of_ble_eq_true rfl) (fun _ => rfl) (fun u H locs hp hG => ?_)
      obtain ⟨nx2_73, st2_73, tk2_73, vl2_73, ef2_73, ep2_73⟩ := u
      have hM2_73 := hp
      have hM2_73 : MSt IF tz (pb (naF IF tz 0 99 wLoss (layX IF NF tz tp)) fun i => pb (smE IF tz i) fun _ => .inr (tkE IF tz i)) nx2_73 st2_73 tk2_73 vl2_73 ef2_73 ep2_73 := hM2_73
      have hG : gW K A s.heap [gMdl K am th rw lg mr en pw sl ly dn iz tz nx2_73 st2_73 tk2_73 vl2_73 ef2_73 ep2_73 hO hB ol rm oz, gArr K 95 rw NF, gArrB K 400 (am 10) IF] _ _ := hG
      have hM9 : MSt IF tz (pb (layE IF tz tp NF hO hB) fun t => .inr t.1) nx2_73 st2_73 tk2_73 vl2_73 ef2_73 ep2_73 := by (have z : MSt IF tz (smF IF tz (naF IF tz 0 99 wLoss (layX IF NF tz tp))) _ _ _ _ _ _ := hM2_73 <;> rw [lay_eqT (N := NF) (ho := hO) (hb := hB) q54] at z <;> exact z)
      have hL9 := lay_ok (ho := hO) (hb := hB) hN hr_31.2 hr_43.2 (Or.inl ⟨q54, hr_64.2⟩)
      have xr9 := hM9.rg
      refine lv_aload_n S.1 S.2.1 dX9_parseLayer_76 rfl (lv_at hl 3 rfl) ?_
      refine g_invV (As := []) (rest := []) (gs' := (fun u : Unit => [gMdl K am th rw lg mr en pw sl ly dn iz tz nx2_73 st2_73 tk2_73 vl2_73 ef2_73 ep2_73 hO hB ol rm oz, gArr K 95 rw NF, gArrB K 400 (am 10) IF])) S C hG [0] (c_X9_good l K am th rw lg mr en pw sl ly dn iz tz nx2_73 st2_73 tk2_73 vl2_73 ef2_73 ep2_73 hO hB ol rm oz (by omega)) rfl rfl 0 rfl rfl (cwV 0 S.2.2.2.2 gX9_parseLayer_X9_good rfl rfl rfl (by decide +kernel) ⟨Nat.le_of_ble_eq_true rfl, Nat.le_of_ble_eq_true rfl⟩) rfl hl.1 rfl (Nat.le_of_ble_eq_true rfl) dX9_parseLayer_77 ⟨Nat.le_of_ble_eq_true rfl, Nat.le_of_ble_eq_true rfl⟩ (fun _ => Nat.le_of_ble_eq_true rfl) (fun _ => rfl) (fun v u H locs hp hG => ?_)
      subst hp
      refine g_ifeq_b (B := (ef2_73 = 0)) (tgt := 94) S dX9_parseLayer_80 (by decide) (fun q80 => ?_) (fun q80 => ?_)
      · skip
        have hG : gW K A s.heap [gMdl K am th rw lg mr en pw sl ly dn iz tz nx2_73 st2_73 tk2_73 vl2_73 ef2_73 ep2_73 hO hB ol rm oz, gArr K 95 rw NF, gArrB K 400 (am 10) IF] _ _ := hG
        exact g_vret S hr hlk hQ dX9_parseLayer_94 (Nat.le_of_ble_eq_true rfl) (Nat.le_of_ble_eq_true rfl) ((nx2_73, st2_73, tk2_73, vl2_73, ef2_73, ep2_73, NF) : Int × Int × Int × Int × Int × Int × (Int → Int)) ⟨hM9, (hM9.noS q80 _ _ _)⟩ hG
      · skip
        refine lv_aload_n S.1 S.2.1 dX9_parseLayer_83 rfl (lv_at hl 3 rfl) ?_
        refine lv_aload_n S.1 S.2.1 dX9_parseLayer_84 rfl (lv_at hl 3 rfl) ?_
        refine g_invV (As := []) (rest := [.ref (am 0)]) (gs' := (fun u : Unit => [gMdl K am th rw lg mr en pw sl ly dn iz tz nx2_73 st2_73 tk2_73 vl2_73 ef2_73 ep2_73 hO hB ol rm oz, gArr K 95 rw NF, gArrB K 400 (am 10) IF])) S C hG [0, 1] (c_X9_layers l K am th rw lg mr en pw sl ly dn iz tz nx2_73 st2_73 tk2_73 vl2_73 ef2_73 ep2_73 hO hB ol rm oz NF) rfl rfl 0 rfl rfl (cwV 0 S.2.2.2.2 gX9_parseLayer_X9_layers rfl rfl rfl (by decide +kernel) ⟨Nat.le_of_ble_eq_true rfl, Nat.le_of_ble_eq_true rfl⟩) rfl hl.1 rfl (Nat.le_of_ble_eq_true rfl) dX9_parseLayer_85 ⟨Nat.le_of_ble_eq_true rfl, Nat.le_of_ble_eq_true rfl⟩ (fun _ => Nat.le_of_ble_eq_true rfl) (fun _ => rfl) (fun v u H locs hp hG => ?_)
        subst hp
        refine lv_iload_n S.1 S.2.1 dX9_parseLayer_88 rfl (lv_at hl 2 rfl) ?_
        refine lv_iload_n S.1 S.2.1 dX9_parseLayer_89 rfl (lv_at hl 1 rfl) ?_
        refine lv_iload_n S.1 S.2.1 dX9_parseLayer_90 rfl (lv_at hl 0 rfl) ?_
        refine g_invVv (As := [.int (iI (NF 0)), .int (iI r9_31), .int (iI r9_43), .int (iI r9_64)]) (rest := []) (gs' := (fun u : (Int → Int) => [gMdl K am th rw lg mr en pw sl ly dn iz tz nx2_73 st2_73 tk2_73 vl2_73 ef2_73 ep2_73 hO hB ol rm oz, gArr K 95 rw u, gArrB K 400 (am 10) IF])) S C hG [0, 1] (c_X9_addOne l K am th rw lg mr en pw sl ly dn iz tz nx2_73 st2_73 tk2_73 vl2_73 ef2_73 ep2_73 hO hB ol rm oz NF (NF 0) r9_31 r9_43 r9_64 (by omega) (by obtain ⟨t9, ht9⟩ := hM9.okS q80 <;> exact (hL9 t9 ht9).1)) rfl rfl 0 rfl rfl (cwV 4 S.2.2.2.2 gX9_parseLayer_X9_addOne rfl rfl rfl (by decide +kernel) ⟨Nat.le_of_ble_eq_true rfl, Nat.le_of_ble_eq_true rfl⟩) rfl hl.1 rfl (Nat.le_of_ble_eq_true rfl) dX9_parseLayer_91 ⟨Nat.le_of_ble_eq_true rfl, Nat.le_of_ble_eq_true rfl⟩ (fun _ => Nat.le_of_ble_eq_true rfl) (fun _ => rfl) (fun u H locs hp hG => ?_)
        obtain ⟨F2_91, rfl⟩ : ∃ z, z = u := ⟨_, rfl⟩
        have hF_91 := hp
        have hF_91 : F2_91 = insLN NF (NF 0) r9_31 r9_43 r9_64 := hF_91
        have hG : gW K A s.heap [gMdl K am th rw lg mr en pw sl ly dn iz tz nx2_73 st2_73 tk2_73 vl2_73 ef2_73 ep2_73 hO hB ol rm oz, gArr K 95 rw F2_91, gArrB K 400 (am 10) IF] _ _ := hG
        have hG : gW K A s.heap [gMdl K am th rw lg mr en pw sl ly dn iz tz nx2_73 st2_73 tk2_73 vl2_73 ef2_73 ep2_73 hO hB ol rm oz, gArr K 95 rw F2_91, gArrB K 400 (am 10) IF] _ _ := hG
        exact g_vret S hr hlk hQ dX9_parseLayer_94 (Nat.le_of_ble_eq_true rfl) (Nat.le_of_ble_eq_true rfl) ((nx2_73, st2_73, tk2_73, vl2_73, ef2_73, ep2_73, F2_91) : Int × Int × Int × Int × Int × Int × (Int → Int)) ⟨hM9, (fun t ht => by rw [show _ = _ from hF_91, insLN_add NF (by omega)] <;> exact (hL9 t ht).2)⟩ hG
  refine g_icmp_ne (tgt := 14) S dX9_parseLayer_7 (by decide) (by omega) (by omega) (fun q7 => ?_) (fun q7 => ?_)
  · skip
    refine g_iconst S dX9_parseLayer_14 ?_
    refine g_top (w := .int (iI (bI (10 ≤ NF 0)))) (congrArg (fun z : Int => Value.int (iI z)) ((bI_f (by omega)).symm)) ?_
    exact J15 _ _ _ (lv_sub hl [0] rfl) hG
  · skip
    refine g_iconst S dX9_parseLayer_10 ?_
    refine g_top (w := .int (iI (bI (10 ≤ NF 0)))) (congrArg (fun z : Int => Value.int (iI z)) ((bI_t (by omega)).symm)) ?_
    refine lv_goto (tgt := 15) S.1 S.2.1 dX9_parseLayer_11 (by decide) ?_
    exact J15 _ _ _ (lv_sub hl [0] rfl) hG
