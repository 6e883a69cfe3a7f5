set_option maxHeartbeats 1000000 in
set_option maxRecDepth 100000 in
theorem c_lo_no (l : Launch) (K : KC) (am : Nat → Nat) (th : Int) (lg : Int) (mr : Int) (en : Int) (pw : Int) (sl : Int) (ly : Int) (dn : Int) (iz : Int) (tz : Int) (nx : Int) (st : Int) (tk : Int) (vl : Int) (ef : Int) (ep : Int) (hO : Int) (hB : Int) (ol : Int) (rm : Int) (oz : Int) (NF : Int → Int) (DF : Int → Int) (IF : Int → Int) (PA : Int → Int) (h0 : 0 ≤ iz ∧ iz ≤ 400) (hx : ¬ okE (prsX IF iz)) : mG l yX9_load wsX9_load 9 195 K [.ref (am 0)] [gMdl K am th (am 1) lg mr en pw sl ly dn iz tz nx st tk vl ef ep hO hB ol rm oz, gArr K 95 (am 1) NF, gArr K 95 (am 2) DF, gArrB K 400 (am 10) IF, gArr K 570 (am 18) PA] (fun (v : Value) (u : Int × Int × Int × Int × Int × Int × Int × Int × (Int → Int)) => (v = .int (iI (-4))) ∧ (ErI (prsX IF iz) u.2.2.2.2.1 u.2.2.2.2.2.1)) (fun (u : Int × Int × Int × Int × Int × Int × Int × Int × (Int → Int)) => [gMdl K am 0 (am 1) lg mr en pw sl ly dn 0 iz u.1 u.2.1 u.2.2.1 u.2.2.2.1 u.2.2.2.2.1 u.2.2.2.2.2.1 u.2.2.2.2.2.2.1 u.2.2.2.2.2.2.2.1 ol rm oz, gArr K 95 (am 1) NF, gArr K 95 (am 2) u.2.2.2.2.2.2.2.2, gArrB K 400 (am 10) IF, gArr K 570 (am 18) PA]) 0 0 := by
  refine mG_of cX9_load 2 (by decide) rfl (Nat.le_of_ble_eq_true rfl) ?_
  intro p e s m below meth c A ls Q S C hG hl hr hlk hin hQ
  have S : CallFix p m c cX9_load 2 s ([.ref (am 0)] : List Value).toArray wsX9_load RX9 := S
  have iX90 : ∀ w ∈ wsX90, w ∈ wsX9_load := fun _ h => List.mem_cons_of_mem _ (List.mem_append_right _ (h))
  have hl : lv_has ls 2 [(0, .ref (am 0))] := hl
  have hG : gW K A s.heap [gMdl K am th (am 1) lg mr en pw sl ly dn iz tz nx st tk vl ef ep hO hB ol rm oz, gArr K 95 (am 1) NF, gArr K 95 (am 2) DF, gArrB K 400 (am 10) IF, gArr K 570 (am 18) PA] s.heap [] := hG
  refine lv_aload_n S.1 S.2.1 dX9_load_0 rfl (lv_at hl 0 rfl) ?_
  refine g_iconst S dX9_load_1 ?_
  refine g_put (gs' := [gMdl K am 0 (am 1) lg mr en pw sl ly dn iz tz nx st tk vl ef ep hO hB ol rm oz, gArr K 95 (am 1) NF, gArr K 95 (am 2) DF, gArrB K 400 (am 10) IF, gArr K 570 (am 18) PA]) S C hG iX90 tyX9 tyX9_ok nmX9 0 rfl rfl 0 (by decide) (List.mem_of_getElem? (i := 1) rfl) rfl rfl rfl (Nat.le_of_ble_eq_true rfl) rfl dX9_load_2 (fun H locs hG => ?_)
  refine lv_aload_n S.1 S.2.1 dX9_load_5 rfl (lv_at hl 0 rfl) ?_
  refine lv_aload_n S.1 S.2.1 dX9_load_6 rfl (lv_at hl 0 rfl) ?_
  refine g_get S C hG iX90 0 rfl rfl 19 (by decide) (List.mem_of_getElem? (i := 2) rfl) rfl dX9_load_7 ?_
  refine g_put (gs' := [gMdl K am 0 (am 1) lg mr en pw sl ly dn iz iz nx st tk vl ef ep hO hB ol rm oz, gArr K 95 (am 1) NF, gArr K 95 (am 2) DF, gArrB K 400 (am 10) IF, gArr K 570 (am 18) PA]) S C hG iX90 tyX9 tyX9_ok nmX9 0 rfl rfl 20 (by decide) (List.mem_of_getElem? (i := 3) rfl) rfl rfl rfl (Nat.le_of_ble_eq_true rfl) rfl dX9_load_10 (fun H locs hG => ?_)
  refine lv_aload_n S.1 S.2.1 dX9_load_13 rfl (lv_at hl 0 rfl) ?_
  refine g_iconst S dX9_load_14 ?_
  refine g_put (gs' := [gMdl K am 0 (am 1) lg mr en pw sl ly dn 0 iz nx st tk vl ef ep hO hB ol rm oz, gArr K 95 (am 1) NF, gArr K 95 (am 2) DF, gArrB K 400 (am 10) IF, gArr K 570 (am 18) PA]) S C hG iX90 tyX9 tyX9_ok nmX9 0 rfl rfl 19 (by decide) (List.mem_of_getElem? (i := 2) rfl) rfl rfl rfl (Nat.le_of_ble_eq_true rfl) rfl dX9_load_15 (fun H locs hG => ?_)
  refine lv_aload_n S.1 S.2.1 dX9_load_18 rfl (lv_at hl 0 rfl) ?_
  refine g_iconst S dX9_load_19 ?_
  refine g_put (gs' := [gMdl K am 0 (am 1) lg mr en pw sl ly dn 0 iz 0 st tk vl ef ep hO hB ol rm oz, gArr K 95 (am 1) NF, gArr K 95 (am 2) DF, gArrB K 400 (am 10) IF, gArr K 570 (am 18) PA]) S C hG iX90 tyX9 tyX9_ok nmX9 0 rfl rfl 21 (by decide) (List.mem_of_getElem? (i := 4) rfl) rfl rfl rfl (Nat.le_of_ble_eq_true rfl) rfl dX9_load_20 (fun H locs hG => ?_)
  refine lv_aload_n S.1 S.2.1 dX9_load_23 rfl (lv_at hl 0 rfl) ?_
  refine g_iconst S dX9_load_24 ?_
  refine g_put (gs' := [gMdl K am 0 (am 1) lg mr en pw sl ly dn 0 iz 0 st tk vl 0 ep hO hB ol rm oz, gArr K 95 (am 1) NF, gArr K 95 (am 2) DF, gArrB K 400 (am 10) IF, gArr K 570 (am 18) PA]) S C hG iX90 tyX9 tyX9_ok nmX9 0 rfl rfl 25 (by decide) (List.mem_of_getElem? (i := 5) rfl) rfl rfl rfl (Nat.le_of_ble_eq_true rfl) rfl dX9_load_25 (fun H locs hG => ?_)
  refine lv_aload_n S.1 S.2.1 dX9_load_28 rfl (lv_at hl 0 rfl) ?_
  refine g_iconst S dX9_load_29 ?_
  refine g_put (gs' := [gMdl K am 0 (am 1) lg mr en pw sl ly dn 0 iz 0 st tk vl 0 (-1) hO hB ol rm oz, gArr K 95 (am 1) NF, gArr K 95 (am 2) DF, gArrB K 400 (am 10) IF, gArr K 570 (am 18) PA]) S C hG iX90 tyX9 tyX9_ok nmX9 0 rfl rfl 26 (by decide) (List.mem_of_getElem? (i := 6) rfl) rfl rfl rfl (Nat.le_of_ble_eq_true rfl) rfl dX9_load_30 (fun H locs hG => ?_)
  refine lv_aload_n S.1 S.2.1 dX9_load_33 rfl (lv_at hl 0 rfl) ?_
  refine g_iconst S dX9_load_34 ?_
  refine g_put (gs' := [gMdl K am 0 (am 1) lg mr en pw sl ly dn 0 iz 0 st tk vl 0 (-1) 0 hB ol rm oz, gArr K 95 (am 1) NF, gArr K 95 (am 2) DF, gArrB K 400 (am 10) IF, gArr K 570 (am 18) PA]) S C hG iX90 tyX9 tyX9_ok nmX9 0 rfl rfl 27 (by decide) (List.mem_of_getElem? (i := 7) rfl) rfl (nz_b (Or.inl rfl)) (fz_b (Or.inl rfl)) (Nat.le_of_ble_eq_true rfl) rfl dX9_load_35 (fun H locs hG => ?_)
  refine lv_aload_n S.1 S.2.1 dX9_load_38 rfl (lv_at hl 0 rfl) ?_
  refine g_iconst S dX9_load_39 ?_
  refine g_put (gs' := [gMdl K am 0 (am 1) lg mr en pw sl ly dn 0 iz 0 st tk vl 0 (-1) 0 0 ol rm oz, gArr K 95 (am 1) NF, gArr K 95 (am 2) DF, gArrB K 400 (am 10) IF, gArr K 570 (am 18) PA]) S C hG iX90 tyX9 tyX9_ok nmX9 0 rfl rfl 28 (by decide) (List.mem_of_getElem? (i := 8) rfl) rfl (nz_b (Or.inl rfl)) (fz_b (Or.inl rfl)) (Nat.le_of_ble_eq_true rfl) rfl dX9_load_40 (fun H locs hG => ?_)
  refine lv_aload_n S.1 S.2.1 dX9_load_43 rfl (lv_at hl 0 rfl) ?_
  refine lv_aload_n S.1 S.2.1 dX9_load_44 rfl (lv_at hl 0 rfl) ?_
  refine g_get S C hG iX90 0 rfl rfl 2 (by decide) (List.mem_of_getElem? (i := 9) rfl) rfl dX9_load_45 ?_
  refine g_put (gs' := [gMdl K am 0 (am 2) lg mr en pw sl ly dn 0 iz 0 st tk vl 0 (-1) 0 0 ol rm oz, gArr K 95 (am 1) NF, gArr K 95 (am 2) DF, gArrB K 400 (am 10) IF, gArr K 570 (am 18) PA]) S C hG iX90 tyX9 tyX9_ok nmX9 0 rfl rfl 3 (by decide) (List.mem_of_getElem? (i := 10) rfl) rfl rfl rfl (Nat.le_of_ble_eq_true rfl) rfl dX9_load_48 (fun H locs hG => ?_)
  refine lv_aload_n S.1 S.2.1 dX9_load_51 rfl (lv_at hl 0 rfl) ?_
  refine g_invVv (As := []) (rest := []) (gs' := (fun u : (Int → Int) => [gMdl K am 0 (am 2) lg mr en pw sl ly dn 0 iz 0 st tk vl 0 (-1) 0 0 ol rm oz, gArr K 95 (am 1) NF, gArr K 95 (am 2) u, gArrB K 400 (am 10) IF, gArr K 570 (am 18) PA])) S C hG [0, 2] (c_X9_layPlain l K am 0 (am 2) lg mr en pw sl ly dn 0 iz 0 st tk vl 0 (-1) 0 0 ol rm oz DF) rfl rfl 0 rfl rfl (cwV 0 S.2.2.2.2 gX9_load_X9_layPlain rfl rfl rfl (by decide +kernel) ⟨Nat.le_of_ble_eq_true rfl, Nat.le_of_ble_eq_true rfl⟩) rfl hl.1 rfl (Nat.le_of_ble_eq_true rfl) dX9_load_52 ⟨Nat.le_of_ble_eq_true rfl, Nat.le_of_ble_eq_true rfl⟩ (fun _ => Nat.le_of_ble_eq_true rfl) (fun _ => rfl) (fun u H locs hp hG => ?_)
  obtain ⟨F2_52, rfl⟩ : ∃ z, z = u := ⟨_, rfl⟩
  have hF_52 := hp
  have hF_52 : ∀ j : Int, 0 ≤ j → j < 95 → F2_52 j = eN0 j := hF_52
  have hG : gW K A s.heap [gMdl K am 0 (am 2) lg mr en pw sl ly dn 0 iz 0 st tk vl 0 (-1) 0 0 ol rm oz, gArr K 95 (am 1) NF, gArr K 95 (am 2) F2_52, gArrB K 400 (am 10) IF, gArr K 570 (am 18) PA] _ _ := hG
  have hG : gW K A s.heap [gMdl K am 0 (am 2) lg mr en pw sl ly dn 0 iz 0 st tk vl 0 (-1) 0 0 ol rm oz, gArr K 95 (am 1) NF, gArr K 95 (am 2) eN0, gArrB K 400 (am 10) IF, gArr K 570 (am 18) PA] _ _ := gW_arr [gMdl K am 0 (am 2) lg mr en pw sl ly dn 0 iz 0 st tk vl 0 (-1) 0 0 ol rm oz, gArr K 95 (am 1) NF] [gArrB K 400 (am 10) IF, gArr K 570 (am 18) PA] (fun j hj => hF_52 j (by omega) (by omega)) hG
  refine lv_aload_n S.1 S.2.1 dX9_load_55 rfl (lv_at hl 0 rfl) ?_
  refine g_invVv (As := []) (rest := []) (gs' := (fun u : Int × Int × Int × Int => [gMdl K am 0 (am 2) lg mr en pw sl ly dn 0 iz u.1 u.2.1 u.2.2.1 u.2.2.2 0 (-1) 0 0 ol rm oz, gArr K 95 (am 1) NF, gArr K 95 (am 2) eN0, gArrB K 400 (am 10) IF, gArr K 570 (am 18) PA])) S C hG [0, 3] (c_X9_scan l K am 0 (am 2) lg mr en pw sl ly dn 0 iz 0 st tk vl 0 (-1) 0 0 ol rm oz IF h0 (by omega)) rfl rfl 0 rfl rfl (cwV 0 S.2.2.2.2 gX9_load_X9_scan rfl rfl rfl (by decide +kernel) ⟨Nat.le_of_ble_eq_true rfl, Nat.le_of_ble_eq_true rfl⟩) rfl hl.1 rfl (Nat.le_of_ble_eq_true rfl) dX9_load_56 ⟨Nat.le_of_ble_eq_true rfl, Nat.le_of_ble_eq_true rfl⟩ (fun _ => Nat.le_of_ble_eq_true rfl) (fun _ => rfl) (fun u H locs hp hG => ?_)
  obtain ⟨nx2_56, st2_56, tk2_56, vl2_56⟩ := u
  have hT_56 := hp
  have hT_56 : TokM IF iz 0 nx2_56 st2_56 tk2_56 vl2_56 := hT_56
  have hG : gW K A s.heap [gMdl K am 0 (am 2) lg mr en pw sl ly dn 0 iz nx2_56 st2_56 tk2_56 vl2_56 0 (-1) 0 0 ol rm oz, gArr K 95 (am 1) NF, gArr K 95 (am 2) eN0, gArrB K 400 (am 10) IF, gArr K 570 (am 18) PA] _ _ := hG
  have hM9 : MSt IF iz (.inr 0) nx2_56 st2_56 tk2_56 vl2_56 0 (-1) := ⟨rfl, rfl, ⟨by omega, by omega⟩, hT_56⟩
  refine lv_aload_n S.1 S.2.1 dX9_load_59 rfl (lv_at hl 0 rfl) ?_
  refine lv_aload_n S.1 S.2.1 dX9_load_60 rfl (lv_at hl 0 rfl) ?_
  refine g_ldcSW (q := K.2.2.2.1 0) S.1 S.2.1 S.2.2.2.1 (C.1.2.2.1 (RX9, 299, "layer", 0) sw_30) dX9_load_61 ?_
  refine g_invV (As := [.ref (K.2.2.2.1 0)]) (rest := [.ref (am 0)]) (gs' := (fun u : Unit => [gMdl K am 0 (am 2) lg mr en pw sl ly dn 0 iz nx2_56 st2_56 tk2_56 vl2_56 0 (-1) 0 0 ol rm oz, gArr K 95 (am 1) NF, gArr K 95 (am 2) eN0, gArrB K 400 (am 10) IF, gArr K 570 (am 18) PA])) S C hG [0, 3] (c_X9_isWord l K am 0 (am 2) lg mr en pw sl ly dn 0 iz nx2_56 st2_56 tk2_56 vl2_56 0 (-1) 0 0 ol rm oz IF (.inr 0) 0 wLayer h0 hM9 tx_layer (by decide)) rfl rfl 0 rfl rfl (cwV 1 S.2.2.2.2 gX9_load_X9_isWord rfl rfl rfl (by decide +kernel) ⟨Nat.le_of_ble_eq_true rfl, Nat.le_of_ble_eq_true rfl⟩) rfl hl.1 rfl (Nat.le_of_ble_eq_true rfl) dX9_load_64 ⟨Nat.le_of_ble_eq_true rfl, Nat.le_of_ble_eq_true rfl⟩ (fun _ => Nat.le_of_ble_eq_true rfl) (fun _ => rfl) (fun v u H locs hp hG => ?_)
  subst hp
  have J75 : ∀ (b0 : Int) (H : Heap) (locs : List Loc) (ls : Array Slot), ((b0 = 1 ∧ ¬ isWd IF iz 0 wLayer) ∨ (b0 = 0 ∧ isWd IF iz 0 wLayer)) → lv_has ls 2 [(0, .ref (am 0))] → gW K A s.heap [gMdl K am 0 (am 2) lg mr en pw sl ly dn 0 iz nx2_56 st2_56 tk2_56 vl2_56 0 (-1) 0 0 ol rm oz, gArr K 95 (am 1) NF, gArr K 95 (am 2) eN0, gArrB K 400 (am 10) IF, gArr K 570 (am 18) PA] H locs → W p l e { frames := 9, cells := 0, slots := 0, locals := 195 } s m ([.ref (am 0)] : List Value).toArray below meth c H locs 0 0 Q (F0 m 75 ls [.int (iI b0), .ref (am 0)]) := by
    intro b0 H locs ls hb0 hl hG
    refine g_iconst S dX9_load_75 ?_
    refine g_invVv (As := [.int (iI b0), .int (iI 1)]) (rest := []) (gs' := (fun u : Int × Int => [gMdl K am 0 (am 2) lg mr en pw sl ly dn 0 iz nx2_56 st2_56 tk2_56 vl2_56 u.1 u.2 0 0 ol rm oz, gArr K 95 (am 1) NF, gArr K 95 (am 2) eN0, gArrB K 400 (am 10) IF, gArr K 570 (am 18) PA])) S C hG [0] (c_X9_errsIf l K am 0 (am 2) lg mr en pw sl ly dn 0 iz nx2_56 st2_56 tk2_56 vl2_56 0 (-1) 0 0 ol rm oz IF (.inr 0) b0 1 hM9 (by decide) (hb0.elim (fun z => Or.inr z.1) (fun z => Or.inl z.1))) rfl rfl 0 rfl rfl (cwV 2 S.2.2.2.2 gX9_load_X9_errsIf rfl rfl rfl (by decide +kernel) ⟨Nat.le_of_ble_eq_true rfl, Nat.le_of_ble_eq_true rfl⟩) rfl hl.1 rfl (Nat.le_of_ble_eq_true rfl) dX9_load_76 ⟨Nat.le_of_ble_eq_true rfl, Nat.le_of_ble_eq_true rfl⟩ (fun _ => Nat.le_of_ble_eq_true rfl) (fun _ => rfl) (fun u H locs hp hG => ?_)
    obtain ⟨ef2_76, ep2_76⟩ := u
    have hM2_76 := hp
    have hM2_76 : MSt IF iz (pb (.inr 0) fun i => if b0 = 1 then fl IF iz i 1 else .inr i) nx2_56 st2_56 tk2_56 vl2_56 ef2_76 ep2_76 := hM2_76
    have hG : gW K A s.heap [gMdl K am 0 (am 2) lg mr en pw sl ly dn 0 iz nx2_56 st2_56 tk2_56 vl2_56 ef2_76 ep2_76 0 0 ol rm oz, gArr K 95 (am 1) NF, gArr K 95 (am 2) eN0, gArrB K 400 (am 10) IF, gArr K 570 (am 18) PA] _ _ := hG
    have L79 : ∀ (fu : Nat) (i : Int) (f : Nat) (Nd : Int → Int) (nx1 : Int) (st1 : Int) (tk1 : Int) (vl1 : Int) (ef1 : Int) (ep1 : Int) (hO1 : Int) (hB1 : Int) (H : Heap) (locs : List Loc) (ls : Array Slot), (ldM ef1 f) < fu → (LdI IF iz i f Nd nx1 st1 tk1 vl1 ef1 ep1 hO1 hB1) → lv_has ls 2 [(0, .ref (am 0))] → gW K A s.heap [gMdl K am 0 (am 2) lg mr en pw sl ly dn 0 iz nx1 st1 tk1 vl1 ef1 ep1 hO1 hB1 ol rm oz, gArr K 95 (am 1) NF, gArr K 95 (am 2) Nd, gArrB K 400 (am 10) IF, gArr K 570 (am 18) PA] H locs → W p l e { frames := 9, cells := 0, slots := 0, locals := 195 } s m ([.ref (am 0)] : List Value).toArray below meth c H locs 0 0 Q (F0 m 79 ls []) := by
      intro fu
      induction fu with
      | zero => intro i f Nd nx1 st1 tk1 vl1 ef1 ep1 hO1 hB1 H locs ls hfu; exact absurd hfu (Nat.not_lt_zero _)
      | succ fu ih =>
        intro i f Nd nx1 st1 tk1 vl1 ef1 ep1 hO1 hB1 H locs ls hfu hI hl hG
        refine lv_aload_n S.1 S.2.1 dX9_load_79 rfl (lv_at hl 0 rfl) ?_
        refine g_invV (As := []) (rest := []) (gs' := (fun u : Unit => [gMdl K am 0 (am 2) lg mr en pw sl ly dn 0 iz nx1 st1 tk1 vl1 ef1 ep1 hO1 hB1 ol rm oz, gArr K 95 (am 1) NF, gArr K 95 (am 2) Nd, gArrB K 400 (am 10) IF, gArr K 570 (am 18) PA])) S C hG [0] (c_X9_good l K am 0 (am 2) lg mr en pw sl ly dn 0 iz nx1 st1 tk1 vl1 ef1 ep1 hO1 hB1 ol rm oz hI.rg) rfl rfl 0 rfl rfl (cwV 0 S.2.2.2.2 gX9_load_X9_good rfl rfl rfl (by decide +kernel) ⟨Nat.le_of_ble_eq_true rfl, Nat.le_of_ble_eq_true rfl⟩) rfl hl.1 rfl (Nat.le_of_ble_eq_true rfl) dX9_load_80 ⟨Nat.le_of_ble_eq_true rfl, Nat.le_of_ble_eq_true rfl⟩ (fun _ => Nat.le_of_ble_eq_true rfl) (fun _ => rfl) (fun v u H locs hp hG => ?_)
        subst hp
        refine g_ifeq_b (B := (ef1 = 0)) (tgt := 100) S dX9_load_83 (by decide) (fun q83 => ?_) (fun q83 => ?_)
        · skip
          refine lv_aload_n S.1 S.2.1 dX9_load_100 rfl (lv_at hl 0 rfl) ?_
          refine lv_aload_n S.1 S.2.1 dX9_load_101 rfl (lv_at hl 0 rfl) ?_
          refine g_get S C hG iX90 0 rfl rfl 1 (by decide) (List.mem_of_getElem? (i := 12) rfl) rfl dX9_load_102 ?_
          refine g_put (gs' := [gMdl K am 0 (am 1) lg mr en pw sl ly dn 0 iz nx1 st1 tk1 vl1 ef1 ep1 hO1 hB1 ol rm oz, gArr K 95 (am 1) NF, gArr K 95 (am 2) Nd, gArrB K 400 (am 10) IF, gArr K 570 (am 18) PA]) S C hG iX90 tyX9 tyX9_ok nmX9 0 rfl rfl 3 (by decide) (List.mem_of_getElem? (i := 10) rfl) rfl rfl rfl (Nat.le_of_ble_eq_true rfl) rfl dX9_load_105 (fun H locs hG => ?_)
          refine lv_aload_n S.1 S.2.1 dX9_load_108 rfl (lv_at hl 0 rfl) ?_
          refine g_invV (As := []) (rest := []) (gs' := (fun u : Unit => [gMdl K am 0 (am 1) lg mr en pw sl ly dn 0 iz nx1 st1 tk1 vl1 ef1 ep1 hO1 hB1 ol rm oz, gArr K 95 (am 1) NF, gArr K 95 (am 2) Nd, gArrB K 400 (am 10) IF, gArr K 570 (am 18) PA])) S C hG [0] (c_X9_good l K am 0 (am 1) lg mr en pw sl ly dn 0 iz nx1 st1 tk1 vl1 ef1 ep1 hO1 hB1 ol rm oz hI.rg) rfl rfl 0 rfl rfl (cwV 0 S.2.2.2.2 gX9_load_X9_good rfl rfl rfl (by decide +kernel) ⟨Nat.le_of_ble_eq_true rfl, Nat.le_of_ble_eq_true rfl⟩) rfl hl.1 rfl (Nat.le_of_ble_eq_true rfl) dX9_load_109 ⟨Nat.le_of_ble_eq_true rfl, Nat.le_of_ble_eq_true rfl⟩ (fun _ => Nat.le_of_ble_eq_true rfl) (fun _ => rfl) (fun v u H locs hp hG => ?_)
          subst hp
          refine g_ifne_b (B := (ef1 = 0)) (tgt := 118) S dX9_load_112 (by decide) (fun q112 => ?_) (fun q112 => ?_)
          · skip
            omega
          · skip
            refine g_bipush S dX9_load_115 (by decide) ?_
            have hG : gW K A s.heap [gMdl K am 0 (am 1) lg mr en pw sl ly dn 0 iz nx1 st1 tk1 vl1 ef1 ep1 hO1 hB1 ol rm oz, gArr K 95 (am 1) NF, gArr K 95 (am 2) Nd, gArrB K 400 (am 10) IF, gArr K 570 (am 18) PA] _ _ := hG
            exact g_iret S hr hlk hQ dX9_load_117 (Nat.le_of_ble_eq_true rfl) (Nat.le_of_ble_eq_true rfl) ((nx1, st1, tk1, vl1, ef1, ep1, hO1, hB1, Nd) : Int × Int × Int × Int × Int × Int × Int × Int × (Int → Int)) ⟨rfl, (hI.err q83).2⟩ hG
        · skip
          have st9 := hI.st q83
          have tk9 := st9.2.2.2.2.2.2.1
          refine lv_aload_n S.1 S.2.1 dX9_load_86 rfl (lv_at hl 0 rfl) ?_
          refine g_get S C hG iX90 0 rfl rfl 23 (by decide) (List.mem_of_getElem? (i := 11) rfl) rfl dX9_load_87 ?_
          refine g_if_eq (tgt := 100) S dX9_load_90 (by decide) (by omega) (fun q90 => ?_) (fun q90 => ?_)
          · skip
            exact absurd (show okE (prsX IF iz) by rw [(hI.done q83 q90).1] <;> rfl) hx
          · skip
            refine lv_aload_n S.1 S.2.1 dX9_load_93 rfl (lv_at hl 0 rfl) ?_
            refine g_invVv (As := []) (rest := []) (gs' := (fun u : Int × Int × Int × Int × Int × Int × (Int → Int) × Int × Int => [gMdl K am 0 (am 2) lg mr en pw sl ly dn 0 iz u.1 u.2.1 u.2.2.1 u.2.2.2.1 u.2.2.2.2.1 u.2.2.2.2.2.1 u.2.2.2.2.2.2.2.1 u.2.2.2.2.2.2.2.2 ol rm oz, gArr K 95 (am 1) NF, gArr K 95 (am 2) u.2.2.2.2.2.2.1, gArrB K 400 (am 10) IF, gArr K 570 (am 18) PA])) S C hG [0, 2, 3] (c_X9_parseStatement l K am 0 (am 2) lg mr en pw sl ly dn 0 iz nx1 st1 tk1 vl1 ef1 ep1 hO1 hB1 ol rm oz Nd IF i h0 st9.1 st9.2.1 st9.2.2.2.1 st9.2.2.2.2.1 st9.2.2.1) rfl rfl 0 rfl rfl (cwV 0 S.2.2.2.2 gX9_load_X9_parseStatement rfl rfl rfl (by decide +kernel) ⟨Nat.le_of_ble_eq_true rfl, Nat.le_of_ble_eq_true rfl⟩) rfl hl.1 rfl (Nat.le_of_ble_eq_true rfl) dX9_load_94 ⟨Nat.le_of_ble_eq_true rfl, Nat.le_of_ble_eq_true rfl⟩ (fun _ => Nat.le_of_ble_eq_true rfl) (fun _ => rfl) (fun u H locs hp hG => ?_)
            obtain ⟨nx2_94, st2_94, tk2_94, vl2_94, ef2_94, ep2_94, N2_94, hO2_94, hB2_94⟩ := u
            obtain ⟨hM2_94, hS_94, h1_94, h2_94⟩ := hp
            have hM2_94 : MSt IF iz (pb (stmE IF iz i Nd hO1 hB1) fun t => .inr t.1) nx2_94 st2_94 tk2_94 vl2_94 ef2_94 ep2_94 := hM2_94
            have hS_94 : StmM (stmE IF iz i Nd hO1 hB1) N2_94 hO2_94 hB2_94 := hS_94
            have h1_94 : hO2_94 = 0 ∨ hO2_94 = 1 := h1_94
            have h2_94 : hB2_94 = 0 ∨ hB2_94 = 1 := h2_94
            have hG : gW K A s.heap [gMdl K am 0 (am 2) lg mr en pw sl ly dn 0 iz nx2_94 st2_94 tk2_94 vl2_94 ef2_94 ep2_94 hO2_94 hB2_94 ol rm oz, gArr K 95 (am 1) NF, gArr K 95 (am 2) N2_94, gArrB K 400 (am 10) IF, gArr K 570 (am 18) PA] _ _ := hG
            refine lv_goto (tgt := 79) S.1 S.2.1 dX9_load_97 (by decide) ?_
            obtain ⟨j9, g9, hL9, hd9⟩ := hI.step q83 (by omega) hM2_94 hS_94 h1_94 h2_94 (fun t ht => stm_gt st9.2.2.2.2.2.1 (by omega) ht)
            exact ih j9 g9 N2_94 nx2_94 st2_94 tk2_94 vl2_94 ef2_94 ep2_94 hO2_94 hB2_94 _ _ _ (ldM_lt q83 hd9 hfu) hL9 (lv_sub hl [0] rfl) hG
    exact L79 (Nat.succ (ldM ef2_76 401)) 0 401 eN0 nx2_56 st2_56 tk2_56 vl2_56 ef2_76 ep2_76 0 0 _ _ _ (Nat.lt_succ_self _) (LdI.go hM2_76 h0.2 hb0) (lv_sub hl [0] rfl) hG
  refine g_ifne_b (B := (wdX IF iz (.inr 0) wLayer = true)) (tgt := 74) S dX9_load_67 (by decide) (fun q67 => ?_) (fun q67 => ?_)
  · skip
    refine g_iconst S dX9_load_74 ?_
    exact J75 0 _ _ _ (Or.inr ⟨rfl, q67⟩) (lv_sub hl [0] rfl) hG
  · skip
    refine g_iconst S dX9_load_70 ?_
    refine lv_goto (tgt := 75) S.1 S.2.1 dX9_load_71 (by decide) ?_
    exact J75 1 _ _ _ (Or.inl ⟨rfl, q67⟩) (lv_sub hl [0] rfl) hG

set_option maxHeartbeats 1000000 in
set_option maxRecDepth 100000 in
theorem c_lo_yes (l : Launch) (K : KC) (am : Nat → Nat) (th : Int) (lg : Int) (mr : Int) (en : Int) (pw : Int) (sl : Int) (ly : Int) (dn : Int) (iz : Int) (tz : Int) (nx : Int) (st : Int) (tk : Int) (vl : Int) (ef : Int) (ep : Int) (hO : Int) (hB : Int) (ol : Int) (rm : Int) (oz : Int) (NF : Int → Int) (DF : Int → Int) (IF : Int → Int) (PA : Int → Int) (M : Int → Int) (hrm : 0 ≤ rm ∧ rm ≤ 6) (h0 : 0 ≤ iz ∧ iz ≤ 400) (hx : prsX IF iz = .inr M) : mG l yX9_load wsX9_load 9 195 K [.ref (am 0)] [gMdl K am th (am 1) lg mr en pw sl ly dn iz tz nx st tk vl ef ep hO hB ol rm oz, gArr K 95 (am 1) NF, gArr K 95 (am 2) DF, gArrB K 400 (am 10) IF, gArr K 570 (am 18) PA] (fun (v : Value) (u : Int × Int × Int × Int × Int × Int × Int × Int × (Int → Int) × (Int → Int) × (Int → Int) × Int) => (v = .int (iI (M 0))) ∧ (u.2.2.2.2.1 = 0 ∧ u.2.2.2.2.2.1 = -1) ∧ (u.2.2.2.2.2.2.2.2.2.1 = cpyI M NF 95) ∧ (∀ j : Int, 0 ≤ j → j < 570 → u.2.2.2.2.2.2.2.2.2.2.1 j = remP rm PA NF j) ∧ (u.2.2.2.2.2.2.2.2.2.2.2 = min (rm + 1) 6)) (fun (u : Int × Int × Int × Int × Int × Int × Int × Int × (Int → Int) × (Int → Int) × (Int → Int) × Int) => [gMdl K am 0 (am 1) lg mr en pw sl ly dn 0 iz u.1 u.2.1 u.2.2.1 u.2.2.2.1 u.2.2.2.2.1 u.2.2.2.2.2.1 u.2.2.2.2.2.2.1 u.2.2.2.2.2.2.2.1 ol u.2.2.2.2.2.2.2.2.2.2.2 oz, gArr K 95 (am 1) u.2.2.2.2.2.2.2.2.2.1, gArr K 95 (am 2) u.2.2.2.2.2.2.2.2.1, gArrB K 400 (am 10) IF, gArr K 570 (am 18) u.2.2.2.2.2.2.2.2.2.2.1]) 0 0 := by
  refine mG_of cX9_load 2 (by decide) rfl (Nat.le_of_ble_eq_true rfl) ?_
  intro p e s m below meth c A ls Q S C hG hl hr hlk hin hQ
  have S : CallFix p m c cX9_load 2 s ([.ref (am 0)] : List Value).toArray wsX9_load RX9 := S
  have iX90 : ∀ w ∈ wsX90, w ∈ wsX9_load := fun _ h => List.mem_cons_of_mem _ (List.mem_append_right _ (h))
  have hl : lv_has ls 2 [(0, .ref (am 0))] := hl
  have hG : gW K A s.heap [gMdl K am th (am 1) lg mr en pw sl ly dn iz tz nx st tk vl ef ep hO hB ol rm oz, gArr K 95 (am 1) NF, gArr K 95 (am 2) DF, gArrB K 400 (am 10) IF, gArr K 570 (am 18) PA] s.heap [] := hG
  refine lv_aload_n S.1 S.2.1 dX9_load_0 rfl (lv_at hl 0 rfl) ?_
  refine g_iconst S dX9_load_1 ?_
  refine g_put (gs' := [gMdl K am 0 (am 1) lg mr en pw sl ly dn iz tz nx st tk vl ef ep hO hB ol rm oz, gArr K 95 (am 1) NF, gArr K 95 (am 2) DF, gArrB K 400 (am 10) IF, gArr K 570 (am 18) PA]) S C hG iX90 tyX9 tyX9_ok nmX9 0 rfl rfl 0 (by decide) (List.mem_of_getElem? (i := 1) rfl) rfl rfl rfl (Nat.le_of_ble_eq_true rfl) rfl dX9_load_2 (fun H locs hG => ?_)
  refine lv_aload_n S.1 S.2.1 dX9_load_5 rfl (lv_at hl 0 rfl) ?_
  refine lv_aload_n S.1 S.2.1 dX9_load_6 rfl (lv_at hl 0 rfl) ?_
  refine g_get S C hG iX90 0 rfl rfl 19 (by decide) (List.mem_of_getElem? (i := 2) rfl) rfl dX9_load_7 ?_
  refine g_put (gs' := [gMdl K am 0 (am 1) lg mr en pw sl ly dn iz iz nx st tk vl ef ep hO hB ol rm oz, gArr K 95 (am 1) NF, gArr K 95 (am 2) DF, gArrB K 400 (am 10) IF, gArr K 570 (am 18) PA]) S C hG iX90 tyX9 tyX9_ok nmX9 0 rfl rfl 20 (by decide) (List.mem_of_getElem? (i := 3) rfl) rfl rfl rfl (Nat.le_of_ble_eq_true rfl) rfl dX9_load_10 (fun H locs hG => ?_)
  refine lv_aload_n S.1 S.2.1 dX9_load_13 rfl (lv_at hl 0 rfl) ?_
  refine g_iconst S dX9_load_14 ?_
  refine g_put (gs' := [gMdl K am 0 (am 1) lg mr en pw sl ly dn 0 iz nx st tk vl ef ep hO hB ol rm oz, gArr K 95 (am 1) NF, gArr K 95 (am 2) DF, gArrB K 400 (am 10) IF, gArr K 570 (am 18) PA]) S C hG iX90 tyX9 tyX9_ok nmX9 0 rfl rfl 19 (by decide) (List.mem_of_getElem? (i := 2) rfl) rfl rfl rfl (Nat.le_of_ble_eq_true rfl) rfl dX9_load_15 (fun H locs hG => ?_)
  refine lv_aload_n S.1 S.2.1 dX9_load_18 rfl (lv_at hl 0 rfl) ?_
  refine g_iconst S dX9_load_19 ?_
  refine g_put (gs' := [gMdl K am 0 (am 1) lg mr en pw sl ly dn 0 iz 0 st tk vl ef ep hO hB ol rm oz, gArr K 95 (am 1) NF, gArr K 95 (am 2) DF, gArrB K 400 (am 10) IF, gArr K 570 (am 18) PA]) S C hG iX90 tyX9 tyX9_ok nmX9 0 rfl rfl 21 (by decide) (List.mem_of_getElem? (i := 4) rfl) rfl rfl rfl (Nat.le_of_ble_eq_true rfl) rfl dX9_load_20 (fun H locs hG => ?_)
  refine lv_aload_n S.1 S.2.1 dX9_load_23 rfl (lv_at hl 0 rfl) ?_
  refine g_iconst S dX9_load_24 ?_
  refine g_put (gs' := [gMdl K am 0 (am 1) lg mr en pw sl ly dn 0 iz 0 st tk vl 0 ep hO hB ol rm oz, gArr K 95 (am 1) NF, gArr K 95 (am 2) DF, gArrB K 400 (am 10) IF, gArr K 570 (am 18) PA]) S C hG iX90 tyX9 tyX9_ok nmX9 0 rfl rfl 25 (by decide) (List.mem_of_getElem? (i := 5) rfl) rfl rfl rfl (Nat.le_of_ble_eq_true rfl) rfl dX9_load_25 (fun H locs hG => ?_)
  refine lv_aload_n S.1 S.2.1 dX9_load_28 rfl (lv_at hl 0 rfl) ?_
  refine g_iconst S dX9_load_29 ?_
  refine g_put (gs' := [gMdl K am 0 (am 1) lg mr en pw sl ly dn 0 iz 0 st tk vl 0 (-1) hO hB ol rm oz, gArr K 95 (am 1) NF, gArr K 95 (am 2) DF, gArrB K 400 (am 10) IF, gArr K 570 (am 18) PA]) S C hG iX90 tyX9 tyX9_ok nmX9 0 rfl rfl 26 (by decide) (List.mem_of_getElem? (i := 6) rfl) rfl rfl rfl (Nat.le_of_ble_eq_true rfl) rfl dX9_load_30 (fun H locs hG => ?_)
  refine lv_aload_n S.1 S.2.1 dX9_load_33 rfl (lv_at hl 0 rfl) ?_
  refine g_iconst S dX9_load_34 ?_
  refine g_put (gs' := [gMdl K am 0 (am 1) lg mr en pw sl ly dn 0 iz 0 st tk vl 0 (-1) 0 hB ol rm oz, gArr K 95 (am 1) NF, gArr K 95 (am 2) DF, gArrB K 400 (am 10) IF, gArr K 570 (am 18) PA]) S C hG iX90 tyX9 tyX9_ok nmX9 0 rfl rfl 27 (by decide) (List.mem_of_getElem? (i := 7) rfl) rfl (nz_b (Or.inl rfl)) (fz_b (Or.inl rfl)) (Nat.le_of_ble_eq_true rfl) rfl dX9_load_35 (fun H locs hG => ?_)
  refine lv_aload_n S.1 S.2.1 dX9_load_38 rfl (lv_at hl 0 rfl) ?_
  refine g_iconst S dX9_load_39 ?_
  refine g_put (gs' := [gMdl K am 0 (am 1) lg mr en pw sl ly dn 0 iz 0 st tk vl 0 (-1) 0 0 ol rm oz, gArr K 95 (am 1) NF, gArr K 95 (am 2) DF, gArrB K 400 (am 10) IF, gArr K 570 (am 18) PA]) S C hG iX90 tyX9 tyX9_ok nmX9 0 rfl rfl 28 (by decide) (List.mem_of_getElem? (i := 8) rfl) rfl (nz_b (Or.inl rfl)) (fz_b (Or.inl rfl)) (Nat.le_of_ble_eq_true rfl) rfl dX9_load_40 (fun H locs hG => ?_)
  refine lv_aload_n S.1 S.2.1 dX9_load_43 rfl (lv_at hl 0 rfl) ?_
  refine lv_aload_n S.1 S.2.1 dX9_load_44 rfl (lv_at hl 0 rfl) ?_
  refine g_get S C hG iX90 0 rfl rfl 2 (by decide) (List.mem_of_getElem? (i := 9) rfl) rfl dX9_load_45 ?_
  refine g_put (gs' := [gMdl K am 0 (am 2) lg mr en pw sl ly dn 0 iz 0 st tk vl 0 (-1) 0 0 ol rm oz, gArr K 95 (am 1) NF, gArr K 95 (am 2) DF, gArrB K 400 (am 10) IF, gArr K 570 (am 18) PA]) S C hG iX90 tyX9 tyX9_ok nmX9 0 rfl rfl 3 (by decide) (List.mem_of_getElem? (i := 10) rfl) rfl rfl rfl (Nat.le_of_ble_eq_true rfl) rfl dX9_load_48 (fun H locs hG => ?_)
  refine lv_aload_n S.1 S.2.1 dX9_load_51 rfl (lv_at hl 0 rfl) ?_
  refine g_invVv (As := []) (rest := []) (gs' := (fun u : (Int → Int) => [gMdl K am 0 (am 2) lg mr en pw sl ly dn 0 iz 0 st tk vl 0 (-1) 0 0 ol rm oz, gArr K 95 (am 1) NF, gArr K 95 (am 2) u, gArrB K 400 (am 10) IF, gArr K 570 (am 18) PA])) S C hG [0, 2] (c_X9_layPlain l K am 0 (am 2) lg mr en pw sl ly dn 0 iz 0 st tk vl 0 (-1) 0 0 ol rm oz DF) rfl rfl 0 rfl rfl (cwV 0 S.2.2.2.2 gX9_load_X9_layPlain rfl rfl rfl (by decide +kernel) ⟨Nat.le_of_ble_eq_true rfl, Nat.le_of_ble_eq_true rfl⟩) rfl hl.1 rfl (Nat.le_of_ble_eq_true rfl) dX9_load_52 ⟨Nat.le_of_ble_eq_true rfl, Nat.le_of_ble_eq_true rfl⟩ (fun _ => Nat.le_of_ble_eq_true rfl) (fun _ => rfl) (fun u H locs hp hG => ?_)
  obtain ⟨F2_52, rfl⟩ : ∃ z, z = u := ⟨_, rfl⟩
  have hF_52 := hp
  have hF_52 : ∀ j : Int, 0 ≤ j → j < 95 → F2_52 j = eN0 j := hF_52
  have hG : gW K A s.heap [gMdl K am 0 (am 2) lg mr en pw sl ly dn 0 iz 0 st tk vl 0 (-1) 0 0 ol rm oz, gArr K 95 (am 1) NF, gArr K 95 (am 2) F2_52, gArrB K 400 (am 10) IF, gArr K 570 (am 18) PA] _ _ := hG
  have hG : gW K A s.heap [gMdl K am 0 (am 2) lg mr en pw sl ly dn 0 iz 0 st tk vl 0 (-1) 0 0 ol rm oz, gArr K 95 (am 1) NF, gArr K 95 (am 2) eN0, gArrB K 400 (am 10) IF, gArr K 570 (am 18) PA] _ _ := gW_arr [gMdl K am 0 (am 2) lg mr en pw sl ly dn 0 iz 0 st tk vl 0 (-1) 0 0 ol rm oz, gArr K 95 (am 1) NF] [gArrB K 400 (am 10) IF, gArr K 570 (am 18) PA] (fun j hj => hF_52 j (by omega) (by omega)) hG
  refine lv_aload_n S.1 S.2.1 dX9_load_55 rfl (lv_at hl 0 rfl) ?_
  refine g_invVv (As := []) (rest := []) (gs' := (fun u : Int × Int × Int × Int => [gMdl K am 0 (am 2) lg mr en pw sl ly dn 0 iz u.1 u.2.1 u.2.2.1 u.2.2.2 0 (-1) 0 0 ol rm oz, gArr K 95 (am 1) NF, gArr K 95 (am 2) eN0, gArrB K 400 (am 10) IF, gArr K 570 (am 18) PA])) S C hG [0, 3] (c_X9_scan l K am 0 (am 2) lg mr en pw sl ly dn 0 iz 0 st tk vl 0 (-1) 0 0 ol rm oz IF h0 (by omega)) rfl rfl 0 rfl rfl (cwV 0 S.2.2.2.2 gX9_load_X9_scan rfl rfl rfl (by decide +kernel) ⟨Nat.le_of_ble_eq_true rfl, Nat.le_of_ble_eq_true rfl⟩) rfl hl.1 rfl (Nat.le_of_ble_eq_true rfl) dX9_load_56 ⟨Nat.le_of_ble_eq_true rfl, Nat.le_of_ble_eq_true rfl⟩ (fun _ => Nat.le_of_ble_eq_true rfl) (fun _ => rfl) (fun u H locs hp hG => ?_)
  obtain ⟨nx2_56, st2_56, tk2_56, vl2_56⟩ := u
  have hT_56 := hp
  have hT_56 : TokM IF iz 0 nx2_56 st2_56 tk2_56 vl2_56 := hT_56
  have hG : gW K A s.heap [gMdl K am 0 (am 2) lg mr en pw sl ly dn 0 iz nx2_56 st2_56 tk2_56 vl2_56 0 (-1) 0 0 ol rm oz, gArr K 95 (am 1) NF, gArr K 95 (am 2) eN0, gArrB K 400 (am 10) IF, gArr K 570 (am 18) PA] _ _ := hG
  have hM9 : MSt IF iz (.inr 0) nx2_56 st2_56 tk2_56 vl2_56 0 (-1) := ⟨rfl, rfl, ⟨by omega, by omega⟩, hT_56⟩
  refine lv_aload_n S.1 S.2.1 dX9_load_59 rfl (lv_at hl 0 rfl) ?_
  refine lv_aload_n S.1 S.2.1 dX9_load_60 rfl (lv_at hl 0 rfl) ?_
  refine g_ldcSW (q := K.2.2.2.1 0) S.1 S.2.1 S.2.2.2.1 (C.1.2.2.1 (RX9, 299, "layer", 0) sw_30) dX9_load_61 ?_
  refine g_invV (As := [.ref (K.2.2.2.1 0)]) (rest := [.ref (am 0)]) (gs' := (fun u : Unit => [gMdl K am 0 (am 2) lg mr en pw sl ly dn 0 iz nx2_56 st2_56 tk2_56 vl2_56 0 (-1) 0 0 ol rm oz, gArr K 95 (am 1) NF, gArr K 95 (am 2) eN0, gArrB K 400 (am 10) IF, gArr K 570 (am 18) PA])) S C hG [0, 3] (c_X9_isWord l K am 0 (am 2) lg mr en pw sl ly dn 0 iz nx2_56 st2_56 tk2_56 vl2_56 0 (-1) 0 0 ol rm oz IF (.inr 0) 0 wLayer h0 hM9 tx_layer (by decide)) rfl rfl 0 rfl rfl (cwV 1 S.2.2.2.2 gX9_load_X9_isWord rfl rfl rfl (by decide +kernel) ⟨Nat.le_of_ble_eq_true rfl, Nat.le_of_ble_eq_true rfl⟩) rfl hl.1 rfl (Nat.le_of_ble_eq_true rfl) dX9_load_64 ⟨Nat.le_of_ble_eq_true rfl, Nat.le_of_ble_eq_true rfl⟩ (fun _ => Nat.le_of_ble_eq_true rfl) (fun _ => rfl) (fun v u H locs hp hG => ?_)
  subst hp
  have J75 : ∀ (b0 : Int) (H : Heap) (locs : List Loc) (ls : Array Slot), ((b0 = 1 ∧ ¬ isWd IF iz 0 wLayer) ∨ (b0 = 0 ∧ isWd IF iz 0 wLayer)) → lv_has ls 2 [(0, .ref (am 0))] → gW K A s.heap [gMdl K am 0 (am 2) lg mr en pw sl ly dn 0 iz nx2_56 st2_56 tk2_56 vl2_56 0 (-1) 0 0 ol rm oz, gArr K 95 (am 1) NF, gArr K 95 (am 2) eN0, gArrB K 400 (am 10) IF, gArr K 570 (am 18) PA] H locs → W p l e { frames := 9, cells := 0, slots := 0, locals := 195 } s m ([.ref (am 0)] : List Value).toArray below meth c H locs 0 0 Q (F0 m 75 ls [.int (iI b0), .ref (am 0)]) := by
    intro b0 H locs ls hb0 hl hG
    refine g_iconst S dX9_load_75 ?_
    refine g_invVv (As := [.int (iI b0), .int (iI 1)]) (rest := []) (gs' := (fun u : Int × Int => [gMdl K am 0 (am 2) lg mr en pw sl ly dn 0 iz nx2_56 st2_56 tk2_56 vl2_56 u.1 u.2 0 0 ol rm oz, gArr K 95 (am 1) NF, gArr K 95 (am 2) eN0, gArrB K 400 (am 10) IF, gArr K 570 (am 18) PA])) S C hG [0] (c_X9_errsIf l K am 0 (am 2) lg mr en pw sl ly dn 0 iz nx2_56 st2_56 tk2_56 vl2_56 0 (-1) 0 0 ol rm oz IF (.inr 0) b0 1 hM9 (by decide) (hb0.elim (fun z => Or.inr z.1) (fun z => Or.inl z.1))) rfl rfl 0 rfl rfl (cwV 2 S.2.2.2.2 gX9_load_X9_errsIf rfl rfl rfl (by decide +kernel) ⟨Nat.le_of_ble_eq_true rfl, Nat.le_of_ble_eq_true rfl⟩) rfl hl.1 rfl (Nat.le_of_ble_eq_true rfl) dX9_load_76 ⟨Nat.le_of_ble_eq_true rfl, Nat.le_of_ble_eq_true rfl⟩ (fun _ => Nat.le_of_ble_eq_true rfl) (fun _ => rfl) (fun u H locs hp hG => ?_)
    obtain ⟨ef2_76, ep2_76⟩ := u
    have hM2_76 := hp
    have hM2_76 : MSt IF iz (pb (.inr 0) fun i => if b0 = 1 then fl IF iz i 1 else .inr i) nx2_56 st2_56 tk2_56 vl2_56 ef2_76 ep2_76 := hM2_76
    have hG : gW K A s.heap [gMdl K am 0 (am 2) lg mr en pw sl ly dn 0 iz nx2_56 st2_56 tk2_56 vl2_56 ef2_76 ep2_76 0 0 ol rm oz, gArr K 95 (am 1) NF, gArr K 95 (am 2) eN0, gArrB K 400 (am 10) IF, gArr K 570 (am 18) PA] _ _ := hG
    have L79 : ∀ (fu : Nat) (i : Int) (f : Nat) (Nd : Int → Int) (nx1 : Int) (st1 : Int) (tk1 : Int) (vl1 : Int) (ef1 : Int) (ep1 : Int) (hO1 : Int) (hB1 : Int) (H : Heap) (locs : List Loc) (ls : Array Slot), (ldM ef1 f) < fu → (LdI IF iz i f Nd nx1 st1 tk1 vl1 ef1 ep1 hO1 hB1) → lv_has ls 2 [(0, .ref (am 0))] → gW K A s.heap [gMdl K am 0 (am 2) lg mr en pw sl ly dn 0 iz nx1 st1 tk1 vl1 ef1 ep1 hO1 hB1 ol rm oz, gArr K 95 (am 1) NF, gArr K 95 (am 2) Nd, gArrB K 400 (am 10) IF, gArr K 570 (am 18) PA] H locs → W p l e { frames := 9, cells := 0, slots := 0, locals := 195 } s m ([.ref (am 0)] : List Value).toArray below meth c H locs 0 0 Q (F0 m 79 ls []) := by
      intro fu
      induction fu with
      | zero => intro i f Nd nx1 st1 tk1 vl1 ef1 ep1 hO1 hB1 H locs ls hfu; exact absurd hfu (Nat.not_lt_zero _)
      | succ fu ih =>
        intro i f Nd nx1 st1 tk1 vl1 ef1 ep1 hO1 hB1 H locs ls hfu hI hl hG
        refine lv_aload_n S.1 S.2.1 dX9_load_79 rfl (lv_at hl 0 rfl) ?_
        refine g_invV (As := []) (rest := []) (gs' := (fun u : Unit => [gMdl K am 0 (am 2) lg mr en pw sl ly dn 0 iz nx1 st1 tk1 vl1 ef1 ep1 hO1 hB1 ol rm oz, gArr K 95 (am 1) NF, gArr K 95 (am 2) Nd, gArrB K 400 (am 10) IF, gArr K 570 (am 18) PA])) S C hG [0] (c_X9_good l K am 0 (am 2) lg mr en pw sl ly dn 0 iz nx1 st1 tk1 vl1 ef1 ep1 hO1 hB1 ol rm oz hI.rg) rfl rfl 0 rfl rfl (cwV 0 S.2.2.2.2 gX9_load_X9_good rfl rfl rfl (by decide +kernel) ⟨Nat.le_of_ble_eq_true rfl, Nat.le_of_ble_eq_true rfl⟩) rfl hl.1 rfl (Nat.le_of_ble_eq_true rfl) dX9_load_80 ⟨Nat.le_of_ble_eq_true rfl, Nat.le_of_ble_eq_true rfl⟩ (fun _ => Nat.le_of_ble_eq_true rfl) (fun _ => rfl) (fun v u H locs hp hG => ?_)
        subst hp
        refine g_ifeq_b (B := (ef1 = 0)) (tgt := 100) S dX9_load_83 (by decide) (fun q83 => ?_) (fun q83 => ?_)
        · skip
          exact absurd (show okE (prsX IF iz) by rw [hx] <;> rfl) (hI.err q83).1
        · skip
          have st9 := hI.st q83
          have tk9 := st9.2.2.2.2.2.2.1
          refine lv_aload_n S.1 S.2.1 dX9_load_86 rfl (lv_at hl 0 rfl) ?_
          refine g_get S C hG iX90 0 rfl rfl 23 (by decide) (List.mem_of_getElem? (i := 11) rfl) rfl dX9_load_87 ?_
          refine g_if_eq (tgt := 100) S dX9_load_90 (by decide) (by omega) (fun q90 => ?_) (fun q90 => ?_)
          · skip
            obtain ⟨e91, e92, e93⟩ := hI.done q83 q90
            have e94 := inr_one e91 hx
            refine lv_aload_n S.1 S.2.1 dX9_load_100 rfl (lv_at hl 0 rfl) ?_
            refine lv_aload_n S.1 S.2.1 dX9_load_101 rfl (lv_at hl 0 rfl) ?_
            refine g_get S C hG iX90 0 rfl rfl 1 (by decide) (List.mem_of_getElem? (i := 12) rfl) rfl dX9_load_102 ?_
            refine g_put (gs' := [gMdl K am 0 (am 1) lg mr en pw sl ly dn 0 iz nx1 st1 tk1 vl1 ef1 ep1 hO1 hB1 ol rm oz, gArr K 95 (am 1) NF, gArr K 95 (am 2) Nd, gArrB K 400 (am 10) IF, gArr K 570 (am 18) PA]) S C hG iX90 tyX9 tyX9_ok nmX9 0 rfl rfl 3 (by decide) (List.mem_of_getElem? (i := 10) rfl) rfl rfl rfl (Nat.le_of_ble_eq_true rfl) rfl dX9_load_105 (fun H locs hG => ?_)
            refine lv_aload_n S.1 S.2.1 dX9_load_108 rfl (lv_at hl 0 rfl) ?_
            refine g_invV (As := []) (rest := []) (gs' := (fun u : Unit => [gMdl K am 0 (am 1) lg mr en pw sl ly dn 0 iz nx1 st1 tk1 vl1 ef1 ep1 hO1 hB1 ol rm oz, gArr K 95 (am 1) NF, gArr K 95 (am 2) Nd, gArrB K 400 (am 10) IF, gArr K 570 (am 18) PA])) S C hG [0] (c_X9_good l K am 0 (am 1) lg mr en pw sl ly dn 0 iz nx1 st1 tk1 vl1 ef1 ep1 hO1 hB1 ol rm oz hI.rg) rfl rfl 0 rfl rfl (cwV 0 S.2.2.2.2 gX9_load_X9_good rfl rfl rfl (by decide +kernel) ⟨Nat.le_of_ble_eq_true rfl, Nat.le_of_ble_eq_true rfl⟩) rfl hl.1 rfl (Nat.le_of_ble_eq_true rfl) dX9_load_109 ⟨Nat.le_of_ble_eq_true rfl, Nat.le_of_ble_eq_true rfl⟩ (fun _ => Nat.le_of_ble_eq_true rfl) (fun _ => rfl) (fun v u H locs hp hG => ?_)
            subst hp
            refine g_ifne_b (B := (ef1 = 0)) (tgt := 118) S dX9_load_112 (by decide) (fun q112 => ?_) (fun q112 => ?_)
            · skip
              refine lv_aload_n S.1 S.2.1 dX9_load_118 rfl (lv_at hl 0 rfl) ?_
              refine g_invVv (As := []) (rest := []) (gs' := (fun u : (Int → Int) × Int => [gMdl K am 0 (am 1) lg mr en pw sl ly dn 0 iz nx1 st1 tk1 vl1 ef1 ep1 hO1 hB1 ol u.2 oz, gArr K 95 (am 1) NF, gArr K 95 (am 2) Nd, gArrB K 400 (am 10) IF, gArr K 570 (am 18) u.1])) S C hG [0, 1, 4] (c_X9_remember l K am 0 lg mr en pw sl ly dn 0 iz nx1 st1 tk1 vl1 ef1 ep1 hO1 hB1 ol rm oz NF PA hrm) rfl rfl 0 rfl rfl (cwV 0 S.2.2.2.2 gX9_load_X9_remember rfl rfl rfl (by decide +kernel) ⟨Nat.le_of_ble_eq_true rfl, Nat.le_of_ble_eq_true rfl⟩) rfl hl.1 rfl (Nat.le_of_ble_eq_true rfl) dX9_load_119 ⟨Nat.le_of_ble_eq_true rfl, Nat.le_of_ble_eq_true rfl⟩ (fun _ => Nat.le_of_ble_eq_true rfl) (fun _ => rfl) (fun u H locs hp hG => ?_)
              obtain ⟨P2_119, rm2_119⟩ := u
              obtain ⟨hP_119, hm_119⟩ := hp
              have hP_119 : ∀ j : Int, 0 ≤ j → j < 570 → P2_119 j = remP rm PA NF j := hP_119
              have hm_119 : rm2_119 = min (rm + 1) 6 := hm_119
              have hG : gW K A s.heap [gMdl K am 0 (am 1) lg mr en pw sl ly dn 0 iz nx1 st1 tk1 vl1 ef1 ep1 hO1 hB1 ol rm2_119 oz, gArr K 95 (am 1) NF, gArr K 95 (am 2) Nd, gArrB K 400 (am 10) IF, gArr K 570 (am 18) P2_119] _ _ := hG
              refine g_iconst S dX9_load_122 ?_
              refine lv_istore_n (lv' := [(1, .int (iI 0)), (0, .ref (am 0))]) S.1 S.2.1 dX9_load_123 rfl hl (by decide) rfl (fun ls hl => ?_)
              have L124 : ∀ (fu : Nat) (w : Int) (F1 : Int → Int) (H : Heap) (locs : List Loc) (ls : Array Slot), (((95 : Int) - w).toNat) < fu → (0 ≤ w ∧ w ≤ 95) → (∀ j : Int, F1 j = if 0 ≤ j ∧ j < w then Nd j else NF j) → lv_has ls 2 [(0, .ref (am 0)), (1, .int (iI w))] → gW K A s.heap [gMdl K am 0 (am 1) lg mr en pw sl ly dn 0 iz nx1 st1 tk1 vl1 ef1 ep1 hO1 hB1 ol rm2_119 oz, gArr K 95 (am 1) F1, gArr K 95 (am 2) Nd, gArrB K 400 (am 10) IF, gArr K 570 (am 18) P2_119] H locs → W p l e { frames := 9, cells := 0, slots := 0, locals := 195 } s m ([.ref (am 0)] : List Value).toArray below meth c H locs 0 0 Q (F0 m 124 ls []) := by
                intro fu
                induction fu with
                | zero => intro w F1 H locs ls hfu; exact absurd hfu (Nat.not_lt_zero _)
                | succ fu ih124 =>
                  intro w F1 H locs ls hfu hw hz hl hG
                  refine lv_iload_n S.1 S.2.1 dX9_load_124 rfl (lv_at hl 1 rfl) ?_
                  refine g_bipush S dX9_load_125 (by decide) ?_
                  refine g_icmp_ge (tgt := 148) S dX9_load_127 (by decide) (by omega) (by omega) (fun q127 => ?_) (fun q127 => ?_)
                  · skip
                    refine lv_aload_n S.1 S.2.1 dX9_load_148 rfl (lv_at hl 0 rfl) ?_
                    refine g_invV (As := []) (rest := []) (gs' := (fun u : Unit => [gMdl K am 0 (am 1) lg mr en pw sl ly dn 0 iz nx1 st1 tk1 vl1 ef1 ep1 hO1 hB1 ol rm2_119 oz, gArr K 95 (am 1) F1, gArr K 95 (am 2) Nd, gArrB K 400 (am 10) IF, gArr K 570 (am 18) P2_119])) S C hG [0, 1] (c_X9_layers l K am 0 (am 1) lg mr en pw sl ly dn 0 iz nx1 st1 tk1 vl1 ef1 ep1 hO1 hB1 ol rm2_119 oz F1) rfl rfl 0 rfl rfl (cwV 0 S.2.2.2.2 gX9_load_X9_layers rfl rfl rfl (by decide +kernel) ⟨Nat.le_of_ble_eq_true rfl, Nat.le_of_ble_eq_true rfl⟩) rfl hl.1 rfl (Nat.le_of_ble_eq_true rfl) dX9_load_149 ⟨Nat.le_of_ble_eq_true rfl, Nat.le_of_ble_eq_true rfl⟩ (fun _ => Nat.le_of_ble_eq_true rfl) (fun _ => rfl) (fun v u H locs hp hG => ?_)
                    subst hp
                    have hG : gW K A s.heap [gMdl K am 0 (am 1) lg mr en pw sl ly dn 0 iz nx1 st1 tk1 vl1 ef1 ep1 hO1 hB1 ol rm2_119 oz, gArr K 95 (am 1) F1, gArr K 95 (am 2) Nd, gArrB K 400 (am 10) IF, gArr K 570 (am 18) P2_119] _ _ := hG
                    exact g_iret S hr hlk hQ dX9_load_152 (Nat.le_of_ble_eq_true rfl) (Nat.le_of_ble_eq_true rfl) ((nx1, st1, tk1, vl1, ef1, ep1, hO1, hB1, Nd, F1, P2_119, rm2_119) : Int × Int × Int × Int × Int × Int × Int × Int × (Int → Int) × (Int → Int) × (Int → Int) × Int) ⟨(congrArg (fun z : Int => Value.int (iI z)) (by rw [hz 0, if_pos (by omega), e94])), ⟨q83, e93⟩, (funext fun j => by show F1 j = _ <;> rw [hz j, show w = 95 by omega, e94] <;> rfl), hP_119, hm_119⟩ hG
                  · skip
                    refine lv_aload_n S.1 S.2.1 dX9_load_130 rfl (lv_at hl 0 rfl) ?_
                    refine g_get S C hG iX90 0 rfl rfl 1 (by decide) (List.mem_of_getElem? (i := 12) rfl) rfl dX9_load_131 ?_
                    refine lv_iload_n S.1 S.2.1 dX9_load_134 rfl (lv_at hl 1 rfl) ?_
                    refine lv_aload_n S.1 S.2.1 dX9_load_135 rfl (lv_at hl 0 rfl) ?_
                    refine g_get S C hG iX90 0 rfl rfl 2 (by decide) (List.mem_of_getElem? (i := 9) rfl) rfl dX9_load_136 ?_
                    refine lv_iload_n S.1 S.2.1 dX9_load_139 rfl (lv_at hl 1 rfl) ?_
                    refine g_iald S C hG 2 rfl (by omega) (by omega) (by omega) dX9_load_140 ?_
                    refine g_iast (gs' := [gMdl K am 0 (am 1) lg mr en pw sl ly dn 0 iz nx1 st1 tk1 vl1 ef1 ep1 hO1 hB1 ol rm2_119 oz, gArr K 95 (am 1) (upI F1 w (Nd w)), gArr K 95 (am 2) Nd, gArrB K 400 (am 10) IF, gArr K 570 (am 18) P2_119]) S C hG 1 rfl (by omega) (by omega) (by omega) rfl dX9_load_141 (fun H locs hG => ?_)
                    refine lv_iinc (v := iI (w + 1)) (lv' := [(1, .int (iI (w + 1))), (0, .ref (am 0))]) S.1 S.2.1 dX9_load_142 hl (k := 1) rfl (g_iinc rfl) (by decide) rfl (fun ls hl => ?_)
                    refine lv_goto (tgt := 124) S.1 S.2.1 dX9_load_145 (by decide) ?_
                    exact ih124 (w + 1) (upI F1 w (Nd w)) _ _ _ (by omega) (by omega) (fun j => by (unfold upI <;> have z1 := hz j <;> (repeat' split) <;> first | (congr 1 <;> omega) | omega | (rw [z1] <;> (repeat' split) <;> first | rfl | omega))) (lv_sub hl [1, 0] rfl) hG
              exact L124 (Nat.succ (((95 : Int) - 0).toNat)) 0 NF _ _ _ (Nat.lt_succ_self _) (by omega) (fun j => by rw [if_neg (by omega)]) (lv_sub hl [1, 0] rfl) hG
            · skip
              omega
          · skip
            refine lv_aload_n S.1 S.2.1 dX9_load_93 rfl (lv_at hl 0 rfl) ?_
            refine g_invVv (As := []) (rest := []) (gs' := (fun u : Int × Int × Int × Int × Int × Int × (Int → Int) × Int × Int => [gMdl K am 0 (am 2) lg mr en pw sl ly dn 0 iz u.1 u.2.1 u.2.2.1 u.2.2.2.1 u.2.2.2.2.1 u.2.2.2.2.2.1 u.2.2.2.2.2.2.2.1 u.2.2.2.2.2.2.2.2 ol rm oz, gArr K 95 (am 1) NF, gArr K 95 (am 2) u.2.2.2.2.2.2.1, gArrB K 400 (am 10) IF, gArr K 570 (am 18) PA])) S C hG [0, 2, 3] (c_X9_parseStatement l K am 0 (am 2) lg mr en pw sl ly dn 0 iz nx1 st1 tk1 vl1 ef1 ep1 hO1 hB1 ol rm oz Nd IF i h0 st9.1 st9.2.1 st9.2.2.2.1 st9.2.2.2.2.1 st9.2.2.1) rfl rfl 0 rfl rfl (cwV 0 S.2.2.2.2 gX9_load_X9_parseStatement rfl rfl rfl (by decide +kernel) ⟨Nat.le_of_ble_eq_true rfl, Nat.le_of_ble_eq_true rfl⟩) rfl hl.1 rfl (Nat.le_of_ble_eq_true rfl) dX9_load_94 ⟨Nat.le_of_ble_eq_true rfl, Nat.le_of_ble_eq_true rfl⟩ (fun _ => Nat.le_of_ble_eq_true rfl) (fun _ => rfl) (fun u H locs hp hG => ?_)
            obtain ⟨nx2_94, st2_94, tk2_94, vl2_94, ef2_94, ep2_94, N2_94, hO2_94, hB2_94⟩ := u
            obtain ⟨hM2_94, hS_94, h1_94, h2_94⟩ := hp
            have hM2_94 : MSt IF iz (pb (stmE IF iz i Nd hO1 hB1) fun t => .inr t.1) nx2_94 st2_94 tk2_94 vl2_94 ef2_94 ep2_94 := hM2_94
            have hS_94 : StmM (stmE IF iz i Nd hO1 hB1) N2_94 hO2_94 hB2_94 := hS_94
            have h1_94 : hO2_94 = 0 ∨ hO2_94 = 1 := h1_94
            have h2_94 : hB2_94 = 0 ∨ hB2_94 = 1 := h2_94
            have hG : gW K A s.heap [gMdl K am 0 (am 2) lg mr en pw sl ly dn 0 iz nx2_94 st2_94 tk2_94 vl2_94 ef2_94 ep2_94 hO2_94 hB2_94 ol rm oz, gArr K 95 (am 1) NF, gArr K 95 (am 2) N2_94, gArrB K 400 (am 10) IF, gArr K 570 (am 18) PA] _ _ := hG
            refine lv_goto (tgt := 79) S.1 S.2.1 dX9_load_97 (by decide) ?_
            obtain ⟨j9, g9, hL9, hd9⟩ := hI.step q83 (by omega) hM2_94 hS_94 h1_94 h2_94 (fun t ht => stm_gt st9.2.2.2.2.2.1 (by omega) ht)
            exact ih j9 g9 N2_94 nx2_94 st2_94 tk2_94 vl2_94 ef2_94 ep2_94 hO2_94 hB2_94 _ _ _ (ldM_lt q83 hd9 hfu) hL9 (lv_sub hl [0] rfl) hG
    exact L79 (Nat.succ (ldM ef2_76 401)) 0 401 eN0 nx2_56 st2_56 tk2_56 vl2_56 ef2_76 ep2_76 0 0 _ _ _ (Nat.lt_succ_self _) (LdI.go hM2_76 h0.2 hb0) (lv_sub hl [0] rfl) hG
  refine g_ifne_b (B := (wdX IF iz (.inr 0) wLayer = true)) (tgt := 74) S dX9_load_67 (by decide) (fun q67 => ?_) (fun q67 => ?_)
  · skip
    refine g_iconst S dX9_load_74 ?_
    exact J75 0 _ _ _ (Or.inr ⟨rfl, q67⟩) (lv_sub hl [0] rfl) hG
  · skip
    refine g_iconst S dX9_load_70 ?_
    refine lv_goto (tgt := 75) S.1 S.2.1 dX9_load_71 (by decide) ?_
    exact J75 1 _ _ _ (Or.inl ⟨rfl, q67⟩) (lv_sub hl [0] rfl) hG
