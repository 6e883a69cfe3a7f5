set_option maxHeartbeats 1000000 in
set_option maxRecDepth 100000 in
theorem c_X9_followBoth (l : Launch) (K : KC) (am : Nat → Nat) (th : Int) (rw : Nat) (lg : Int) (mr : Int) (en : Int) (pw : Int) (sl : Int) (ly : Int) (dn : Int) (iz : Int) (tz : Int) (nx : Int) (st : Int) (tk : Int) (vl : Int) (ef : Int) (ep : Int) (hO : Int) (hB : Int) (ol : Int) (rm : Int) (oz : Int) (NF : Int → Int) (A0 : Int → Int) (A1 : Int → Int) (A2 : Int → Int) (A3 : Int → Int) (A4 : Int → Int) (A5 : Int → Int) (A6 : Int → Int) (O0 : Int → Int) (O1 : Int → Int) (O4 : Int → Int) (y : Int) (x : Int) (hN : NOk0 NF) (hs : 0 ≤ y ∧ y < NF 4) (ht : 0 ≤ x ∧ x < NF 4) : mV l yX9_followBoth wsX9_followBoth 6 135 K [.ref (am 0), .int (iI y), .int (iI x)] [gMdl K am th rw lg mr en pw sl ly dn iz tz nx st tk vl ef ep hO hB ol rm oz, gArr K 95 rw NF, gArr K 60 (am 3) A0, gArrZ K 60 (am 4) A1, gArr K 60 (am 5) A2, gArr K 60 (am 6) A3, gArr K 60 (am 7) A4, gArr K 60 (am 8) A5, gArr K 60 (am 9) A6, gArr K 60 (am 11) O0, gArrZ K 60 (am 12) O1, gArr K 60 (am 13) O4] (fun (u : Int × Int × Int × Int × Int × Int × Int × (Int → Int) × (Int → Int) × (Int → Int) × (Int → Int) × (Int → Int) × (Int → Int) × (Int → Int) × Int × (Int → Int) × (Int → Int) × (Int → Int)) => (FolS NF x u.1 u.2.1 u.2.2.1 u.2.2.2.1 u.2.2.2.2.2.2.2.1 u.2.2.2.2.2.2.2.2.1 u.2.2.2.2.2.2.2.2.2.1 u.2.2.2.2.2.2.2.2.2.2.1 u.2.2.2.2.2.2.2.2.2.2.2.1 u.2.2.2.2.2.2.2.2.2.2.2.2.1 u.2.2.2.2.2.2.2.2.2.2.2.2.2.1) ∧ (OthR NF y u.2.2.2.2.2.2.2.2.2.2.2.2.2.2.1 u.2.2.2.2.2.2.2.2.2.2.2.2.2.2.2.1 u.2.2.2.2.2.2.2.2.2.2.2.2.2.2.2.2.1 u.2.2.2.2.2.2.2.2.2.2.2.2.2.2.2.2.2) ∧ (PosF u.2.2.2.2.2.2.2.2.2.2.2.2.2.2.2.2.2 (gS NF y) ∧ (∀ i : Nat, i < gS NF y → 0 ≤ u.2.2.2.2.2.2.2.2.2.2.2.2.2.2.2.1 (i : Int) ∧ u.2.2.2.2.2.2.2.2.2.2.2.2.2.2.2.1 (i : Int) ≤ 9) ∧ (∀ k : Nat, k ≤ gS NF y → 0 ≤ sF u.2.2.2.2.2.2.2.2.2.2.2.2.2.2.2.2.2 k ∧ sF u.2.2.2.2.2.2.2.2.2.2.2.2.2.2.2.2.2 k ≤ 1998000 * k) ∧ gS NF y ≤ 60) ∧ (∀ i : Nat, i < gS NF y → 0 ≤ u.2.2.2.2.2.2.2.2.2.2.2.2.2.2.2.2.1 (i : Int) ∧ u.2.2.2.2.2.2.2.2.2.2.2.2.2.2.2.2.1 (i : Int) ≤ 1)) (fun (u : Int × Int × Int × Int × Int × Int × Int × (Int → Int) × (Int → Int) × (Int → Int) × (Int → Int) × (Int → Int) × (Int → Int) × (Int → Int) × Int × (Int → Int) × (Int → Int) × (Int → Int)) => [gMdl K am th rw u.1 u.2.1 u.2.2.1 u.2.2.2.1 u.2.2.2.2.1 u.2.2.2.2.2.1 u.2.2.2.2.2.2.1 iz tz nx st tk vl ef ep hO hB u.2.2.2.2.2.2.2.2.2.2.2.2.2.2.1 rm oz, gArr K 95 rw NF, gArr K 60 (am 3) u.2.2.2.2.2.2.2.1, gArrZ K 60 (am 4) u.2.2.2.2.2.2.2.2.1, gArr K 60 (am 5) u.2.2.2.2.2.2.2.2.2.1, gArr K 60 (am 6) u.2.2.2.2.2.2.2.2.2.2.1, gArr K 60 (am 7) u.2.2.2.2.2.2.2.2.2.2.2.1, gArr K 60 (am 8) u.2.2.2.2.2.2.2.2.2.2.2.2.1, gArr K 60 (am 9) u.2.2.2.2.2.2.2.2.2.2.2.2.2.1, gArr K 60 (am 11) u.2.2.2.2.2.2.2.2.2.2.2.2.2.2.2.1, gArrZ K 60 (am 12) u.2.2.2.2.2.2.2.2.2.2.2.2.2.2.2.2.1, gArr K 60 (am 13) u.2.2.2.2.2.2.2.2.2.2.2.2.2.2.2.2.2]) 0 0 := by
  refine mV_of cX9_followBoth 4 (by decide) rfl (Nat.le_of_ble_eq_true rfl) ?_
  intro p e s m below meth c A ls Q S C hG hl hr hlk hin hQ
  have S : CallFix p m c cX9_followBoth 4 s ([.ref (am 0), .int (iI y), .int (iI x)] : List Value).toArray wsX9_followBoth RX9 := S
  have iX90 : ∀ w ∈ wsX90, w ∈ wsX9_followBoth := fun _ h => List.mem_cons_of_mem _ (List.mem_append_right _ (h))
  have hl : lv_has ls 4 [(0, .ref (am 0)), (1, .int (iI y)), (2, .int (iI x))] := hl
  have hG : gW K A s.heap [gMdl K am th rw lg mr en pw sl ly dn iz tz nx st tk vl ef ep hO hB ol rm oz, gArr K 95 rw NF, gArr K 60 (am 3) A0, gArrZ K 60 (am 4) A1, gArr K 60 (am 5) A2, gArr K 60 (am 6) A3, gArr K 60 (am 7) A4, gArr K 60 (am 8) A5, gArr K 60 (am 9) A6, gArr K 60 (am 11) O0, gArrZ K 60 (am 12) O1, gArr K 60 (am 13) O4] s.heap [] := hG
  have n0 := hN.1
  have n3 := hN.2.2.2.1
  have g4 := sho_bd hN hs.1 hs.2
  refine lv_aload_n S.1 S.2.1 dX9_followBoth_0 rfl (lv_at hl 0 rfl) ?_
  refine lv_iload_n S.1 S.2.1 dX9_followBoth_1 rfl (lv_at hl 1 rfl) ?_
  refine g_invVv (As := [.int (iI y)]) (rest := []) (gs' := (fun u : Int × Int × Int × Int × Int × Int × Int × (Int → Int) × (Int → Int) × (Int → Int) × (Int → Int) × (Int → Int) × (Int → Int) × (Int → Int) => [gMdl K am th rw u.1 u.2.1 u.2.2.1 u.2.2.2.1 u.2.2.2.2.1 u.2.2.2.2.2.1 u.2.2.2.2.2.2.1 iz tz nx st tk vl ef ep hO hB ol rm oz, gArr K 95 rw NF, gArr K 60 (am 3) u.2.2.2.2.2.2.2.1, gArrZ K 60 (am 4) u.2.2.2.2.2.2.2.2.1, gArr K 60 (am 5) u.2.2.2.2.2.2.2.2.2.1, gArr K 60 (am 6) u.2.2.2.2.2.2.2.2.2.2.1, gArr K 60 (am 7) u.2.2.2.2.2.2.2.2.2.2.2.1, gArr K 60 (am 8) u.2.2.2.2.2.2.2.2.2.2.2.2.1, gArr K 60 (am 9) u.2.2.2.2.2.2.2.2.2.2.2.2.2, gArr K 60 (am 11) O0, gArrZ K 60 (am 12) O1, gArr K 60 (am 13) O4])) S C hG [0, 1, 2, 3, 4, 5, 6, 7, 8] (c_X9_followShot l K am th rw lg mr en pw sl ly dn iz tz nx st tk vl ef ep hO hB ol rm oz NF A0 A1 A2 A3 A4 A5 A6 y hN hs) rfl rfl 0 rfl rfl (cwV 1 S.2.2.2.2 gX9_followBoth_X9_followShot rfl rfl rfl (by decide +kernel) ⟨Nat.le_of_ble_eq_true rfl, Nat.le_of_ble_eq_true rfl⟩) rfl hl.1 rfl (Nat.le_of_ble_eq_true rfl) dX9_followBoth_2 ⟨Nat.le_of_ble_eq_true rfl, Nat.le_of_ble_eq_true rfl⟩ (fun _ => Nat.le_of_ble_eq_true rfl) (fun _ => rfl) (fun u H locs hp hG => ?_)
  obtain ⟨lg2_2, mr2_2, en2_2, pw2_2, sl2_2, ly2_2, dn2_2, B0_2, B1_2, B2_2, B3_2, B4_2, B5_2, B6_2⟩ := u
  have hf_2 := hp
  have hf_2 : FolS NF y lg2_2 mr2_2 en2_2 pw2_2 B0_2 B1_2 B2_2 B3_2 B4_2 B5_2 B6_2 := hf_2
  have hG : gW K A s.heap [gMdl K am th rw lg2_2 mr2_2 en2_2 pw2_2 sl2_2 ly2_2 dn2_2 iz tz nx st tk vl ef ep hO hB ol rm oz, gArr K 95 rw NF, gArr K 60 (am 3) B0_2, gArrZ K 60 (am 4) B1_2, gArr K 60 (am 5) B2_2, gArr K 60 (am 6) B3_2, gArr K 60 (am 7) B4_2, gArr K 60 (am 8) B5_2, gArr K 60 (am 9) B6_2, gArr K 60 (am 11) O0, gArrZ K 60 (am 12) O1, gArr K 60 (am 13) O4] _ _ := hG
  have fb := hf_2.bd hN g4.2.2.1 g4.2.1
  have g9 : lg2_2 = (gS NF y : Int) := hf_2.1
  have a9 := fun (i : Nat) (hi : i < gS NF y) => hf_2.at0 hi
  refine lv_aload_n S.1 S.2.1 dX9_followBoth_5 rfl (lv_at hl 0 rfl) ?_
  refine lv_aload_n S.1 S.2.1 dX9_followBoth_6 rfl (lv_at hl 0 rfl) ?_
  refine g_get S C hG iX90 0 rfl rfl 11 (by decide) (List.mem_of_getElem? (i := 1) rfl) rfl dX9_followBoth_7 ?_
  refine g_put (gs' := [gMdl K am th rw lg2_2 mr2_2 en2_2 pw2_2 sl2_2 ly2_2 dn2_2 iz tz nx st tk vl ef ep hO hB lg2_2 rm oz, gArr K 95 rw NF, gArr K 60 (am 3) B0_2, gArrZ K 60 (am 4) B1_2, gArr K 60 (am 5) B2_2, gArr K 60 (am 6) B3_2, gArr K 60 (am 7) B4_2, gArr K 60 (am 8) B5_2, gArr K 60 (am 9) B6_2, gArr K 60 (am 11) O0, gArrZ K 60 (am 12) O1, gArr K 60 (am 13) O4]) S C hG iX90 tyX9 tyX9_ok nmX9 0 rfl rfl 32 (by decide) (List.mem_of_getElem? (i := 2) rfl) rfl rfl rfl (Nat.le_of_ble_eq_true rfl) rfl dX9_followBoth_10 (fun H locs hG => ?_)
  refine g_iconst S dX9_followBoth_13 ?_
  refine lv_istore_n (lv' := [(3, .int (iI 0)), (0, .ref (am 0)), (1, .int (iI y)), (2, .int (iI x))]) S.1 S.2.1 dX9_followBoth_14 rfl hl (by decide) rfl (fun ls hl => ?_)
  have L15 : ∀ (fu : Nat) (k : Nat) (w : Int) (Q0 : Int → Int) (Q1 : Int → Int) (Q4 : Int → Int) (H : Heap) (locs : List Loc) (ls : Array Slot), ((lg2_2 - w).toNat) < fu → (w = (k : Int) ∧ w ≤ lg2_2) → (∀ i : Nat, i < k → Q0 (i : Int) = ykS NF y i ∧ Q1 (i : Int) = ekS NF y i ∧ Q4 (i : Int) = tqS NF y i) → lv_has ls 4 [(0, .ref (am 0)), (1, .int (iI y)), (2, .int (iI x)), (3, .int (iI w))] → gW K A s.heap [gMdl K am th rw lg2_2 mr2_2 en2_2 pw2_2 sl2_2 ly2_2 dn2_2 iz tz nx st tk vl ef ep hO hB lg2_2 rm oz, gArr K 95 rw NF, gArr K 60 (am 3) B0_2, gArrZ K 60 (am 4) B1_2, gArr K 60 (am 5) B2_2, gArr K 60 (am 6) B3_2, gArr K 60 (am 7) B4_2, gArr K 60 (am 8) B5_2, gArr K 60 (am 9) B6_2, gArr K 60 (am 11) Q0, gArrZ K 60 (am 12) Q1, gArr K 60 (am 13) Q4] H locs → W p l e { frames := 6, cells := 0, slots := 0, locals := 135 } s m ([.ref (am 0), .int (iI y), .int (iI x)] : List Value).toArray below meth c H locs 0 0 Q (F0 m 15 ls []) := by
    intro fu
    induction fu with
    | zero => intro k w Q0 Q1 Q4 H locs ls hfu; exact absurd hfu (Nat.not_lt_zero _)
    | succ fu ih =>
      intro k w Q0 Q1 Q4 H locs ls hfu hw hz hl hG
      refine lv_iload_n S.1 S.2.1 dX9_followBoth_15 rfl (lv_at hl 3 rfl) ?_
      refine lv_aload_n S.1 S.2.1 dX9_followBoth_16 rfl (lv_at hl 0 rfl) ?_
      refine g_get S C hG iX90 0 rfl rfl 11 (by decide) (List.mem_of_getElem? (i := 1) rfl) rfl dX9_followBoth_17 ?_
      refine g_icmp_ge (tgt := 65) S dX9_followBoth_20 (by decide) (by omega) (by omega) (fun q20 => ?_) (fun q20 => ?_)
      · skip
        refine lv_aload_n S.1 S.2.1 dX9_followBoth_65 rfl (lv_at hl 0 rfl) ?_
        refine lv_iload_n S.1 S.2.1 dX9_followBoth_66 rfl (lv_at hl 2 rfl) ?_
        refine g_invVv (As := [.int (iI x)]) (rest := []) (gs' := (fun u : Int × Int × Int × Int × Int × Int × Int × (Int → Int) × (Int → Int) × (Int → Int) × (Int → Int) × (Int → Int) × (Int → Int) × (Int → Int) => [gMdl K am th rw u.1 u.2.1 u.2.2.1 u.2.2.2.1 u.2.2.2.2.1 u.2.2.2.2.2.1 u.2.2.2.2.2.2.1 iz tz nx st tk vl ef ep hO hB lg2_2 rm oz, gArr K 95 rw NF, gArr K 60 (am 3) u.2.2.2.2.2.2.2.1, gArrZ K 60 (am 4) u.2.2.2.2.2.2.2.2.1, gArr K 60 (am 5) u.2.2.2.2.2.2.2.2.2.1, gArr K 60 (am 6) u.2.2.2.2.2.2.2.2.2.2.1, gArr K 60 (am 7) u.2.2.2.2.2.2.2.2.2.2.2.1, gArr K 60 (am 8) u.2.2.2.2.2.2.2.2.2.2.2.2.1, gArr K 60 (am 9) u.2.2.2.2.2.2.2.2.2.2.2.2.2, gArr K 60 (am 11) Q0, gArrZ K 60 (am 12) Q1, gArr K 60 (am 13) Q4])) S C hG [0, 1, 2, 3, 4, 5, 6, 7, 8] (c_X9_followShot l K am th rw lg2_2 mr2_2 en2_2 pw2_2 sl2_2 ly2_2 dn2_2 iz tz nx st tk vl ef ep hO hB lg2_2 rm oz NF B0_2 B1_2 B2_2 B3_2 B4_2 B5_2 B6_2 x hN ht) rfl rfl 0 rfl rfl (cwV 1 S.2.2.2.2 gX9_followBoth_X9_followShot rfl rfl rfl (by decide +kernel) ⟨Nat.le_of_ble_eq_true rfl, Nat.le_of_ble_eq_true rfl⟩) rfl hl.1 rfl (Nat.le_of_ble_eq_true rfl) dX9_followBoth_67 ⟨Nat.le_of_ble_eq_true rfl, Nat.le_of_ble_eq_true rfl⟩ (fun _ => Nat.le_of_ble_eq_true rfl) (fun _ => rfl) (fun u H locs hp hG => ?_)
        obtain ⟨lg2_67, mr2_67, en2_67, pw2_67, sl2_67, ly2_67, dn2_67, B0_67, B1_67, B2_67, B3_67, B4_67, B5_67, B6_67⟩ := u
        have hf_67 := hp
        have hf_67 : FolS NF x lg2_67 mr2_67 en2_67 pw2_67 B0_67 B1_67 B2_67 B3_67 B4_67 B5_67 B6_67 := hf_67
        have hG : gW K A s.heap [gMdl K am th rw lg2_67 mr2_67 en2_67 pw2_67 sl2_67 ly2_67 dn2_67 iz tz nx st tk vl ef ep hO hB lg2_2 rm oz, gArr K 95 rw NF, gArr K 60 (am 3) B0_67, gArrZ K 60 (am 4) B1_67, gArr K 60 (am 5) B2_67, gArr K 60 (am 6) B3_67, gArr K 60 (am 7) B4_67, gArr K 60 (am 8) B5_67, gArr K 60 (am 9) B6_67, gArr K 60 (am 11) Q0, gArrZ K 60 (am 12) Q1, gArr K 60 (am 13) Q4] _ _ := hG
        have ho9 : OthR NF y lg2_2 Q0 Q1 Q4 := ⟨g9, fun i hi => hz i (by omega)⟩
        have hG : gW K A s.heap [gMdl K am th rw lg2_67 mr2_67 en2_67 pw2_67 sl2_67 ly2_67 dn2_67 iz tz nx st tk vl ef ep hO hB lg2_2 rm oz, gArr K 95 rw NF, gArr K 60 (am 3) B0_67, gArrZ K 60 (am 4) B1_67, gArr K 60 (am 5) B2_67, gArr K 60 (am 6) B3_67, gArr K 60 (am 7) B4_67, gArr K 60 (am 8) B5_67, gArr K 60 (am 9) B6_67, gArr K 60 (am 11) Q0, gArrZ K 60 (am 12) Q1, gArr K 60 (am 13) Q4] _ _ := hG
        exact g_vret S hr hlk hQ dX9_followBoth_70 (Nat.le_of_ble_eq_true rfl) (Nat.le_of_ble_eq_true rfl) ((lg2_67, mr2_67, en2_67, pw2_67, sl2_67, ly2_67, dn2_67, B0_67, B1_67, B2_67, B3_67, B4_67, B5_67, B6_67, lg2_2, Q0, Q1, Q4) : Int × Int × Int × Int × Int × Int × Int × (Int → Int) × (Int → Int) × (Int → Int) × (Int → Int) × (Int → Int) × (Int → Int) × (Int → Int) × Int × (Int → Int) × (Int → Int) × (Int → Int)) ⟨hf_67, ho9, (OthR.pos hN hs ho9 hf_2), (OthR.e1 hN hs ho9 hf_2)⟩ hG
      · skip
        have z9 := fb.2.2.2 w (by omega) (by omega)
        have b9 := a9 k (by omega)
        rw [← hw.1] at b9
        refine lv_aload_n S.1 S.2.1 dX9_followBoth_23 rfl (lv_at hl 0 rfl) ?_
        refine g_get S C hG iX90 0 rfl rfl 29 (by decide) (List.mem_of_getElem? (i := 3) rfl) rfl dX9_followBoth_24 ?_
        refine lv_iload_n S.1 S.2.1 dX9_followBoth_27 rfl (lv_at hl 3 rfl) ?_
        refine lv_aload_n S.1 S.2.1 dX9_followBoth_28 rfl (lv_at hl 0 rfl) ?_
        refine g_get S C hG iX90 0 rfl rfl 4 (by decide) (List.mem_of_getElem? (i := 4) rfl) rfl dX9_followBoth_29 ?_
        refine lv_iload_n S.1 S.2.1 dX9_followBoth_32 rfl (lv_at hl 3 rfl) ?_
        refine g_iald S C hG 2 rfl (by omega) (by omega) (by omega) dX9_followBoth_33 ?_
        refine g_iast (gs' := [gMdl K am th rw lg2_2 mr2_2 en2_2 pw2_2 sl2_2 ly2_2 dn2_2 iz tz nx st tk vl ef ep hO hB lg2_2 rm oz, gArr K 95 rw NF, gArr K 60 (am 3) B0_2, gArrZ K 60 (am 4) B1_2, gArr K 60 (am 5) B2_2, gArr K 60 (am 6) B3_2, gArr K 60 (am 7) B4_2, gArr K 60 (am 8) B5_2, gArr K 60 (am 9) B6_2, gArr K 60 (am 11) (upI Q0 w (B0_2 w)), gArrZ K 60 (am 12) Q1, gArr K 60 (am 13) Q4]) S C hG 9 rfl (by omega) (by omega) (by omega) rfl dX9_followBoth_34 (fun H locs hG => ?_)
        refine lv_aload_n S.1 S.2.1 dX9_followBoth_35 rfl (lv_at hl 0 rfl) ?_
        refine g_get S C hG iX90 0 rfl rfl 30 (by decide) (List.mem_of_getElem? (i := 5) rfl) rfl dX9_followBoth_36 ?_
        refine lv_iload_n S.1 S.2.1 dX9_followBoth_39 rfl (lv_at hl 3 rfl) ?_
        refine lv_aload_n S.1 S.2.1 dX9_followBoth_40 rfl (lv_at hl 0 rfl) ?_
        refine g_get S C hG iX90 0 rfl rfl 5 (by decide) (List.mem_of_getElem? (i := 6) rfl) rfl dX9_followBoth_41 ?_
        refine lv_iload_n S.1 S.2.1 dX9_followBoth_44 rfl (lv_at hl 3 rfl) ?_
        refine g_zald S C hG 3 rfl (by omega) (by omega) (by omega) dX9_followBoth_45 ?_
        refine g_zast (gs' := [gMdl K am th rw lg2_2 mr2_2 en2_2 pw2_2 sl2_2 ly2_2 dn2_2 iz tz nx st tk vl ef ep hO hB lg2_2 rm oz, gArr K 95 rw NF, gArr K 60 (am 3) B0_2, gArrZ K 60 (am 4) B1_2, gArr K 60 (am 5) B2_2, gArr K 60 (am 6) B3_2, gArr K 60 (am 7) B4_2, gArr K 60 (am 8) B5_2, gArr K 60 (am 9) B6_2, gArr K 60 (am 11) (upI Q0 w (B0_2 w)), gArrZ K 60 (am 12) (upI Q1 w (B1_2 w)), gArr K 60 (am 13) Q4]) S C hG 10 rfl (by omega) (by omega) (by omega) (by omega) rfl dX9_followBoth_46 (fun H locs hG => ?_)
        refine lv_aload_n S.1 S.2.1 dX9_followBoth_47 rfl (lv_at hl 0 rfl) ?_
        refine g_get S C hG iX90 0 rfl rfl 31 (by decide) (List.mem_of_getElem? (i := 7) rfl) rfl dX9_followBoth_48 ?_
        refine lv_iload_n S.1 S.2.1 dX9_followBoth_51 rfl (lv_at hl 3 rfl) ?_
        refine lv_aload_n S.1 S.2.1 dX9_followBoth_52 rfl (lv_at hl 0 rfl) ?_
        refine g_get S C hG iX90 0 rfl rfl 8 (by decide) (List.mem_of_getElem? (i := 8) rfl) rfl dX9_followBoth_53 ?_
        refine lv_iload_n S.1 S.2.1 dX9_followBoth_56 rfl (lv_at hl 3 rfl) ?_
        refine g_iald S C hG 6 rfl (by omega) (by omega) (by omega) dX9_followBoth_57 ?_
        refine g_iast (gs' := [gMdl K am th rw lg2_2 mr2_2 en2_2 pw2_2 sl2_2 ly2_2 dn2_2 iz tz nx st tk vl ef ep hO hB lg2_2 rm oz, gArr K 95 rw NF, gArr K 60 (am 3) B0_2, gArrZ K 60 (am 4) B1_2, gArr K 60 (am 5) B2_2, gArr K 60 (am 6) B3_2, gArr K 60 (am 7) B4_2, gArr K 60 (am 8) B5_2, gArr K 60 (am 9) B6_2, gArr K 60 (am 11) (upI Q0 w (B0_2 w)), gArrZ K 60 (am 12) (upI Q1 w (B1_2 w)), gArr K 60 (am 13) (upI Q4 w (B4_2 w))]) S C hG 11 rfl (by omega) (by omega) (by omega) rfl dX9_followBoth_58 (fun H locs hG => ?_)
        refine lv_iinc (v := iI (w + 1)) (lv' := [(3, .int (iI (w + 1))), (0, .ref (am 0)), (1, .int (iI y)), (2, .int (iI x))]) S.1 S.2.1 dX9_followBoth_59 hl (k := 3) rfl (g_iinc rfl) (by decide) rfl (fun ls hl => ?_)
        refine lv_goto (tgt := 15) S.1 S.2.1 dX9_followBoth_62 (by decide) ?_
        exact ih (k + 1) (w + 1) (upI Q0 w (B0_2 w)) (upI Q1 w (B1_2 w)) (upI Q4 w (B4_2 w)) _ _ _ (by omega) ⟨by omega, by omega⟩ (fun i hi => if g : i < k then by (rw [upI_n _ _ (by omega), upI_n _ _ (by omega), upI_n _ _ (by omega)] <;> exact hz i g) else by (rw [upI_e _ _ (by omega), upI_e _ _ (by omega), upI_e _ _ (by omega), show i = k by omega] <;> exact ⟨b9.1, b9.2.1, b9.2.2.2⟩)) (lv_sub hl [1, 2, 3, 0] rfl) hG
  exact L15 (Nat.succ ((lg2_2 - 0).toNat)) 0 0 O0 O1 O4 _ _ _ (Nat.lt_succ_self _) ⟨rfl, by omega⟩ (fun i hi => absurd hi (Nat.not_lt_zero i)) (lv_sub hl [1, 2, 3, 0] rfl) hG

set_option maxHeartbeats 1000000 in
set_option maxRecDepth 100000 in
theorem c_X9_alike (l : Launch) (K : KC) (am : Nat → Nat) (th : Int) (rw : Nat) (lg : Int) (mr : Int) (en : Int) (pw : Int) (sl : Int) (ly : Int) (dn : Int) (iz : Int) (tz : Int) (nx : Int) (st : Int) (tk : Int) (vl : Int) (ef : Int) (ep : Int) (hO : Int) (hB : Int) (ol : Int) (rm : Int) (oz : Int) (NF : Int → Int) (A0 : Int → Int) (A1 : Int → Int) (A2 : Int → Int) (A3 : Int → Int) (A4 : Int → Int) (A5 : Int → Int) (A6 : Int → Int) (O0 : Int → Int) (O1 : Int → Int) (O4 : Int → Int) (y : Int) (x : Int) (hN : NOk0 NF) (hv : -2147483648 ≤ y ∧ y < 2147483648) (hx : -2147483648 ≤ x ∧ x < 2147483648) : mG l yX9_alike wsX9_alike 7 158 K [.ref (am 0), .int (iI y), .int (iI x)] [gMdl K am th rw lg mr en pw sl ly dn iz tz nx st tk vl ef ep hO hB ol rm oz, gArr K 95 rw NF, gArr K 60 (am 3) A0, gArrZ K 60 (am 4) A1, gArr K 60 (am 5) A2, gArr K 60 (am 6) A3, gArr K 60 (am 7) A4, gArr K 60 (am 8) A5, gArr K 60 (am 9) A6, gArr K 60 (am 11) O0, gArrZ K 60 (am 12) O1, gArr K 60 (am 13) O4] (fun (v : Value) (u : Int × Int × Int × Int × Int × Int × Int × Int × (Int → Int) × (Int → Int) × (Int → Int) × (Int → Int) × (Int → Int) × (Int → Int) × (Int → Int) × Int × (Int → Int) × (Int → Int) × (Int → Int)) => (v = .int (iI u.1)) ∧ (((0 ≤ y ∧ y < NF 4) ∧ 0 ≤ x ∧ x < NF 4) ∧ (¬ y = x) → u.1 = (alkS NF y x : Int))) (fun (u : Int × Int × Int × Int × Int × Int × Int × Int × (Int → Int) × (Int → Int) × (Int → Int) × (Int → Int) × (Int → Int) × (Int → Int) × (Int → Int) × Int × (Int → Int) × (Int → Int) × (Int → Int)) => [gMdl K am (thr (bI ((0 ≤ y ∧ y < NF 4) ∧ 0 ≤ x ∧ x < NF 4)) (bI (¬ y = x)) 1) rw u.2.1 u.2.2.1 u.2.2.2.1 u.2.2.2.2.1 u.2.2.2.2.2.1 u.2.2.2.2.2.2.1 u.2.2.2.2.2.2.2.1 iz tz nx st tk vl ef ep hO hB u.2.2.2.2.2.2.2.2.2.2.2.2.2.2.2.1 rm oz, gArr K 95 rw NF, gArr K 60 (am 3) u.2.2.2.2.2.2.2.2.1, gArrZ K 60 (am 4) u.2.2.2.2.2.2.2.2.2.1, gArr K 60 (am 5) u.2.2.2.2.2.2.2.2.2.2.1, gArr K 60 (am 6) u.2.2.2.2.2.2.2.2.2.2.2.1, gArr K 60 (am 7) u.2.2.2.2.2.2.2.2.2.2.2.2.1, gArr K 60 (am 8) u.2.2.2.2.2.2.2.2.2.2.2.2.2.1, gArr K 60 (am 9) u.2.2.2.2.2.2.2.2.2.2.2.2.2.2.1, gArr K 60 (am 11) u.2.2.2.2.2.2.2.2.2.2.2.2.2.2.2.2.1, gArrZ K 60 (am 12) u.2.2.2.2.2.2.2.2.2.2.2.2.2.2.2.2.2.1, gArr K 60 (am 13) u.2.2.2.2.2.2.2.2.2.2.2.2.2.2.2.2.2.2]) 0 0 := by
  refine mG_of cX9_alike 4 (by decide) rfl (Nat.le_of_ble_eq_true rfl) ?_
  intro p e s m below meth c A ls Q S C hG hl hr hlk hin hQ
  have S : CallFix p m c cX9_alike 4 s ([.ref (am 0), .int (iI y), .int (iI x)] : List Value).toArray wsX9_alike RX9 := S
  have iX90 : ∀ w ∈ wsX90, w ∈ wsX9_alike := fun _ h => List.mem_cons_of_mem _ (List.mem_append_right _ (h))
  have hl : lv_has ls 4 [(0, .ref (am 0)), (1, .int (iI y)), (2, .int (iI x))] := hl
  have hG : gW K A s.heap [gMdl K am th rw lg mr en pw sl ly dn iz tz nx st tk vl ef ep hO hB ol rm oz, gArr K 95 rw NF, gArr K 60 (am 3) A0, gArrZ K 60 (am 4) A1, gArr K 60 (am 5) A2, gArr K 60 (am 6) A3, gArr K 60 (am 7) A4, gArr K 60 (am 8) A5, gArr K 60 (am 9) A6, gArr K 60 (am 11) O0, gArrZ K 60 (am 12) O1, gArr K 60 (am 13) O4] s.heap [] := hG
  have n0 := hN.1
  have n3 := hN.2.2.2.1
  refine lv_aload_n S.1 S.2.1 dX9_alike_0 rfl (lv_at hl 0 rfl) ?_
  refine lv_aload_n S.1 S.2.1 dX9_alike_1 rfl (lv_at hl 0 rfl) ?_
  refine lv_iload_n S.1 S.2.1 dX9_alike_2 rfl (lv_at hl 1 rfl) ?_
  refine g_invV (As := [.int (iI y)]) (rest := [.ref (am 0)]) (gs' := (fun u : Unit => [gMdl K am th rw lg mr en pw sl ly dn iz tz nx st tk vl ef ep hO hB ol rm oz, gArr K 95 rw NF, gArr K 60 (am 3) A0, gArrZ K 60 (am 4) A1, gArr K 60 (am 5) A2, gArr K 60 (am 6) A3, gArr K 60 (am 7) A4, gArr K 60 (am 8) A5, gArr K 60 (am 9) A6, gArr K 60 (am 11) O0, gArrZ K 60 (am 12) O1, gArr K 60 (am 13) O4])) S C hG [0, 1] (c_X9_isShot l K am th rw lg mr en pw sl ly dn iz tz nx st tk vl ef ep hO hB ol rm oz NF y hN hv) rfl rfl 0 rfl rfl (cwV 1 S.2.2.2.2 gX9_alike_X9_isShot rfl rfl rfl (by decide +kernel) ⟨Nat.le_of_ble_eq_true rfl, Nat.le_of_ble_eq_true rfl⟩) rfl hl.1 rfl (Nat.le_of_ble_eq_true rfl) dX9_alike_3 ⟨Nat.le_of_ble_eq_true rfl, Nat.le_of_ble_eq_true rfl⟩ (fun _ => Nat.le_of_ble_eq_true rfl) (fun _ => rfl) (fun v u H locs hp hG => ?_)
  subst hp
  have J22 : ∀ (H : Heap) (locs : List Loc) (ls : Array Slot), lv_has ls 4 [(0, .ref (am 0)), (1, .int (iI y)), (2, .int (iI x))] → gW K A s.heap [gMdl K am th rw lg mr en pw sl ly dn iz tz nx st tk vl ef ep hO hB ol rm oz, gArr K 95 rw NF, gArr K 60 (am 3) A0, gArrZ K 60 (am 4) A1, gArr K 60 (am 5) A2, gArr K 60 (am 6) A3, gArr K 60 (am 7) A4, gArr K 60 (am 8) A5, gArr K 60 (am 9) A6, gArr K 60 (am 11) O0, gArrZ K 60 (am 12) O1, gArr K 60 (am 13) O4] H locs → W p l e { frames := 7, cells := 0, slots := 0, locals := 158 } s m ([.ref (am 0), .int (iI y), .int (iI x)] : List Value).toArray below meth c H locs 0 0 Q (F0 m 22 ls [.int (iI (bI ((0 ≤ y ∧ y < NF 4) ∧ 0 ≤ x ∧ x < NF 4))), .ref (am 0)]) := by
    intro  H locs ls  hl hG
    refine lv_iload_n S.1 S.2.1 dX9_alike_22 rfl (lv_at hl 1 rfl) ?_
    refine lv_iload_n S.1 S.2.1 dX9_alike_23 rfl (lv_at hl 2 rfl) ?_
    have J32 : ∀ (H : Heap) (locs : List Loc) (ls : Array Slot), lv_has ls 4 [(0, .ref (am 0)), (1, .int (iI y)), (2, .int (iI x))] → gW K A s.heap [gMdl K am th rw lg mr en pw sl ly dn iz tz nx st tk vl ef ep hO hB ol rm oz, gArr K 95 rw NF, gArr K 60 (am 3) A0, gArrZ K 60 (am 4) A1, gArr K 60 (am 5) A2, gArr K 60 (am 6) A3, gArr K 60 (am 7) A4, gArr K 60 (am 8) A5, gArr K 60 (am 9) A6, gArr K 60 (am 11) O0, gArrZ K 60 (am 12) O1, gArr K 60 (am 13) O4] H locs → W p l e { frames := 7, cells := 0, slots := 0, locals := 158 } s m ([.ref (am 0), .int (iI y), .int (iI x)] : List Value).toArray below meth c H locs 0 0 Q (F0 m 32 ls [.int (iI (bI (¬ y = x))), .int (iI (bI ((0 ≤ y ∧ y < NF 4) ∧ 0 ≤ x ∧ x < NF 4))), .ref (am 0)]) := by
      intro  H locs ls  hl hG
      refine g_invV (As := [.int (iI (bI ((0 ≤ y ∧ y < NF 4) ∧ 0 ≤ x ∧ x < NF 4))), .int (iI (bI (¬ y = x)))]) (rest := []) (gs' := (fun u : Unit => [gMdl K am (thr (bI ((0 ≤ y ∧ y < NF 4) ∧ 0 ≤ x ∧ x < NF 4)) (bI (¬ y = x)) 1) rw lg mr en pw sl ly dn iz tz nx st tk vl ef ep hO hB ol rm oz, gArr K 95 rw NF, gArr K 60 (am 3) A0, gArrZ K 60 (am 4) A1, gArr K 60 (am 5) A2, gArr K 60 (am 6) A3, gArr K 60 (am 7) A4, gArr K 60 (am 8) A5, gArr K 60 (am 9) A6, gArr K 60 (am 11) O0, gArrZ K 60 (am 12) O1, gArr K 60 (am 13) O4])) S C hG [0] (c_X9_passes2 l K am th rw lg mr en pw sl ly dn iz tz nx st tk vl ef ep hO hB ol rm oz (bI ((0 ≤ y ∧ y < NF 4) ∧ 0 ≤ x ∧ x < NF 4)) (bI (¬ y = x)) (bI_01 _) (bI_01 _)) rfl rfl 0 rfl rfl (cwV 2 S.2.2.2.2 gX9_alike_X9_passes2 rfl rfl rfl (by decide +kernel) ⟨Nat.le_of_ble_eq_true rfl, Nat.le_of_ble_eq_true rfl⟩) rfl hl.1 rfl (Nat.le_of_ble_eq_true rfl) dX9_alike_32 ⟨Nat.le_of_ble_eq_true rfl, Nat.le_of_ble_eq_true rfl⟩ (fun _ => Nat.le_of_ble_eq_true rfl) (fun _ => rfl) (fun v u H locs hp hG => ?_)
      subst hp
      refine g_ifne_b (B := ((bI ((0 ≤ y ∧ y < NF 4) ∧ 0 ≤ x ∧ x < NF 4)) = 1 ∧ (bI (¬ y = x)) = 1)) (tgt := 40) S dX9_alike_35 (by decide) (fun q35 => ?_) (fun q35 => ?_)
      · skip
        have qa := bI1 q35.1
        have qb := bI1 q35.2
        refine lv_aload_n S.1 S.2.1 dX9_alike_40 rfl (lv_at hl 0 rfl) ?_
        refine lv_iload_n S.1 S.2.1 dX9_alike_41 rfl (lv_at hl 1 rfl) ?_
        refine lv_iload_n S.1 S.2.1 dX9_alike_42 rfl (lv_at hl 2 rfl) ?_
        refine g_invVv (As := [.int (iI y), .int (iI x)]) (rest := []) (gs' := (fun u : Int × Int × Int × Int × Int × Int × Int × (Int → Int) × (Int → Int) × (Int → Int) × (Int → Int) × (Int → Int) × (Int → Int) × (Int → Int) × Int × (Int → Int) × (Int → Int) × (Int → Int) => [gMdl K am (thr (bI ((0 ≤ y ∧ y < NF 4) ∧ 0 ≤ x ∧ x < NF 4)) (bI (¬ y = x)) 1) rw u.1 u.2.1 u.2.2.1 u.2.2.2.1 u.2.2.2.2.1 u.2.2.2.2.2.1 u.2.2.2.2.2.2.1 iz tz nx st tk vl ef ep hO hB u.2.2.2.2.2.2.2.2.2.2.2.2.2.2.1 rm oz, gArr K 95 rw NF, gArr K 60 (am 3) u.2.2.2.2.2.2.2.1, gArrZ K 60 (am 4) u.2.2.2.2.2.2.2.2.1, gArr K 60 (am 5) u.2.2.2.2.2.2.2.2.2.1, gArr K 60 (am 6) u.2.2.2.2.2.2.2.2.2.2.1, gArr K 60 (am 7) u.2.2.2.2.2.2.2.2.2.2.2.1, gArr K 60 (am 8) u.2.2.2.2.2.2.2.2.2.2.2.2.1, gArr K 60 (am 9) u.2.2.2.2.2.2.2.2.2.2.2.2.2.1, gArr K 60 (am 11) u.2.2.2.2.2.2.2.2.2.2.2.2.2.2.2.1, gArrZ K 60 (am 12) u.2.2.2.2.2.2.2.2.2.2.2.2.2.2.2.2.1, gArr K 60 (am 13) u.2.2.2.2.2.2.2.2.2.2.2.2.2.2.2.2.2])) S C hG [0, 1, 2, 3, 4, 5, 6, 7, 8, 9, 10, 11] (c_X9_followBoth l K am (thr (bI ((0 ≤ y ∧ y < NF 4) ∧ 0 ≤ x ∧ x < NF 4)) (bI (¬ y = x)) 1) rw lg mr en pw sl ly dn iz tz nx st tk vl ef ep hO hB ol rm oz NF A0 A1 A2 A3 A4 A5 A6 O0 O1 O4 y x hN qa.1 qa.2) rfl rfl 0 rfl rfl (cwV 2 S.2.2.2.2 gX9_alike_X9_followBoth rfl rfl rfl (by decide +kernel) ⟨Nat.le_of_ble_eq_true rfl, Nat.le_of_ble_eq_true rfl⟩) rfl hl.1 rfl (Nat.le_of_ble_eq_true rfl) dX9_alike_43 ⟨Nat.le_of_ble_eq_true rfl, Nat.le_of_ble_eq_true rfl⟩ (fun _ => Nat.le_of_ble_eq_true rfl) (fun _ => rfl) (fun u H locs hp hG => ?_)
        obtain ⟨lg2_43, mr2_43, en2_43, pw2_43, sl2_43, ly2_43, dn2_43, B0_43, B1_43, B2_43, B3_43, B4_43, B5_43, B6_43, ol2_43, P0_43, P1_43, P4_43⟩ := u
        obtain ⟨hf_43, ho_43, hp_43, h1q_43⟩ := hp
        have hf_43 : FolS NF x lg2_43 mr2_43 en2_43 pw2_43 B0_43 B1_43 B2_43 B3_43 B4_43 B5_43 B6_43 := hf_43
        have ho_43 : OthR NF y ol2_43 P0_43 P1_43 P4_43 := ho_43
        have hp_43 : PosF P4_43 (gS NF y) ∧ (∀ i : Nat, i < gS NF y → 0 ≤ P0_43 (i : Int) ∧ P0_43 (i : Int) ≤ 9) ∧ (∀ k : Nat, k ≤ gS NF y → 0 ≤ sF P4_43 k ∧ sF P4_43 k ≤ 1998000 * k) ∧ gS NF y ≤ 60 := hp_43
        have h1q_43 : ∀ i : Nat, i < gS NF y → 0 ≤ P1_43 (i : Int) ∧ P1_43 (i : Int) ≤ 1 := h1q_43
        have hG : gW K A s.heap [gMdl K am (thr (bI ((0 ≤ y ∧ y < NF 4) ∧ 0 ≤ x ∧ x < NF 4)) (bI (¬ y = x)) 1) rw lg2_43 mr2_43 en2_43 pw2_43 sl2_43 ly2_43 dn2_43 iz tz nx st tk vl ef ep hO hB ol2_43 rm oz, gArr K 95 rw NF, gArr K 60 (am 3) B0_43, gArrZ K 60 (am 4) B1_43, gArr K 60 (am 5) B2_43, gArr K 60 (am 6) B3_43, gArr K 60 (am 7) B4_43, gArr K 60 (am 8) B5_43, gArr K 60 (am 9) B6_43, gArr K 60 (am 11) P0_43, gArrZ K 60 (am 12) P1_43, gArr K 60 (am 13) P4_43] _ _ := hG
        have g9 : lg2_43 = (gS NF x : Int) := hf_43.1
        have g8 : ol2_43 = (gS NF y : Int) := ho_43.1
        obtain ⟨p1, p2, p3, p4⟩ := hp_43
        obtain ⟨r1, r2, r3, r4⟩ := FolS.pos hN qa.2 hf_43
        refine g_iconst S dX9_alike_46 ?_
        refine lv_istore_n (lv' := [(3, .int (iI 0)), (0, .ref (am 0)), (1, .int (iI y)), (2, .int (iI x))]) S.1 S.2.1 dX9_alike_47 rfl hl (by decide) rfl (fun ls hl => ?_)
        have L48 : ∀ (fu : Nat) (k : Nat) (w : Int) (H : Heap) (locs : List Loc) (ls : Array Slot), (((60 : Int) - w).toNat) < fu → (w = (k : Int) ∧ k ≤ gS NF y ∧ k ≤ gS NF x) → (∀ i : Nat, i < k → ykS NF y i = ykS NF x i ∧ ekS NF y i = ekS NF x i) → lv_has ls 4 [(0, .ref (am 0)), (1, .int (iI y)), (2, .int (iI x)), (3, .int (iI w))] → gW K A s.heap [gMdl K am (thr (bI ((0 ≤ y ∧ y < NF 4) ∧ 0 ≤ x ∧ x < NF 4)) (bI (¬ y = x)) 1) rw lg2_43 mr2_43 en2_43 pw2_43 sl2_43 ly2_43 dn2_43 iz tz nx st tk vl ef ep hO hB ol2_43 rm oz, gArr K 95 rw NF, gArr K 60 (am 3) B0_43, gArrZ K 60 (am 4) B1_43, gArr K 60 (am 5) B2_43, gArr K 60 (am 6) B3_43, gArr K 60 (am 7) B4_43, gArr K 60 (am 8) B5_43, gArr K 60 (am 9) B6_43, gArr K 60 (am 11) P0_43, gArrZ K 60 (am 12) P1_43, gArr K 60 (am 13) P4_43] H locs → W p l e { frames := 7, cells := 0, slots := 0, locals := 158 } s m ([.ref (am 0), .int (iI y), .int (iI x)] : List Value).toArray below meth c H locs 0 0 Q (F0 m 48 ls []) := by
          intro fu
          induction fu with
          | zero => intro k w H locs ls hfu; exact absurd hfu (Nat.not_lt_zero _)
          | succ fu ih =>
            intro k w H locs ls hfu hw hz hl hG
            refine lv_iload_n S.1 S.2.1 dX9_alike_48 rfl (lv_at hl 3 rfl) ?_
            refine lv_aload_n S.1 S.2.1 dX9_alike_49 rfl (lv_at hl 0 rfl) ?_
            refine g_get S C hG iX90 0 rfl rfl 11 (by decide) (List.mem_of_getElem? (i := 1) rfl) rfl dX9_alike_50 ?_
            refine g_icmp_ge (tgt := 100) S dX9_alike_53 (by decide) (by omega) (by omega) (fun q53 => ?_) (fun q53 => ?_)
            · skip
              refine lv_iload_n S.1 S.2.1 dX9_alike_100 rfl (lv_at hl 3 rfl) ?_
              have hG : gW K A s.heap [gMdl K am (thr (bI ((0 ≤ y ∧ y < NF 4) ∧ 0 ≤ x ∧ x < NF 4)) (bI (¬ y = x)) 1) rw lg2_43 mr2_43 en2_43 pw2_43 sl2_43 ly2_43 dn2_43 iz tz nx st tk vl ef ep hO hB ol2_43 rm oz, gArr K 95 rw NF, gArr K 60 (am 3) B0_43, gArrZ K 60 (am 4) B1_43, gArr K 60 (am 5) B2_43, gArr K 60 (am 6) B3_43, gArr K 60 (am 7) B4_43, gArr K 60 (am 8) B5_43, gArr K 60 (am 9) B6_43, gArr K 60 (am 11) P0_43, gArrZ K 60 (am 12) P1_43, gArr K 60 (am 13) P4_43] _ _ := hG
              exact g_iret S hr hlk hQ dX9_alike_101 (Nat.le_of_ble_eq_true rfl) (Nat.le_of_ble_eq_true rfl) ((w, lg2_43, mr2_43, en2_43, pw2_43, sl2_43, ly2_43, dn2_43, B0_43, B1_43, B2_43, B3_43, B4_43, B5_43, B6_43, ol2_43, P0_43, P1_43, P4_43) : Int × Int × Int × Int × Int × Int × Int × Int × (Int → Int) × (Int → Int) × (Int → Int) × (Int → Int) × (Int → Int) × (Int → Int) × (Int → Int) × Int × (Int → Int) × (Int → Int) × (Int → Int)) ⟨rfl, (fun _ => hw.1.trans (alk_of (by omega) (by omega) hz (Or.inr (Or.inl (by omega)))))⟩ hG
            · skip
              refine lv_iload_n S.1 S.2.1 dX9_alike_56 rfl (lv_at hl 3 rfl) ?_
              refine lv_aload_n S.1 S.2.1 dX9_alike_57 rfl (lv_at hl 0 rfl) ?_
              refine g_get S C hG iX90 0 rfl rfl 32 (by decide) (List.mem_of_getElem? (i := 2) rfl) rfl dX9_alike_58 ?_
              refine g_icmp_ge (tgt := 100) S dX9_alike_61 (by decide) (by omega) (by omega) (fun q61 => ?_) (fun q61 => ?_)
              · skip
                refine lv_iload_n S.1 S.2.1 dX9_alike_100 rfl (lv_at hl 3 rfl) ?_
                have hG : gW K A s.heap [gMdl K am (thr (bI ((0 ≤ y ∧ y < NF 4) ∧ 0 ≤ x ∧ x < NF 4)) (bI (¬ y = x)) 1) rw lg2_43 mr2_43 en2_43 pw2_43 sl2_43 ly2_43 dn2_43 iz tz nx st tk vl ef ep hO hB ol2_43 rm oz, gArr K 95 rw NF, gArr K 60 (am 3) B0_43, gArrZ K 60 (am 4) B1_43, gArr K 60 (am 5) B2_43, gArr K 60 (am 6) B3_43, gArr K 60 (am 7) B4_43, gArr K 60 (am 8) B5_43, gArr K 60 (am 9) B6_43, gArr K 60 (am 11) P0_43, gArrZ K 60 (am 12) P1_43, gArr K 60 (am 13) P4_43] _ _ := hG
                exact g_iret S hr hlk hQ dX9_alike_101 (Nat.le_of_ble_eq_true rfl) (Nat.le_of_ble_eq_true rfl) ((w, lg2_43, mr2_43, en2_43, pw2_43, sl2_43, ly2_43, dn2_43, B0_43, B1_43, B2_43, B3_43, B4_43, B5_43, B6_43, ol2_43, P0_43, P1_43, P4_43) : Int × Int × Int × Int × Int × Int × Int × Int × (Int → Int) × (Int → Int) × (Int → Int) × (Int → Int) × (Int → Int) × (Int → Int) × (Int → Int) × Int × (Int → Int) × (Int → Int) × (Int → Int)) ⟨rfl, (fun _ => hw.1.trans (alk_of (by omega) (by omega) hz (Or.inl (by omega))))⟩ hG
              · skip
                have z8 := r2 k (by omega)
                have z7 := p2 k (by omega)
                have z6 := h1q_43 k (by omega)
                have z5 := FolS.e1 hN qa.2 hf_43 k (by omega)
                rw [← hw.1] at z8 z7 z6 z5
                have a9 := hf_43.at0 (k := k) (by omega)
                have o9 := ho_43.2 k (by omega)
                rw [← hw.1] at a9 o9
                refine lv_aload_n S.1 S.2.1 dX9_alike_64 rfl (lv_at hl 0 rfl) ?_
                refine g_get S C hG iX90 0 rfl rfl 4 (by decide) (List.mem_of_getElem? (i := 3) rfl) rfl dX9_alike_65 ?_
                refine lv_iload_n S.1 S.2.1 dX9_alike_68 rfl (lv_at hl 3 rfl) ?_
                refine g_iald S C hG 2 rfl (by omega) (by omega) (by omega) dX9_alike_69 ?_
                refine lv_aload_n S.1 S.2.1 dX9_alike_70 rfl (lv_at hl 0 rfl) ?_
                refine g_get S C hG iX90 0 rfl rfl 29 (by decide) (List.mem_of_getElem? (i := 4) rfl) rfl dX9_alike_71 ?_
                refine lv_iload_n S.1 S.2.1 dX9_alike_74 rfl (lv_at hl 3 rfl) ?_
                refine g_iald S C hG 9 rfl (by omega) (by omega) (by omega) dX9_alike_75 ?_
                refine g_icmp_ne (tgt := 100) S dX9_alike_76 (by decide) (by omega) (by omega) (fun q76 => ?_) (fun q76 => ?_)
                · skip
                  refine lv_iload_n S.1 S.2.1 dX9_alike_100 rfl (lv_at hl 3 rfl) ?_
                  have hG : gW K A s.heap [gMdl K am (thr (bI ((0 ≤ y ∧ y < NF 4) ∧ 0 ≤ x ∧ x < NF 4)) (bI (¬ y = x)) 1) rw lg2_43 mr2_43 en2_43 pw2_43 sl2_43 ly2_43 dn2_43 iz tz nx st tk vl ef ep hO hB ol2_43 rm oz, gArr K 95 rw NF, gArr K 60 (am 3) B0_43, gArrZ K 60 (am 4) B1_43, gArr K 60 (am 5) B2_43, gArr K 60 (am 6) B3_43, gArr K 60 (am 7) B4_43, gArr K 60 (am 8) B5_43, gArr K 60 (am 9) B6_43, gArr K 60 (am 11) P0_43, gArrZ K 60 (am 12) P1_43, gArr K 60 (am 13) P4_43] _ _ := hG
                  exact g_iret S hr hlk hQ dX9_alike_101 (Nat.le_of_ble_eq_true rfl) (Nat.le_of_ble_eq_true rfl) ((w, lg2_43, mr2_43, en2_43, pw2_43, sl2_43, ly2_43, dn2_43, B0_43, B1_43, B2_43, B3_43, B4_43, B5_43, B6_43, ol2_43, P0_43, P1_43, P4_43) : Int × Int × Int × Int × Int × Int × Int × Int × (Int → Int) × (Int → Int) × (Int → Int) × (Int → Int) × (Int → Int) × (Int → Int) × (Int → Int) × Int × (Int → Int) × (Int → Int) × (Int → Int)) ⟨rfl, (fun _ => hw.1.trans (alk_of (by omega) (by omega) hz (Or.inr (Or.inr (fun z => by omega)))))⟩ hG
                · skip
                  refine lv_aload_n S.1 S.2.1 dX9_alike_79 rfl (lv_at hl 0 rfl) ?_
                  refine g_get S C hG iX90 0 rfl rfl 5 (by decide) (List.mem_of_getElem? (i := 5) rfl) rfl dX9_alike_80 ?_
                  refine lv_iload_n S.1 S.2.1 dX9_alike_83 rfl (lv_at hl 3 rfl) ?_
                  refine g_zald S C hG 3 rfl (by omega) (by omega) (by omega) dX9_alike_84 ?_
                  refine lv_aload_n S.1 S.2.1 dX9_alike_85 rfl (lv_at hl 0 rfl) ?_
                  refine g_get S C hG iX90 0 rfl rfl 30 (by decide) (List.mem_of_getElem? (i := 6) rfl) rfl dX9_alike_86 ?_
                  refine lv_iload_n S.1 S.2.1 dX9_alike_89 rfl (lv_at hl 3 rfl) ?_
                  refine g_zald S C hG 10 rfl (by omega) (by omega) (by omega) dX9_alike_90 ?_
                  refine g_icmp_ne (tgt := 100) S dX9_alike_91 (by decide) (by omega) (by omega) (fun q91 => ?_) (fun q91 => ?_)
                  · skip
                    refine lv_iload_n S.1 S.2.1 dX9_alike_100 rfl (lv_at hl 3 rfl) ?_
                    have hG : gW K A s.heap [gMdl K am (thr (bI ((0 ≤ y ∧ y < NF 4) ∧ 0 ≤ x ∧ x < NF 4)) (bI (¬ y = x)) 1) rw lg2_43 mr2_43 en2_43 pw2_43 sl2_43 ly2_43 dn2_43 iz tz nx st tk vl ef ep hO hB ol2_43 rm oz, gArr K 95 rw NF, gArr K 60 (am 3) B0_43, gArrZ K 60 (am 4) B1_43, gArr K 60 (am 5) B2_43, gArr K 60 (am 6) B3_43, gArr K 60 (am 7) B4_43, gArr K 60 (am 8) B5_43, gArr K 60 (am 9) B6_43, gArr K 60 (am 11) P0_43, gArrZ K 60 (am 12) P1_43, gArr K 60 (am 13) P4_43] _ _ := hG
                    exact g_iret S hr hlk hQ dX9_alike_101 (Nat.le_of_ble_eq_true rfl) (Nat.le_of_ble_eq_true rfl) ((w, lg2_43, mr2_43, en2_43, pw2_43, sl2_43, ly2_43, dn2_43, B0_43, B1_43, B2_43, B3_43, B4_43, B5_43, B6_43, ol2_43, P0_43, P1_43, P4_43) : Int × Int × Int × Int × Int × Int × Int × Int × (Int → Int) × (Int → Int) × (Int → Int) × (Int → Int) × (Int → Int) × (Int → Int) × (Int → Int) × Int × (Int → Int) × (Int → Int) × (Int → Int)) ⟨rfl, (fun _ => hw.1.trans (alk_of (by omega) (by omega) hz (Or.inr (Or.inr (fun z => by omega)))))⟩ hG
                  · skip
                    refine lv_iinc (v := iI (w + 1)) (lv' := [(3, .int (iI (w + 1))), (0, .ref (am 0)), (1, .int (iI y)), (2, .int (iI x))]) S.1 S.2.1 dX9_alike_94 hl (k := 3) rfl (g_iinc rfl) (by decide) rfl (fun ls hl => ?_)
                    refine lv_goto (tgt := 48) S.1 S.2.1 dX9_alike_97 (by decide) ?_
                    exact ih (k + 1) (w + 1) _ _ _ (by omega) ⟨by omega, by omega, by omega⟩ (fun i hi => if g : i < k then hz i g else by (rw [show i = k by omega] <;> omega)) (lv_sub hl [1, 2, 3, 0] rfl) hG
        exact L48 (Nat.succ (((60 : Int) - 0).toNat)) 0 0 _ _ _ (Nat.lt_succ_self _) ⟨rfl, Nat.zero_le _, Nat.zero_le _⟩ (fun i hi => absurd hi (Nat.not_lt_zero i)) (lv_sub hl [1, 2, 3, 0] rfl) hG
      · skip
        refine g_iconst S dX9_alike_38 ?_
        have hG : gW K A s.heap [gMdl K am (thr (bI ((0 ≤ y ∧ y < NF 4) ∧ 0 ≤ x ∧ x < NF 4)) (bI (¬ y = x)) 1) rw lg mr en pw sl ly dn iz tz nx st tk vl ef ep hO hB ol rm oz, gArr K 95 rw NF, gArr K 60 (am 3) A0, gArrZ K 60 (am 4) A1, gArr K 60 (am 5) A2, gArr K 60 (am 6) A3, gArr K 60 (am 7) A4, gArr K 60 (am 8) A5, gArr K 60 (am 9) A6, gArr K 60 (am 11) O0, gArrZ K 60 (am 12) O1, gArr K 60 (am 13) O4] _ _ := hG
        exact g_iret S hr hlk hQ dX9_alike_39 (Nat.le_of_ble_eq_true rfl) (Nat.le_of_ble_eq_true rfl) ((0, lg, mr, en, pw, sl, ly, dn, A0, A1, A2, A3, A4, A5, A6, ol, O0, O1, O4) : Int × Int × Int × Int × Int × Int × Int × Int × (Int → Int) × (Int → Int) × (Int → Int) × (Int → Int) × (Int → Int) × (Int → Int) × (Int → Int) × Int × (Int → Int) × (Int → Int) × (Int → Int)) ⟨rfl, (fun h => absurd ⟨bI_t h.1, bI_t h.2⟩ q35)⟩ hG
    refine g_icmp_eq (tgt := 31) S dX9_alike_24 (by decide) (by omega) (by omega) (fun q24 => ?_) (fun q24 => ?_)
    · skip
      refine g_iconst S dX9_alike_31 ?_
      refine g_top (w := .int (iI (bI (¬ y = x)))) (congrArg (fun z : Int => Value.int (iI z)) ((bI_f (by omega)).symm)) ?_
      exact J32 _ _ _ (lv_sub hl [0, 1, 2] rfl) hG
    · skip
      refine g_iconst S dX9_alike_27 ?_
      refine g_top (w := .int (iI (bI (¬ y = x)))) (congrArg (fun z : Int => Value.int (iI z)) ((bI_t (by omega)).symm)) ?_
      refine lv_goto (tgt := 32) S.1 S.2.1 dX9_alike_28 (by decide) ?_
      exact J32 _ _ _ (lv_sub hl [0, 1, 2] rfl) hG
  refine g_ifeq_b (B := (0 ≤ y ∧ y < NF 4)) (tgt := 21) S dX9_alike_6 (by decide) (fun q6 => ?_) (fun q6 => ?_)
  · skip
    refine g_iconst S dX9_alike_21 ?_
    refine g_top (w := .int (iI (bI ((0 ≤ y ∧ y < NF 4) ∧ 0 ≤ x ∧ x < NF 4)))) (congrArg (fun z : Int => Value.int (iI z)) ((bI_f (by omega)).symm)) ?_
    exact J22 _ _ _ (lv_sub hl [0, 1, 2] rfl) hG
  · skip
    refine lv_aload_n S.1 S.2.1 dX9_alike_9 rfl (lv_at hl 0 rfl) ?_
    refine lv_iload_n S.1 S.2.1 dX9_alike_10 rfl (lv_at hl 2 rfl) ?_
    refine g_invV (As := [.int (iI x)]) (rest := [.ref (am 0)]) (gs' := (fun u : Unit => [gMdl K am th rw lg mr en pw sl ly dn iz tz nx st tk vl ef ep hO hB ol rm oz, gArr K 95 rw NF, gArr K 60 (am 3) A0, gArrZ K 60 (am 4) A1, gArr K 60 (am 5) A2, gArr K 60 (am 6) A3, gArr K 60 (am 7) A4, gArr K 60 (am 8) A5, gArr K 60 (am 9) A6, gArr K 60 (am 11) O0, gArrZ K 60 (am 12) O1, gArr K 60 (am 13) O4])) S C hG [0, 1] (c_X9_isShot l K am th rw lg mr en pw sl ly dn iz tz nx st tk vl ef ep hO hB ol rm oz NF x hN hx) rfl rfl 0 rfl rfl (cwV 1 S.2.2.2.2 gX9_alike_X9_isShot rfl rfl rfl (by decide +kernel) ⟨Nat.le_of_ble_eq_true rfl, Nat.le_of_ble_eq_true rfl⟩) rfl hl.1 rfl (Nat.le_of_ble_eq_true rfl) dX9_alike_11 ⟨Nat.le_of_ble_eq_true rfl, Nat.le_of_ble_eq_true rfl⟩ (fun _ => Nat.le_of_ble_eq_true rfl) (fun _ => rfl) (fun v u H locs hp hG => ?_)
    subst hp
    refine g_ifeq_b (B := (0 ≤ x ∧ x < NF 4)) (tgt := 21) S dX9_alike_14 (by decide) (fun q14 => ?_) (fun q14 => ?_)
    · skip
      refine g_iconst S dX9_alike_21 ?_
      refine g_top (w := .int (iI (bI ((0 ≤ y ∧ y < NF 4) ∧ 0 ≤ x ∧ x < NF 4)))) (congrArg (fun z : Int => Value.int (iI z)) ((bI_f (by omega)).symm)) ?_
      exact J22 _ _ _ (lv_sub hl [0, 1, 2] rfl) hG
    · skip
      refine g_iconst S dX9_alike_17 ?_
      refine g_top (w := .int (iI (bI ((0 ≤ y ∧ y < NF 4) ∧ 0 ≤ x ∧ x < NF 4)))) (congrArg (fun z : Int => Value.int (iI z)) ((bI_t (by omega)).symm)) ?_
      refine lv_goto (tgt := 22) S.1 S.2.1 dX9_alike_18 (by decide) ?_
      exact J22 _ _ _ (lv_sub hl [0, 1, 2] rfl) hG

set_option maxHeartbeats 1000000 in
set_option maxRecDepth 100000 in
theorem c_X9_layerBy (l : Launch) (K : KC) (b0 : Nat) (b4 : Nat) (U0 : Int → Int) (U4 : Int → Int) (i : Int) (x : Int) (h0 : 0 ≤ i ∧ i ≤ 60) (h1 : ∀ k : Nat, k ≤ i.toNat → 0 ≤ sF U4 k ∧ sF U4 k ≤ 1998000 * k) (hx : -2147483648 ≤ x ∧ x < 2147483648) (hx1 : 0 ≤ x) : mG l yX9_layerBy wsX9_layerBy 0 0 K [.ref b0, .ref b4, .int (iI i), .int (iI x)] [gArr K 60 b0 U0, gArr K 60 b4 U4] (fun (v : Value) (u : Int) => (v = .int (iI u)) ∧ (LayB U0 U4 i.toNat x u)) (fun (u : Int) => [gArr K 60 b0 U0, gArr K 60 b4 U4]) 0 0 := by
  refine mG_of cX9_layerBy 6 (by decide) rfl (Nat.le_of_ble_eq_true rfl) ?_
  intro p e s m below meth c A ls Q S C hG hl hr hlk hin hQ
  have S : CallFix p m c cX9_layerBy 6 s ([.ref b0, .ref b4, .int (iI i), .int (iI x)] : List Value).toArray wsX9_layerBy RX9 := S
  have hl : lv_has ls 6 [(0, .ref b0), (1, .ref b4), (2, .int (iI i)), (3, .int (iI x))] := hl
  have hG : gW K A s.heap [gArr K 60 b0 U0, gArr K 60 b4 U4] s.heap [] := hG
  refine g_iconst S dX9_layerBy_0 ?_
  refine lv_istore (lv' := [(4, .int (iI 0)), (0, .ref b0), (1, .ref b4), (2, .int (iI i)), (3, .int (iI x))]) S.1 S.2.1 dX9_layerBy_1 hl (by decide) rfl (fun ls hl => ?_)
  refine g_iconst S dX9_layerBy_3 ?_
  refine lv_istore (lv' := [(5, .int (iI 0)), (4, .int (iI 0)), (0, .ref b0), (1, .ref b4), (2, .int (iI i)), (3, .int (iI x))]) S.1 S.2.1 dX9_layerBy_4 hl (by decide) rfl (fun ls hl => ?_)
  have L6 : ∀ (fu : Nat) (k : Nat) (w : Int) (f : Int) (H : Heap) (locs : List Loc) (ls : Array Slot), ((i - w).toNat) < fu → (w = (k : Int) ∧ w ≤ i) → (f = sF U4 k) → (∀ j : Nat, j < k → sF U4 (j + 1) ≤ x) → (sF U4 k ≤ x) → lv_has ls 6 [(0, .ref b0), (1, .ref b4), (2, .int (iI i)), (3, .int (iI x)), (4, .int (iI f)), (5, .int (iI w))] → gW K A s.heap [gArr K 60 b0 U0, gArr K 60 b4 U4] H locs → W p l e { frames := 0, cells := 0, slots := 0, locals := 0 } s m ([.ref b0, .ref b4, .int (iI i), .int (iI x)] : List Value).toArray below meth c H locs 0 0 Q (F0 m 6 ls []) := by
    intro fu
    induction fu with
    | zero => intro k w f H locs ls hfu; exact absurd hfu (Nat.not_lt_zero _)
    | succ fu ih =>
      intro k w f H locs ls hfu hw hb ho hf hl hG
      refine lv_iload S.1 S.2.1 dX9_layerBy_6 (lv_at hl 5 rfl) ?_
      refine lv_iload_n S.1 S.2.1 dX9_layerBy_8 rfl (lv_at hl 2 rfl) ?_
      refine g_icmp_ge (tgt := 38) S dX9_layerBy_9 (by decide) (by omega) (by omega) (fun q9 => ?_) (fun q9 => ?_)
      · skip
        refine g_iconst S dX9_layerBy_38 ?_
        have hG : gW K A s.heap [gArr K 60 b0 U0, gArr K 60 b4 U4] _ _ := hG
        exact g_iret S hr hlk hQ dX9_layerBy_39 (Nat.le_of_ble_eq_true rfl) (Nat.le_of_ble_eq_true rfl) (((-1)) : Int) ⟨rfl, (Or.inr ⟨rfl, fun j hj => ho j (by omega)⟩)⟩ hG
      · skip
        refine lv_iload S.1 S.2.1 dX9_layerBy_12 (lv_at hl 4 rfl) ?_
        refine lv_aload_n S.1 S.2.1 dX9_layerBy_14 rfl (lv_at hl 1 rfl) ?_
        refine lv_iload S.1 S.2.1 dX9_layerBy_15 (lv_at hl 5 rfl) ?_
        refine g_iald S C hG 1 rfl (by omega) (by omega) (by omega) dX9_layerBy_17 ?_
        have s9 : sF U4 (k + 1) = sF U4 k + U4 w := by rw [sF_s, hw.1]
        have s8 := h1 k (by omega)
        have s7 := h1 (k + 1) (by omega)
        refine g_iadd S dX9_layerBy_18 rfl ?_
        refine g_top (w := .int (iI (sF U4 (k + 1)))) (congrArg (fun z : Int => Value.int (iI z)) ((by omega))) ?_
        refine lv_istore (lv' := [(4, .int (iI (sF U4 (k + 1)))), (0, .ref b0), (1, .ref b4), (2, .int (iI i)), (3, .int (iI x)), (5, .int (iI w))]) S.1 S.2.1 dX9_layerBy_19 hl (by decide) rfl (fun ls hl => ?_)
        refine lv_iload S.1 S.2.1 dX9_layerBy_21 (lv_at hl 0 rfl) ?_
        refine lv_iload_n S.1 S.2.1 dX9_layerBy_23 rfl (lv_at hl 4 rfl) ?_
        refine g_icmp_le (tgt := 32) S dX9_layerBy_24 (by decide) (by omega) (by omega) (fun q24 => ?_) (fun q24 => ?_)
        · skip
          refine lv_iinc (v := iI (w + 1)) (lv' := [(5, .int (iI (w + 1))), (4, .int (iI (sF U4 (k + 1)))), (0, .ref b0), (1, .ref b4), (2, .int (iI i)), (3, .int (iI x))]) S.1 S.2.1 dX9_layerBy_32 hl (k := 5) rfl (g_iinc rfl) (by decide) rfl (fun ls hl => ?_)
          refine lv_goto (tgt := 6) S.1 S.2.1 dX9_layerBy_35 (by decide) ?_
          exact ih (k + 1) (w + 1) (sF U4 (k + 1)) _ _ _ (by omega) ⟨by omega, by omega⟩ rfl (fun j hj => if g : j < k then ho j g else by rw [show j = k by omega] <;> omega) (by omega) (lv_sub hl [2, 3, 4, 5, 1, 0] rfl) hG
        · skip
          refine lv_aload_n S.1 S.2.1 dX9_layerBy_27 rfl (lv_at hl 1 rfl) ?_
          refine lv_iload S.1 S.2.1 dX9_layerBy_28 (lv_at hl 5 rfl) ?_
          refine g_iald S C hG 0 rfl (by omega) (by omega) (by omega) dX9_layerBy_30 ?_
          have hG : gW K A s.heap [gArr K 60 b0 U0, gArr K 60 b4 U4] _ _ := hG
          exact g_iret S hr hlk hQ dX9_layerBy_31 (Nat.le_of_ble_eq_true rfl) (Nat.le_of_ble_eq_true rfl) ((U0 w) : Int) ⟨rfl, (Or.inl ⟨k, by omega, ⟨hf, by omega⟩, by rw [hw.1]⟩)⟩ hG
  exact L6 (Nat.succ ((i - 0).toNat)) 0 0 0 _ _ _ (Nat.lt_succ_self _) ⟨rfl, by omega⟩ rfl (fun j hj => absurd hj (Nat.not_lt_zero j)) hx1 (lv_sub hl [2, 3, 4, 5, 1, 0] rfl) hG

set_option maxHeartbeats 1000000 in
set_option maxRecDepth 100000 in
theorem c_X9_areTogether (l : Launch) (K : KC) (am : Nat → Nat) (th : Int) (rw : Nat) (lg : Int) (mr : Int) (en : Int) (pw : Int) (sl : Int) (ly : Int) (dn : Int) (iz : Int) (tz : Int) (nx : Int) (st : Int) (tk : Int) (vl : Int) (ef : Int) (ep : Int) (hO : Int) (hB : Int) (ol : Int) (rm : Int) (oz : Int) (A0 : Int → Int) (A4 : Int → Int) (O0 : Int → Int) (O4 : Int → Int) (gA : Nat) (gB : Nat) (x : Int) (h0 : lg = (gA : Int)) (h1 : ol = (gB : Int)) (hp1 : PosF A4 gA ∧ (∀ i : Nat, i < gA → 0 ≤ A0 (i : Int) ∧ A0 (i : Int) ≤ 9) ∧ (∀ k : Nat, k ≤ gA → 0 ≤ sF A4 k ∧ sF A4 k ≤ 1998000 * k) ∧ gA ≤ 60) (hp2 : PosF O4 gB ∧ (∀ i : Nat, i < gB → 0 ≤ O0 (i : Int) ∧ O0 (i : Int) ≤ 9) ∧ (∀ k : Nat, k ≤ gB → 0 ≤ sF O4 k ∧ sF O4 k ≤ 1998000 * k) ∧ gB ≤ 60) (hx : 0 ≤ x ∧ x < 2147483648) : mG l yX9_areTogether wsX9_areTogether 1 25 K [.ref (am 0), .int (iI x)] [gMdl K am th rw lg mr en pw sl ly dn iz tz nx st tk vl ef ep hO hB ol rm oz, gArr K 60 (am 3) A0, gArr K 60 (am 7) A4, gArr K 60 (am 11) O0, gArr K 60 (am 13) O4] (fun (v : Value) (u : Int) => (v = .int (iI u)) ∧ ((u = 1 ∧ TogM A0 A4 O0 O4 gA gB x) ∨ (u = 0 ∧ ¬ TogM A0 A4 O0 O4 gA gB x))) (fun (u : Int) => [gMdl K am th rw lg mr en pw sl ly dn iz tz nx st tk vl ef ep hO hB ol rm oz, gArr K 60 (am 3) A0, gArr K 60 (am 7) A4, gArr K 60 (am 11) O0, gArr K 60 (am 13) O4]) 0 0 := by
  refine mG_of cX9_areTogether 3 (by decide) rfl (Nat.le_of_ble_eq_true rfl) ?_
  intro p e s m below meth c A ls Q S C hG hl hr hlk hin hQ
  have S : CallFix p m c cX9_areTogether 3 s ([.ref (am 0), .int (iI x)] : List Value).toArray wsX9_areTogether RX9 := S
  have iX90 : ∀ w ∈ wsX90, w ∈ wsX9_areTogether := fun _ h => List.mem_cons_of_mem _ (List.mem_append_right _ (h))
  have hl : lv_has ls 3 [(0, .ref (am 0)), (1, .int (iI x))] := hl
  have hG : gW K A s.heap [gMdl K am th rw lg mr en pw sl ly dn iz tz nx st tk vl ef ep hO hB ol rm oz, gArr K 60 (am 3) A0, gArr K 60 (am 7) A4, gArr K 60 (am 11) O0, gArr K 60 (am 13) O4] s.heap [] := hG
  have k1 := hp1.2.2.2
  have k2 := hp2.2.2.2
  refine lv_aload_n S.1 S.2.1 dX9_areTogether_0 rfl (lv_at hl 0 rfl) ?_
  refine g_get S C hG iX90 0 rfl rfl 4 (by decide) (List.mem_of_getElem? (i := 1) rfl) rfl dX9_areTogether_1 ?_
  refine lv_aload_n S.1 S.2.1 dX9_areTogether_4 rfl (lv_at hl 0 rfl) ?_
  refine g_get S C hG iX90 0 rfl rfl 8 (by decide) (List.mem_of_getElem? (i := 2) rfl) rfl dX9_areTogether_5 ?_
  refine lv_aload_n S.1 S.2.1 dX9_areTogether_8 rfl (lv_at hl 0 rfl) ?_
  refine g_get S C hG iX90 0 rfl rfl 11 (by decide) (List.mem_of_getElem? (i := 3) rfl) rfl dX9_areTogether_9 ?_
  refine lv_iload_n S.1 S.2.1 dX9_areTogether_12 rfl (lv_at hl 1 rfl) ?_
  refine g_invS (As := [.ref (am 3), .ref (am 7), .int (iI lg), .int (iI x)]) (rest := []) (gs' := (fun u : Int => [gMdl K am th rw lg mr en pw sl ly dn iz tz nx st tk vl ef ep hO hB ol rm oz, gArr K 60 (am 3) A0, gArr K 60 (am 7) A4, gArr K 60 (am 11) O0, gArr K 60 (am 13) O4])) S C hG [1, 2] (c_X9_layerBy l K (am 3) (am 7) A0 A4 lg x (by omega) (fun k hk => hp1.2.2.1 k (by omega)) (by omega) hx.1) rfl rfl (va_cwS 4 S.2.2.2.2 gX9_areTogether_X9_layerBy rfl rfl rfl (by decide +kernel) ⟨Nat.le_of_ble_eq_true rfl, Nat.le_of_ble_eq_true rfl⟩) rfl hl.1 rfl (Nat.le_of_ble_eq_true rfl) dX9_areTogether_13 ⟨Nat.le_of_ble_eq_true rfl, Nat.le_of_ble_eq_true rfl⟩ (fun _ => Nat.le_of_ble_eq_true rfl) (fun _ => rfl) (fun v u H locs hp hG => ?_)
  obtain ⟨r9_13, rfl⟩ : ∃ z, z = u := ⟨_, rfl⟩
  obtain ⟨rfl, hr_13⟩ := hp
  have hr_13 : LayB A0 A4 lg.toNat x r9_13 := hr_13
  have hG : gW K A s.heap [gMdl K am th rw lg mr en pw sl ly dn iz tz nx st tk vl ef ep hO hB ol rm oz, gArr K 60 (am 3) A0, gArr K 60 (am 7) A4, gArr K 60 (am 11) O0, gArr K 60 (am 13) O4] _ _ := hG
  have b13 : -1 ≤ r9_13 ∧ r9_13 ≤ 9 := hr_13.elim (fun ⟨j, hj, _, e⟩ => by have z9 := hp1.2.1 j (by omega) <;> omega) (fun ⟨e, _⟩ => by omega)
  refine lv_istore_n (lv' := [(2, .int (iI r9_13)), (0, .ref (am 0)), (1, .int (iI x))]) S.1 S.2.1 dX9_areTogether_16 rfl hl (by decide) rfl (fun ls hl => ?_)
  refine lv_iload_n S.1 S.2.1 dX9_areTogether_17 rfl (lv_at hl 0 rfl) ?_
  refine g_iconst S dX9_areTogether_18 ?_
  refine g_icmp_eq (tgt := 46) S dX9_areTogether_19 (by decide) (by omega) (by omega) (fun q19 => ?_) (fun q19 => ?_)
  · skip
    refine g_iconst S dX9_areTogether_46 ?_
    have hG : gW K A s.heap [gMdl K am th rw lg mr en pw sl ly dn iz tz nx st tk vl ef ep hO hB ol rm oz, gArr K 60 (am 3) A0, gArr K 60 (am 7) A4, gArr K 60 (am 11) O0, gArr K 60 (am 13) O4] _ _ := hG
    exact g_zret S hr hlk hQ (Or.inl rfl) dX9_areTogether_47 (Nat.le_of_ble_eq_true rfl) (Nat.le_of_ble_eq_true rfl) ((0) : Int) ⟨rfl, (Or.inr ⟨rfl, LayB.no (fun i hi => (hp1.2.1 i hi).1) (by rw [show -1 = r9_13 by omega] <;> rw [show gA = lg.toNat by omega] <;> exact hr_13)⟩)⟩ hG
  · skip
    refine lv_iload_n S.1 S.2.1 dX9_areTogether_22 rfl (lv_at hl 0 rfl) ?_
    refine lv_aload_n S.1 S.2.1 dX9_areTogether_23 rfl (lv_at hl 1 rfl) ?_
    refine g_get S C hG iX90 0 rfl rfl 29 (by decide) (List.mem_of_getElem? (i := 4) rfl) rfl dX9_areTogether_24 ?_
    refine lv_aload_n S.1 S.2.1 dX9_areTogether_27 rfl (lv_at hl 1 rfl) ?_
    refine g_get S C hG iX90 0 rfl rfl 31 (by decide) (List.mem_of_getElem? (i := 5) rfl) rfl dX9_areTogether_28 ?_
    refine lv_aload_n S.1 S.2.1 dX9_areTogether_31 rfl (lv_at hl 1 rfl) ?_
    refine g_get S C hG iX90 0 rfl rfl 32 (by decide) (List.mem_of_getElem? (i := 6) rfl) rfl dX9_areTogether_32 ?_
    refine lv_iload_n S.1 S.2.1 dX9_areTogether_35 rfl (lv_at hl 2 rfl) ?_
    refine g_invS (As := [.ref (am 11), .ref (am 13), .int (iI ol), .int (iI x)]) (rest := [.int (iI r9_13)]) (gs' := (fun u : Int => [gMdl K am th rw lg mr en pw sl ly dn iz tz nx st tk vl ef ep hO hB ol rm oz, gArr K 60 (am 3) A0, gArr K 60 (am 7) A4, gArr K 60 (am 11) O0, gArr K 60 (am 13) O4])) S C hG [3, 4] (c_X9_layerBy l K (am 11) (am 13) O0 O4 ol x (by omega) (fun k hk => hp2.2.2.1 k (by omega)) (by omega) hx.1) rfl rfl (va_cwS 4 S.2.2.2.2 gX9_areTogether_X9_layerBy rfl rfl rfl (by decide +kernel) ⟨Nat.le_of_ble_eq_true rfl, Nat.le_of_ble_eq_true rfl⟩) rfl hl.1 rfl (Nat.le_of_ble_eq_true rfl) dX9_areTogether_36 ⟨Nat.le_of_ble_eq_true rfl, Nat.le_of_ble_eq_true rfl⟩ (fun _ => Nat.le_of_ble_eq_true rfl) (fun _ => rfl) (fun v u H locs hp hG => ?_)
    obtain ⟨r9_36, rfl⟩ : ∃ z, z = u := ⟨_, rfl⟩
    obtain ⟨rfl, hr_36⟩ := hp
    have hr_36 : LayB O0 O4 ol.toNat x r9_36 := hr_36
    have hG : gW K A s.heap [gMdl K am th rw lg mr en pw sl ly dn iz tz nx st tk vl ef ep hO hB ol rm oz, gArr K 60 (am 3) A0, gArr K 60 (am 7) A4, gArr K 60 (am 11) O0, gArr K 60 (am 13) O4] _ _ := hG
    have b36 : -1 ≤ r9_36 ∧ r9_36 ≤ 9 := hr_36.elim (fun ⟨j, hj, _, e⟩ => by have z9 := hp2.2.1 j (by omega) <;> omega) (fun ⟨e, _⟩ => by omega)
    refine g_icmp_ne (tgt := 46) S dX9_areTogether_39 (by decide) (by omega) (by omega) (fun q39 => ?_) (fun q39 => ?_)
    · skip
      refine g_iconst S dX9_areTogether_46 ?_
      have hG : gW K A s.heap [gMdl K am th rw lg mr en pw sl ly dn iz tz nx st tk vl ef ep hO hB ol rm oz, gArr K 60 (am 3) A0, gArr K 60 (am 7) A4, gArr K 60 (am 11) O0, gArr K 60 (am 13) O4] _ _ := hG
      exact g_zret S hr hlk hQ (Or.inl rfl) dX9_areTogether_47 (Nat.le_of_ble_eq_true rfl) (Nat.le_of_ble_eq_true rfl) ((0) : Int) ⟨rfl, (Or.inr ⟨rfl, LayB.ne hp1.1 hp2.1 (fun i hi => (hp1.2.1 i hi).1) (by rw [show gA = lg.toNat by omega] <;> exact hr_13) (by rw [show gB = ol.toNat by omega] <;> exact hr_36) q39⟩)⟩ hG
    · skip
      refine g_iconst S dX9_areTogether_42 ?_
      refine lv_goto (tgt := 47) S.1 S.2.1 dX9_areTogether_43 (by decide) ?_
      have hG : gW K A s.heap [gMdl K am th rw lg mr en pw sl ly dn iz tz nx st tk vl ef ep hO hB ol rm oz, gArr K 60 (am 3) A0, gArr K 60 (am 7) A4, gArr K 60 (am 11) O0, gArr K 60 (am 13) O4] _ _ := hG
      exact g_zret S hr hlk hQ (Or.inr rfl) dX9_areTogether_47 (Nat.le_of_ble_eq_true rfl) (Nat.le_of_ble_eq_true rfl) ((1) : Int) ⟨rfl, (Or.inl ⟨rfl, LayB.yes (fun i hi => (hp1.2.1 i hi).1) (by rw [show gA = lg.toNat by omega] <;> exact hr_13) (by rw [show gB = ol.toNat by omega, show r9_13 = r9_36 by omega] <;> exact hr_36) (by omega)⟩)⟩ hG
