set_option maxHeartbeats 1000000 in
set_option maxRecDepth 100000 in
theorem c_X9_together (l : Launch) (K : KC) (am : Nat → Nat) (th : Int) (rw : Nat) (lg : Int) (mr : Int) (en : Int) (pw : Int) (sl : Int) (ly : Int) (dn : Int) (iz : Int) (tz : Int) (nx : Int) (st : Int) (tk : Int) (vl : Int) (ef : Int) (ep : Int) (hO : Int) (hB : Int) (ol : Int) (rm : Int) (oz : Int) (NF : Int → Int) (A0 : Int → Int) (A1 : Int → Int) (A2 : Int → Int) (A3 : Int → Int) (A4 : Int → Int) (A5 : Int → Int) (A6 : Int → Int) (O0 : Int → Int) (O1 : Int → Int) (O4 : Int → Int) (y : Int) (x : Int) (hN : NOk0 NF) (hv : -2147483648 ≤ y ∧ y < 2147483648) (hx : -2147483648 ≤ x ∧ x < 2147483648) : mG l yX9_together wsX9_together 7 158 K [.ref (am 0), .int (iI y), .int (iI x)] [gMdl K am th rw lg mr en pw sl ly dn iz tz nx st tk vl ef ep hO hB ol rm oz, gArr K 95 rw NF, gArr K 60 (am 3) A0, gArrZ K 60 (am 4) A1, gArr K 60 (am 5) A2, gArr K 60 (am 6) A3, gArr K 60 (am 7) A4, gArr K 60 (am 8) A5, gArr K 60 (am 9) A6, gArr K 60 (am 11) O0, gArrZ K 60 (am 12) O1, gArr K 60 (am 13) O4] (fun (v : Value) (u : Int × Int × Int × Int × Int × Int × Int × Int × (Int → Int) × (Int → Int) × (Int → Int) × (Int → Int) × (Int → Int) × (Int → Int) × (Int → Int) × Int × (Int → Int) × (Int → Int) × (Int → Int)) => (v = .int (iI u.1)) ∧ (((0 ≤ y ∧ y < NF 4) ∧ 0 ≤ x ∧ x < NF 4) ∧ (¬ y = x) → tgR NF y x u.1)) (fun (u : Int × Int × Int × Int × Int × Int × Int × Int × (Int → Int) × (Int → Int) × (Int → Int) × (Int → Int) × (Int → Int) × (Int → Int) × (Int → Int) × Int × (Int → Int) × (Int → Int) × (Int → Int)) => [gMdl K am (thr (bI ((0 ≤ y ∧ y < NF 4) ∧ 0 ≤ x ∧ x < NF 4)) (bI (¬ y = x)) 1) rw u.2.1 u.2.2.1 u.2.2.2.1 u.2.2.2.2.1 u.2.2.2.2.2.1 u.2.2.2.2.2.2.1 u.2.2.2.2.2.2.2.1 iz tz nx st tk vl ef ep hO hB u.2.2.2.2.2.2.2.2.2.2.2.2.2.2.2.1 rm oz, gArr K 95 rw NF, gArr K 60 (am 3) u.2.2.2.2.2.2.2.2.1, gArrZ K 60 (am 4) u.2.2.2.2.2.2.2.2.2.1, gArr K 60 (am 5) u.2.2.2.2.2.2.2.2.2.2.1, gArr K 60 (am 6) u.2.2.2.2.2.2.2.2.2.2.2.1, gArr K 60 (am 7) u.2.2.2.2.2.2.2.2.2.2.2.2.1, gArr K 60 (am 8) u.2.2.2.2.2.2.2.2.2.2.2.2.2.1, gArr K 60 (am 9) u.2.2.2.2.2.2.2.2.2.2.2.2.2.2.1, gArr K 60 (am 11) u.2.2.2.2.2.2.2.2.2.2.2.2.2.2.2.2.1, gArrZ K 60 (am 12) u.2.2.2.2.2.2.2.2.2.2.2.2.2.2.2.2.2.1, gArr K 60 (am 13) u.2.2.2.2.2.2.2.2.2.2.2.2.2.2.2.2.2.2]) 0 0 := by
  refine mG_of cX9_together 7 (by decide) rfl (Nat.le_of_ble_eq_true rfl) ?_
  intro p e s m below meth c A ls Q S C hG hl hr hlk hin hQ
  have S : CallFix p m c cX9_together 7 s ([.ref (am 0), .int (iI y), .int (iI x)] : List Value).toArray wsX9_together RX9 := S
  have iX90 : ∀ w ∈ wsX90, w ∈ wsX9_together := fun _ h => List.mem_cons_of_mem _ (List.mem_append_right _ (h))
  have hl : lv_has ls 7 [(0, .ref (am 0)), (1, .int (iI y)), (2, .int (iI x))] := hl
  have hG : gW K A s.heap [gMdl K am th rw lg mr en pw sl ly dn iz tz nx st tk vl ef ep hO hB ol rm oz, gArr K 95 rw NF, gArr K 60 (am 3) A0, gArrZ K 60 (am 4) A1, gArr K 60 (am 5) A2, gArr K 60 (am 6) A3, gArr K 60 (am 7) A4, gArr K 60 (am 8) A5, gArr K 60 (am 9) A6, gArr K 60 (am 11) O0, gArrZ K 60 (am 12) O1, gArr K 60 (am 13) O4] s.heap [] := hG
  have n0 := hN.1
  have n3 := hN.2.2.2.1
  refine lv_aload_n S.1 S.2.1 dX9_together_0 rfl (lv_at hl 0 rfl) ?_
  refine lv_aload_n S.1 S.2.1 dX9_together_1 rfl (lv_at hl 0 rfl) ?_
  refine lv_iload_n S.1 S.2.1 dX9_together_2 rfl (lv_at hl 1 rfl) ?_
  refine g_invV (As := [.int (iI y)]) (rest := [.ref (am 0)]) (gs' := (fun u : Unit => [gMdl K am th rw lg mr en pw sl ly dn iz tz nx st tk vl ef ep hO hB ol rm oz, gArr K 95 rw NF, gArr K 60 (am 3) A0, gArrZ K 60 (am 4) A1, gArr K 60 (am 5) A2, gArr K 60 (am 6) A3, gArr K 60 (am 7) A4, gArr K 60 (am 8) A5, gArr K 60 (am 9) A6, gArr K 60 (am 11) O0, gArrZ K 60 (am 12) O1, gArr K 60 (am 13) O4])) S C hG [0, 1] (c_X9_isShot l K am th rw lg mr en pw sl ly dn iz tz nx st tk vl ef ep hO hB ol rm oz NF y hN hv) rfl rfl 0 rfl rfl (cwV 1 S.2.2.2.2 gX9_together_X9_isShot rfl rfl rfl (by decide +kernel) ⟨Nat.le_of_ble_eq_true rfl, Nat.le_of_ble_eq_true rfl⟩) rfl hl.1 rfl (Nat.le_of_ble_eq_true rfl) dX9_together_3 ⟨Nat.le_of_ble_eq_true rfl, Nat.le_of_ble_eq_true rfl⟩ (fun _ => Nat.le_of_ble_eq_true rfl) (fun _ => rfl) (fun v u H locs hp hG => ?_)
  subst hp
  have J22 : ∀ (H : Heap) (locs : List Loc) (ls : Array Slot), lv_has ls 7 [(0, .ref (am 0)), (1, .int (iI y)), (2, .int (iI x))] → gW K A s.heap [gMdl K am th rw lg mr en pw sl ly dn iz tz nx st tk vl ef ep hO hB ol rm oz, gArr K 95 rw NF, gArr K 60 (am 3) A0, gArrZ K 60 (am 4) A1, gArr K 60 (am 5) A2, gArr K 60 (am 6) A3, gArr K 60 (am 7) A4, gArr K 60 (am 8) A5, gArr K 60 (am 9) A6, gArr K 60 (am 11) O0, gArrZ K 60 (am 12) O1, gArr K 60 (am 13) O4] H locs → W p l e { frames := 7, cells := 0, slots := 0, locals := 158 } s m ([.ref (am 0), .int (iI y), .int (iI x)] : List Value).toArray below meth c H locs 0 0 Q (F0 m 22 ls [.int (iI (bI ((0 ≤ y ∧ y < NF 4) ∧ 0 ≤ x ∧ x < NF 4))), .ref (am 0)]) := by
    intro  H locs ls  hl hG
    refine lv_iload_n S.1 S.2.1 dX9_together_22 rfl (lv_at hl 1 rfl) ?_
    refine lv_iload_n S.1 S.2.1 dX9_together_23 rfl (lv_at hl 2 rfl) ?_
    have J32 : ∀ (H : Heap) (locs : List Loc) (ls : Array Slot), lv_has ls 7 [(0, .ref (am 0)), (1, .int (iI y)), (2, .int (iI x))] → gW K A s.heap [gMdl K am th rw lg mr en pw sl ly dn iz tz nx st tk vl ef ep hO hB ol rm oz, gArr K 95 rw NF, gArr K 60 (am 3) A0, gArrZ K 60 (am 4) A1, gArr K 60 (am 5) A2, gArr K 60 (am 6) A3, gArr K 60 (am 7) A4, gArr K 60 (am 8) A5, gArr K 60 (am 9) A6, gArr K 60 (am 11) O0, gArrZ K 60 (am 12) O1, gArr K 60 (am 13) O4] H locs → W p l e { frames := 7, cells := 0, slots := 0, locals := 158 } s m ([.ref (am 0), .int (iI y), .int (iI x)] : List Value).toArray below meth c H locs 0 0 Q (F0 m 32 ls [.int (iI (bI (¬ y = x))), .int (iI (bI ((0 ≤ y ∧ y < NF 4) ∧ 0 ≤ x ∧ x < NF 4))), .ref (am 0)]) := by
      intro  H locs ls  hl hG
      refine g_invV (As := [.int (iI (bI ((0 ≤ y ∧ y < NF 4) ∧ 0 ≤ x ∧ x < NF 4))), .int (iI (bI (¬ y = x)))]) (rest := []) (gs' := (fun u : Unit => [gMdl K am (thr (bI ((0 ≤ y ∧ y < NF 4) ∧ 0 ≤ x ∧ x < NF 4)) (bI (¬ y = x)) 1) rw lg mr en pw sl ly dn iz tz nx st tk vl ef ep hO hB ol rm oz, gArr K 95 rw NF, gArr K 60 (am 3) A0, gArrZ K 60 (am 4) A1, gArr K 60 (am 5) A2, gArr K 60 (am 6) A3, gArr K 60 (am 7) A4, gArr K 60 (am 8) A5, gArr K 60 (am 9) A6, gArr K 60 (am 11) O0, gArrZ K 60 (am 12) O1, gArr K 60 (am 13) O4])) S C hG [0] (c_X9_passes2 l K am th rw lg mr en pw sl ly dn iz tz nx st tk vl ef ep hO hB ol rm oz (bI ((0 ≤ y ∧ y < NF 4) ∧ 0 ≤ x ∧ x < NF 4)) (bI (¬ y = x)) (bI_01 _) (bI_01 _)) rfl rfl 0 rfl rfl (cwV 2 S.2.2.2.2 gX9_together_X9_passes2 rfl rfl rfl (by decide +kernel) ⟨Nat.le_of_ble_eq_true rfl, Nat.le_of_ble_eq_true rfl⟩) rfl hl.1 rfl (Nat.le_of_ble_eq_true rfl) dX9_together_32 ⟨Nat.le_of_ble_eq_true rfl, Nat.le_of_ble_eq_true rfl⟩ (fun _ => Nat.le_of_ble_eq_true rfl) (fun _ => rfl) (fun v u H locs hp hG => ?_)
      subst hp
      refine g_ifne_b (B := ((bI ((0 ≤ y ∧ y < NF 4) ∧ 0 ≤ x ∧ x < NF 4)) = 1 ∧ (bI (¬ y = x)) = 1)) (tgt := 40) S dX9_together_35 (by decide) (fun q35 => ?_) (fun q35 => ?_)
      · skip
        have qa := bI1 q35.1
        have qb := bI1 q35.2
        refine lv_aload_n S.1 S.2.1 dX9_together_40 rfl (lv_at hl 0 rfl) ?_
        refine lv_iload_n S.1 S.2.1 dX9_together_41 rfl (lv_at hl 1 rfl) ?_
        refine lv_iload_n S.1 S.2.1 dX9_together_42 rfl (lv_at hl 2 rfl) ?_
        refine g_invVv (As := [.int (iI y), .int (iI x)]) (rest := []) (gs' := (fun u : Int × Int × Int × Int × Int × Int × Int × (Int → Int) × (Int → Int) × (Int → Int) × (Int → Int) × (Int → Int) × (Int → Int) × (Int → Int) × Int × (Int → Int) × (Int → Int) × (Int → Int) => [gMdl K am (thr (bI ((0 ≤ y ∧ y < NF 4) ∧ 0 ≤ x ∧ x < NF 4)) (bI (¬ y = x)) 1) rw u.1 u.2.1 u.2.2.1 u.2.2.2.1 u.2.2.2.2.1 u.2.2.2.2.2.1 u.2.2.2.2.2.2.1 iz tz nx st tk vl ef ep hO hB u.2.2.2.2.2.2.2.2.2.2.2.2.2.2.1 rm oz, gArr K 95 rw NF, gArr K 60 (am 3) u.2.2.2.2.2.2.2.1, gArrZ K 60 (am 4) u.2.2.2.2.2.2.2.2.1, gArr K 60 (am 5) u.2.2.2.2.2.2.2.2.2.1, gArr K 60 (am 6) u.2.2.2.2.2.2.2.2.2.2.1, gArr K 60 (am 7) u.2.2.2.2.2.2.2.2.2.2.2.1, gArr K 60 (am 8) u.2.2.2.2.2.2.2.2.2.2.2.2.1, gArr K 60 (am 9) u.2.2.2.2.2.2.2.2.2.2.2.2.2.1, gArr K 60 (am 11) u.2.2.2.2.2.2.2.2.2.2.2.2.2.2.2.1, gArrZ K 60 (am 12) u.2.2.2.2.2.2.2.2.2.2.2.2.2.2.2.2.1, gArr K 60 (am 13) u.2.2.2.2.2.2.2.2.2.2.2.2.2.2.2.2.2])) S C hG [0, 1, 2, 3, 4, 5, 6, 7, 8, 9, 10, 11] (c_X9_followBoth l K am (thr (bI ((0 ≤ y ∧ y < NF 4) ∧ 0 ≤ x ∧ x < NF 4)) (bI (¬ y = x)) 1) rw lg mr en pw sl ly dn iz tz nx st tk vl ef ep hO hB ol rm oz NF A0 A1 A2 A3 A4 A5 A6 O0 O1 O4 y x hN qa.1 qa.2) rfl rfl 0 rfl rfl (cwV 2 S.2.2.2.2 gX9_together_X9_followBoth rfl rfl rfl (by decide +kernel) ⟨Nat.le_of_ble_eq_true rfl, Nat.le_of_ble_eq_true rfl⟩) rfl hl.1 rfl (Nat.le_of_ble_eq_true rfl) dX9_together_43 ⟨Nat.le_of_ble_eq_true rfl, Nat.le_of_ble_eq_true rfl⟩ (fun _ => Nat.le_of_ble_eq_true rfl) (fun _ => rfl) (fun u H locs hp hG => ?_)
        obtain ⟨lg2_43, mr2_43, en2_43, pw2_43, sl2_43, ly2_43, dn2_43, B0_43, B1_43, B2_43, B3_43, B4_43, B5_43, B6_43, ol2_43, P0_43, P1_43, P4_43⟩ := u
        obtain ⟨hf_43, ho_43, hp_43, h1q_43⟩ := hp
        have hf_43 : FolS NF x lg2_43 mr2_43 en2_43 pw2_43 B0_43 B1_43 B2_43 B3_43 B4_43 B5_43 B6_43 := hf_43
        have ho_43 : OthR NF y ol2_43 P0_43 P1_43 P4_43 := ho_43
        have hp_43 : PosF P4_43 (gS NF y) ∧ (∀ i : Nat, i < gS NF y → 0 ≤ P0_43 (i : Int) ∧ P0_43 (i : Int) ≤ 9) ∧ (∀ k : Nat, k ≤ gS NF y → 0 ≤ sF P4_43 k ∧ sF P4_43 k ≤ 1998000 * k) ∧ gS NF y ≤ 60 := hp_43
        have h1q_43 : ∀ i : Nat, i < gS NF y → 0 ≤ P1_43 (i : Int) ∧ P1_43 (i : Int) ≤ 1 := h1q_43
        have hG : gW K A s.heap [gMdl K am (thr (bI ((0 ≤ y ∧ y < NF 4) ∧ 0 ≤ x ∧ x < NF 4)) (bI (¬ y = x)) 1) rw lg2_43 mr2_43 en2_43 pw2_43 sl2_43 ly2_43 dn2_43 iz tz nx st tk vl ef ep hO hB ol2_43 rm oz, gArr K 95 rw NF, gArr K 60 (am 3) B0_43, gArrZ K 60 (am 4) B1_43, gArr K 60 (am 5) B2_43, gArr K 60 (am 6) B3_43, gArr K 60 (am 7) B4_43, gArr K 60 (am 8) B5_43, gArr K 60 (am 9) B6_43, gArr K 60 (am 11) P0_43, gArrZ K 60 (am 12) P1_43, gArr K 60 (am 13) P4_43] _ _ := hG
        have g9 : lg2_43 = (gS NF x : Int) := hf_43.1
        have g8 : ol2_43 = (gS NF y : Int) := ho_43.1
        obtain ⟨p1, p2, p3, p4⟩ := hp_43
        obtain ⟨r1, r2, r3, r4⟩ := FolS.pos hN qa.2 hf_43
        refine lv_aload_n S.1 S.2.1 dX9_together_46 rfl (lv_at hl 0 rfl) ?_
        refine g_iconst S dX9_together_47 ?_
        refine g_invV (As := [.int (iI 0)]) (rest := []) (gs' := (fun u : Int => [gMdl K am (thr (bI ((0 ≤ y ∧ y < NF 4) ∧ 0 ≤ x ∧ x < NF 4)) (bI (¬ y = x)) 1) rw lg2_43 mr2_43 en2_43 pw2_43 sl2_43 ly2_43 dn2_43 iz tz nx st tk vl ef ep hO hB ol2_43 rm oz, gArr K 95 rw NF, gArr K 60 (am 3) B0_43, gArrZ K 60 (am 4) B1_43, gArr K 60 (am 5) B2_43, gArr K 60 (am 6) B3_43, gArr K 60 (am 7) B4_43, gArr K 60 (am 8) B5_43, gArr K 60 (am 9) B6_43, gArr K 60 (am 11) P0_43, gArrZ K 60 (am 12) P1_43, gArr K 60 (am 13) P4_43])) S C hG [0, 2, 6, 9, 11] (c_X9_areTogether l K am (thr (bI ((0 ≤ y ∧ y < NF 4) ∧ 0 ≤ x ∧ x < NF 4)) (bI (¬ y = x)) 1) rw lg2_43 mr2_43 en2_43 pw2_43 sl2_43 ly2_43 dn2_43 iz tz nx st tk vl ef ep hO hB ol2_43 rm oz B0_43 B4_43 P0_43 P4_43 (gS NF x) (gS NF y) 0 (by omega) (by omega) ⟨r1, r2, r3, r4⟩ ⟨p1, p2, p3, p4⟩ (by omega)) rfl rfl 0 rfl rfl (cwV 1 S.2.2.2.2 gX9_together_X9_areTogether rfl rfl rfl (by decide +kernel) ⟨Nat.le_of_ble_eq_true rfl, Nat.le_of_ble_eq_true rfl⟩) rfl hl.1 rfl (Nat.le_of_ble_eq_true rfl) dX9_together_48 ⟨Nat.le_of_ble_eq_true rfl, Nat.le_of_ble_eq_true rfl⟩ (fun _ => Nat.le_of_ble_eq_true rfl) (fun _ => rfl) (fun v u H locs hp hG => ?_)
        obtain ⟨b9_48, rfl⟩ : ∃ z, z = u := ⟨_, rfl⟩
        obtain ⟨rfl, hb_48⟩ := hp
        have hb_48 : (b9_48 = 1 ∧ TogM B0_43 B4_43 P0_43 P4_43 (gS NF x) (gS NF y) 0) ∨ (b9_48 = 0 ∧ ¬ TogM B0_43 B4_43 P0_43 P4_43 (gS NF x) (gS NF y) 0) := hb_48
        have hG : gW K A s.heap [gMdl K am (thr (bI ((0 ≤ y ∧ y < NF 4) ∧ 0 ≤ x ∧ x < NF 4)) (bI (¬ y = x)) 1) rw lg2_43 mr2_43 en2_43 pw2_43 sl2_43 ly2_43 dn2_43 iz tz nx st tk vl ef ep hO hB ol2_43 rm oz, gArr K 95 rw NF, gArr K 60 (am 3) B0_43, gArrZ K 60 (am 4) B1_43, gArr K 60 (am 5) B2_43, gArr K 60 (am 6) B3_43, gArr K 60 (am 7) B4_43, gArr K 60 (am 8) B5_43, gArr K 60 (am 9) B6_43, gArr K 60 (am 11) P0_43, gArrZ K 60 (am 12) P1_43, gArr K 60 (am 13) P4_43] _ _ := hG
        have J59 : ∀ (r0 : Int) (H : Heap) (locs : List Loc) (ls : Array Slot), (SnR B0_43 B4_43 P0_43 P4_43 (gS NF x) (gS NF y) 0 0 r0) → (-1 ≤ r0 ∧ r0 ≤ 0) → lv_has ls 7 [(0, .ref (am 0)), (1, .int (iI y)), (2, .int (iI x))] → gW K A s.heap [gMdl K am (thr (bI ((0 ≤ y ∧ y < NF 4) ∧ 0 ≤ x ∧ x < NF 4)) (bI (¬ y = x)) 1) rw lg2_43 mr2_43 en2_43 pw2_43 sl2_43 ly2_43 dn2_43 iz tz nx st tk vl ef ep hO hB ol2_43 rm oz, gArr K 95 rw NF, gArr K 60 (am 3) B0_43, gArrZ K 60 (am 4) B1_43, gArr K 60 (am 5) B2_43, gArr K 60 (am 6) B3_43, gArr K 60 (am 7) B4_43, gArr K 60 (am 8) B5_43, gArr K 60 (am 9) B6_43, gArr K 60 (am 11) P0_43, gArrZ K 60 (am 12) P1_43, gArr K 60 (am 13) P4_43] H locs → W p l e { frames := 7, cells := 0, slots := 0, locals := 158 } s m ([.ref (am 0), .int (iI y), .int (iI x)] : List Value).toArray below meth c H locs 0 0 Q (F0 m 59 ls [.int (iI r0)]) := by
          intro r0 H locs ls h59 hr0 hl hG
          refine lv_istore_n (lv' := [(3, .int (iI r0)), (0, .ref (am 0)), (1, .int (iI y)), (2, .int (iI x))]) S.1 S.2.1 dX9_together_59 rfl hl (by decide) rfl (fun ls hl => ?_)
          refine g_iconst S dX9_together_60 ?_
          refine lv_istore (lv' := [(4, .int (iI 0)), (3, .int (iI r0)), (0, .ref (am 0)), (1, .int (iI y)), (2, .int (iI x))]) S.1 S.2.1 dX9_together_61 hl (by decide) rfl (fun ls hl => ?_)
          refine g_iconst S dX9_together_63 ?_
          refine lv_istore (lv' := [(5, .int (iI 0)), (4, .int (iI 0)), (3, .int (iI r0)), (0, .ref (am 0)), (1, .int (iI y)), (2, .int (iI x))]) S.1 S.2.1 dX9_together_64 hl (by decide) rfl (fun ls hl => ?_)
          have L66 : ∀ (fu : Nat) (k : Nat) (w : Int) (f : Int) (ra : Int) (H : Heap) (locs : List Loc) (ls : Array Slot), (((60 : Int) - w).toNat) < fu → (w = (k : Int) ∧ k ≤ gS NF x) → (f = sF B4_43 k) → (SnR B0_43 B4_43 P0_43 P4_43 (gS NF x) (gS NF y) k 0 ra) → (-1 ≤ ra ∧ ra ≤ 200000000) → lv_has ls 7 [(0, .ref (am 0)), (1, .int (iI y)), (2, .int (iI x)), (3, .int (iI ra)), (4, .int (iI f)), (5, .int (iI w))] → gW K A s.heap [gMdl K am (thr (bI ((0 ≤ y ∧ y < NF 4) ∧ 0 ≤ x ∧ x < NF 4)) (bI (¬ y = x)) 1) rw lg2_43 mr2_43 en2_43 pw2_43 sl2_43 ly2_43 dn2_43 iz tz nx st tk vl ef ep hO hB ol2_43 rm oz, gArr K 95 rw NF, gArr K 60 (am 3) B0_43, gArrZ K 60 (am 4) B1_43, gArr K 60 (am 5) B2_43, gArr K 60 (am 6) B3_43, gArr K 60 (am 7) B4_43, gArr K 60 (am 8) B5_43, gArr K 60 (am 9) B6_43, gArr K 60 (am 11) P0_43, gArrZ K 60 (am 12) P1_43, gArr K 60 (am 13) P4_43] H locs → W p l e { frames := 7, cells := 0, slots := 0, locals := 158 } s m ([.ref (am 0), .int (iI y), .int (iI x)] : List Value).toArray below meth c H locs 0 0 Q (F0 m 66 ls []) := by
            intro fu
            induction fu with
            | zero => intro k w f ra H locs ls hfu; exact absurd hfu (Nat.not_lt_zero _)
            | succ fu ih =>
              intro k w f ra H locs ls hfu hw hb hs1 hra hl hG
              refine lv_iload S.1 S.2.1 dX9_together_66 (lv_at hl 5 rfl) ?_
              refine lv_aload_n S.1 S.2.1 dX9_together_68 rfl (lv_at hl 0 rfl) ?_
              refine g_get S C hG iX90 0 rfl rfl 11 (by decide) (List.mem_of_getElem? (i := 1) rfl) rfl dX9_together_69 ?_
              refine g_icmp_ge (tgt := 120) S dX9_together_72 (by decide) (by omega) (by omega) (fun q72 => ?_) (fun q72 => ?_)
              · skip
                refine g_iconst S dX9_together_120 ?_
                refine lv_istore (lv' := [(5, .int (iI 0)), (0, .ref (am 0)), (1, .int (iI y)), (2, .int (iI x)), (3, .int (iI ra)), (4, .int (iI f))]) S.1 S.2.1 dX9_together_121 hl (by decide) rfl (fun ls hl => ?_)
                refine g_iconst S dX9_together_123 ?_
                refine lv_istore (lv' := [(6, .int (iI 0)), (5, .int (iI 0)), (0, .ref (am 0)), (1, .int (iI y)), (2, .int (iI x)), (3, .int (iI ra)), (4, .int (iI f))]) S.1 S.2.1 dX9_together_124 hl (by decide) rfl (fun ls hl => ?_)
                have L126 : ∀ (fu : Nat) (j : Nat) (vv : Int) (gg : Int) (rb : Int) (H : Heap) (locs : List Loc) (ls : Array Slot), (((60 : Int) - vv).toNat) < fu → (vv = (j : Int) ∧ j ≤ gS NF y) → (gg = sF P4_43 j) → (SnR B0_43 B4_43 P0_43 P4_43 (gS NF x) (gS NF y) (gS NF x) j rb) → (-1 ≤ rb ∧ rb ≤ 200000000) → lv_has ls 7 [(0, .ref (am 0)), (1, .int (iI y)), (2, .int (iI x)), (3, .int (iI rb)), (5, .int (iI gg)), (6, .int (iI vv))] → gW K A s.heap [gMdl K am (thr (bI ((0 ≤ y ∧ y < NF 4) ∧ 0 ≤ x ∧ x < NF 4)) (bI (¬ y = x)) 1) rw lg2_43 mr2_43 en2_43 pw2_43 sl2_43 ly2_43 dn2_43 iz tz nx st tk vl ef ep hO hB ol2_43 rm oz, gArr K 95 rw NF, gArr K 60 (am 3) B0_43, gArrZ K 60 (am 4) B1_43, gArr K 60 (am 5) B2_43, gArr K 60 (am 6) B3_43, gArr K 60 (am 7) B4_43, gArr K 60 (am 8) B5_43, gArr K 60 (am 9) B6_43, gArr K 60 (am 11) P0_43, gArrZ K 60 (am 12) P1_43, gArr K 60 (am 13) P4_43] H locs → W p l e { frames := 7, cells := 0, slots := 0, locals := 158 } s m ([.ref (am 0), .int (iI y), .int (iI x)] : List Value).toArray below meth c H locs 0 0 Q (F0 m 126 ls []) := by
                  intro fu
                  induction fu with
                  | zero => intro j vv gg rb H locs ls hfu; exact absurd hfu (Nat.not_lt_zero _)
                  | succ fu ih126 =>
                    intro j vv gg rb H locs ls hfu hw2 hb2 hs2 hrb hl hG
                    refine lv_iload S.1 S.2.1 dX9_together_126 (lv_at hl 5 rfl) ?_
                    refine lv_aload_n S.1 S.2.1 dX9_together_128 rfl (lv_at hl 0 rfl) ?_
                    refine g_get S C hG iX90 0 rfl rfl 32 (by decide) (List.mem_of_getElem? (i := 3) rfl) rfl dX9_together_129 ?_
                    refine g_icmp_ge (tgt := 180) S dX9_together_132 (by decide) (by omega) (by omega) (fun q132 => ?_) (fun q132 => ?_)
                    · skip
                      refine lv_iload_n S.1 S.2.1 dX9_together_180 rfl (lv_at hl 3 rfl) ?_
                      have e9 : j = gS NF y := by omega
                      subst e9
                      have hG : gW K A s.heap [gMdl K am (thr (bI ((0 ≤ y ∧ y < NF 4) ∧ 0 ≤ x ∧ x < NF 4)) (bI (¬ y = x)) 1) rw lg2_43 mr2_43 en2_43 pw2_43 sl2_43 ly2_43 dn2_43 iz tz nx st tk vl ef ep hO hB ol2_43 rm oz, gArr K 95 rw NF, gArr K 60 (am 3) B0_43, gArrZ K 60 (am 4) B1_43, gArr K 60 (am 5) B2_43, gArr K 60 (am 6) B3_43, gArr K 60 (am 7) B4_43, gArr K 60 (am 8) B5_43, gArr K 60 (am 9) B6_43, gArr K 60 (am 11) P0_43, gArrZ K 60 (am 12) P1_43, gArr K 60 (am 13) P4_43] _ _ := hG
                      exact g_iret S hr hlk hQ dX9_together_181 (Nat.le_of_ble_eq_true rfl) (Nat.le_of_ble_eq_true rfl) ((rb, lg2_43, mr2_43, en2_43, pw2_43, sl2_43, ly2_43, dn2_43, B0_43, B1_43, B2_43, B3_43, B4_43, B5_43, B6_43, ol2_43, P0_43, P1_43, P4_43) : Int × Int × Int × Int × Int × Int × Int × Int × (Int → Int) × (Int → Int) × (Int → Int) × (Int → Int) × (Int → Int) × (Int → Int) × (Int → Int) × Int × (Int → Int) × (Int → Int) × (Int → Int)) ⟨rfl, (fun _ => SnR.tg hf_43 ho_43 hs2)⟩ hG
                    · skip
                      refine lv_iload S.1 S.2.1 dX9_together_135 (lv_at hl 4 rfl) ?_
                      refine lv_aload_n S.1 S.2.1 dX9_together_137 rfl (lv_at hl 0 rfl) ?_
                      refine g_get S C hG iX90 0 rfl rfl 31 (by decide) (List.mem_of_getElem? (i := 4) rfl) rfl dX9_together_138 ?_
                      refine lv_iload S.1 S.2.1 dX9_together_141 (lv_at hl 5 rfl) ?_
                      refine g_iald S C hG 11 rfl (by omega) (by omega) (by omega) dX9_together_143 ?_
                      have s9 := p3 (j + 1) (by omega)
                      have s8 : sF P4_43 (j + 1) = sF P4_43 j + P4_43 vv := by rw [sF_s, hw2.1]
                      have s7 := p3 j (by omega)
                      have s6 := p1 j (by omega)
                      rw [← hw2.1] at s6
                      refine g_iadd S dX9_together_144 rfl ?_
                      refine g_top (w := .int (iI (sF P4_43 (j + 1)))) (congrArg (fun z : Int => Value.int (iI z)) ((by rw [sF_s, hb2, hw2.1]))) ?_
                      refine lv_istore (lv' := [(5, .int (iI (sF P4_43 (j + 1)))), (0, .ref (am 0)), (1, .int (iI y)), (2, .int (iI x)), (3, .int (iI rb)), (6, .int (iI vv))]) S.1 S.2.1 dX9_together_145 hl (by decide) rfl (fun ls hl => ?_)
                      refine lv_aload_n S.1 S.2.1 dX9_together_147 rfl (lv_at hl 1 rfl) ?_
                      refine lv_iload S.1 S.2.1 dX9_together_148 (lv_at hl 0 rfl) ?_
                      refine g_invV (As := [.int (iI (sF P4_43 (j + 1)))]) (rest := []) (gs' := (fun u : Int => [gMdl K am (thr (bI ((0 ≤ y ∧ y < NF 4) ∧ 0 ≤ x ∧ x < NF 4)) (bI (¬ y = x)) 1) rw lg2_43 mr2_43 en2_43 pw2_43 sl2_43 ly2_43 dn2_43 iz tz nx st tk vl ef ep hO hB ol2_43 rm oz, gArr K 95 rw NF, gArr K 60 (am 3) B0_43, gArrZ K 60 (am 4) B1_43, gArr K 60 (am 5) B2_43, gArr K 60 (am 6) B3_43, gArr K 60 (am 7) B4_43, gArr K 60 (am 8) B5_43, gArr K 60 (am 9) B6_43, gArr K 60 (am 11) P0_43, gArrZ K 60 (am 12) P1_43, gArr K 60 (am 13) P4_43])) S C hG [0, 2, 6, 9, 11] (c_X9_areTogether l K am (thr (bI ((0 ≤ y ∧ y < NF 4) ∧ 0 ≤ x ∧ x < NF 4)) (bI (¬ y = x)) 1) rw lg2_43 mr2_43 en2_43 pw2_43 sl2_43 ly2_43 dn2_43 iz tz nx st tk vl ef ep hO hB ol2_43 rm oz B0_43 B4_43 P0_43 P4_43 (gS NF x) (gS NF y) (sF P4_43 (j + 1)) (by omega) (by omega) ⟨r1, r2, r3, r4⟩ ⟨p1, p2, p3, p4⟩ (by omega)) rfl rfl 0 rfl rfl (cwV 1 S.2.2.2.2 gX9_together_X9_areTogether rfl rfl rfl (by decide +kernel) ⟨Nat.le_of_ble_eq_true rfl, Nat.le_of_ble_eq_true rfl⟩) rfl hl.1 rfl (Nat.le_of_ble_eq_true rfl) dX9_together_150 ⟨Nat.le_of_ble_eq_true rfl, Nat.le_of_ble_eq_true rfl⟩ (fun _ => Nat.le_of_ble_eq_true rfl) (fun _ => rfl) (fun v u H locs hp hG => ?_)
                      obtain ⟨b9_150, rfl⟩ : ∃ z, z = u := ⟨_, rfl⟩
                      obtain ⟨rfl, hb_150⟩ := hp
                      have hb_150 : (b9_150 = 1 ∧ TogM B0_43 B4_43 P0_43 P4_43 (gS NF x) (gS NF y) (sF P4_43 (j + 1))) ∨ (b9_150 = 0 ∧ ¬ TogM B0_43 B4_43 P0_43 P4_43 (gS NF x) (gS NF y) (sF P4_43 (j + 1))) := hb_150
                      have hG : gW K A s.heap [gMdl K am (thr (bI ((0 ≤ y ∧ y < NF 4) ∧ 0 ≤ x ∧ x < NF 4)) (bI (¬ y = x)) 1) rw lg2_43 mr2_43 en2_43 pw2_43 sl2_43 ly2_43 dn2_43 iz tz nx st tk vl ef ep hO hB ol2_43 rm oz, gArr K 95 rw NF, gArr K 60 (am 3) B0_43, gArrZ K 60 (am 4) B1_43, gArr K 60 (am 5) B2_43, gArr K 60 (am 6) B3_43, gArr K 60 (am 7) B4_43, gArr K 60 (am 8) B5_43, gArr K 60 (am 9) B6_43, gArr K 60 (am 11) P0_43, gArrZ K 60 (am 12) P1_43, gArr K 60 (am 13) P4_43] _ _ := hG
                      refine g_if_eq (tgt := 172) S dX9_together_153 (by decide) (by omega) (fun q153 => ?_) (fun q153 => ?_)
                      · skip
                        refine lv_iload_n S.1 S.2.1 dX9_together_172 rfl (lv_at hl 4 rfl) ?_
                        refine lv_istore_n (lv' := [(3, .int (iI rb)), (5, .int (iI (sF P4_43 (j + 1)))), (0, .ref (am 0)), (1, .int (iI y)), (2, .int (iI x)), (6, .int (iI vv))]) S.1 S.2.1 dX9_together_173 rfl hl (by decide) rfl (fun ls hl => ?_)
                        refine lv_iinc (v := iI (vv + 1)) (lv' := [(6, .int (iI (vv + 1))), (3, .int (iI rb)), (5, .int (iI (sF P4_43 (j + 1)))), (0, .ref (am 0)), (1, .int (iI y)), (2, .int (iI x))]) S.1 S.2.1 dX9_together_174 hl (k := 5) rfl (g_iinc rfl) (by decide) rfl (fun ls hl => ?_)
                        refine lv_goto (tgt := 126) S.1 S.2.1 dX9_together_177 (by decide) ?_
                        exact ih126 (j + 1) (vv + 1) (sF P4_43 (j + 1)) rb _ _ _ (by omega) ⟨by omega, by omega⟩ rfl (SnR.b r1 hs2 (Or.inl ⟨(hb_150.elim (fun z => absurd z.1 (by omega)) (fun z => z.2)), rfl⟩)) (by omega) (lv_sub hl [3, 4, 5, 1, 2, 0] rfl) hG
                      · skip
                        refine lv_iload_n S.1 S.2.1 dX9_together_156 rfl (lv_at hl 4 rfl) ?_
                        refine g_iconst S dX9_together_157 ?_
                        refine g_icmp_eq (tgt := 167) S dX9_together_158 (by decide) (by omega) (by omega) (fun q158 => ?_) (fun q158 => ?_)
                        · skip
                          refine lv_iload S.1 S.2.1 dX9_together_167 (lv_at hl 0 rfl) ?_
                          refine lv_goto (tgt := 173) S.1 S.2.1 dX9_together_169 (by decide) ?_
                          refine lv_istore_n (lv' := [(3, .int (iI (sF P4_43 (j + 1)))), (5, .int (iI (sF P4_43 (j + 1)))), (0, .ref (am 0)), (1, .int (iI y)), (2, .int (iI x)), (6, .int (iI vv))]) S.1 S.2.1 dX9_together_173 rfl hl (by decide) rfl (fun ls hl => ?_)
                          refine lv_iinc (v := iI (vv + 1)) (lv' := [(6, .int (iI (vv + 1))), (3, .int (iI (sF P4_43 (j + 1)))), (5, .int (iI (sF P4_43 (j + 1)))), (0, .ref (am 0)), (1, .int (iI y)), (2, .int (iI x))]) S.1 S.2.1 dX9_together_174 hl (k := 5) rfl (g_iinc rfl) (by decide) rfl (fun ls hl => ?_)
                          refine lv_goto (tgt := 126) S.1 S.2.1 dX9_together_177 (by decide) ?_
                          exact ih126 (j + 1) (vv + 1) (sF P4_43 (j + 1)) (sF P4_43 (j + 1)) _ _ _ (by omega) ⟨by omega, by omega⟩ rfl (SnR.b r1 hs2 (Or.inr (Or.inl ⟨(hb_150.elim (fun z => z.2) (fun z => absurd z.1 q153)), Or.inl (by omega), rfl⟩))) (by omega) (lv_sub hl [3, 4, 5, 1, 2, 0] rfl) hG
                        · skip
                          refine lv_iload S.1 S.2.1 dX9_together_161 (lv_at hl 0 rfl) ?_
                          refine lv_iload_n S.1 S.2.1 dX9_together_163 rfl (lv_at hl 4 rfl) ?_
                          refine g_icmp_ge (tgt := 172) S dX9_together_164 (by decide) (by omega) (by omega) (fun q164 => ?_) (fun q164 => ?_)
                          · skip
                            refine lv_iload_n S.1 S.2.1 dX9_together_172 rfl (lv_at hl 4 rfl) ?_
                            refine lv_istore_n (lv' := [(3, .int (iI rb)), (5, .int (iI (sF P4_43 (j + 1)))), (0, .ref (am 0)), (1, .int (iI y)), (2, .int (iI x)), (6, .int (iI vv))]) S.1 S.2.1 dX9_together_173 rfl hl (by decide) rfl (fun ls hl => ?_)
                            refine lv_iinc (v := iI (vv + 1)) (lv' := [(6, .int (iI (vv + 1))), (3, .int (iI rb)), (5, .int (iI (sF P4_43 (j + 1)))), (0, .ref (am 0)), (1, .int (iI y)), (2, .int (iI x))]) S.1 S.2.1 dX9_together_174 hl (k := 5) rfl (g_iinc rfl) (by decide) rfl (fun ls hl => ?_)
                            refine lv_goto (tgt := 126) S.1 S.2.1 dX9_together_177 (by decide) ?_
                            exact ih126 (j + 1) (vv + 1) (sF P4_43 (j + 1)) rb _ _ _ (by omega) ⟨by omega, by omega⟩ rfl (SnR.b r1 hs2 (Or.inr (Or.inr ⟨(hb_150.elim (fun z => z.2) (fun z => absurd z.1 q153)), by omega, by omega, rfl⟩))) (by omega) (lv_sub hl [3, 4, 5, 1, 2, 0] rfl) hG
                          · skip
                            refine lv_iload S.1 S.2.1 dX9_together_167 (lv_at hl 0 rfl) ?_
                            refine lv_goto (tgt := 173) S.1 S.2.1 dX9_together_169 (by decide) ?_
                            refine lv_istore_n (lv' := [(3, .int (iI (sF P4_43 (j + 1)))), (5, .int (iI (sF P4_43 (j + 1)))), (0, .ref (am 0)), (1, .int (iI y)), (2, .int (iI x)), (6, .int (iI vv))]) S.1 S.2.1 dX9_together_173 rfl hl (by decide) rfl (fun ls hl => ?_)
                            refine lv_iinc (v := iI (vv + 1)) (lv' := [(6, .int (iI (vv + 1))), (3, .int (iI (sF P4_43 (j + 1)))), (5, .int (iI (sF P4_43 (j + 1)))), (0, .ref (am 0)), (1, .int (iI y)), (2, .int (iI x))]) S.1 S.2.1 dX9_together_174 hl (k := 5) rfl (g_iinc rfl) (by decide) rfl (fun ls hl => ?_)
                            refine lv_goto (tgt := 126) S.1 S.2.1 dX9_together_177 (by decide) ?_
                            exact ih126 (j + 1) (vv + 1) (sF P4_43 (j + 1)) (sF P4_43 (j + 1)) _ _ _ (by omega) ⟨by omega, by omega⟩ rfl (SnR.b r1 hs2 (Or.inr (Or.inl ⟨(hb_150.elim (fun z => z.2) (fun z => absurd z.1 q153)), Or.inr (by omega), rfl⟩))) (by omega) (lv_sub hl [3, 4, 5, 1, 2, 0] rfl) hG
                exact L126 (Nat.succ (((60 : Int) - 0).toNat)) 0 0 0 ra _ _ _ (Nat.lt_succ_self _) ⟨rfl, Nat.zero_le _⟩ rfl ((show k = gS NF x by omega) ▸ hs1) (by omega) (lv_sub hl [2, 3, 4, 5, 1, 0] rfl) hG
              · skip
                refine lv_iload S.1 S.2.1 dX9_together_75 (lv_at hl 4 rfl) ?_
                refine lv_aload_n S.1 S.2.1 dX9_together_77 rfl (lv_at hl 0 rfl) ?_
                refine g_get S C hG iX90 0 rfl rfl 8 (by decide) (List.mem_of_getElem? (i := 2) rfl) rfl dX9_together_78 ?_
                refine lv_iload S.1 S.2.1 dX9_together_81 (lv_at hl 5 rfl) ?_
                refine g_iald S C hG 6 rfl (by omega) (by omega) (by omega) dX9_together_83 ?_
                have s9 := r3 (k + 1) (by omega)
                have s8 : sF B4_43 (k + 1) = sF B4_43 k + B4_43 w := by rw [sF_s, hw.1]
                have s7 := r3 k (by omega)
                have s6 := r1 k (by omega)
                rw [← hw.1] at s6
                refine g_iadd S dX9_together_84 rfl ?_
                refine g_top (w := .int (iI (sF B4_43 (k + 1)))) (congrArg (fun z : Int => Value.int (iI z)) ((by rw [sF_s, hb, hw.1]))) ?_
                refine lv_istore (lv' := [(4, .int (iI (sF B4_43 (k + 1)))), (0, .ref (am 0)), (1, .int (iI y)), (2, .int (iI x)), (3, .int (iI ra)), (5, .int (iI w))]) S.1 S.2.1 dX9_together_85 hl (by decide) rfl (fun ls hl => ?_)
                refine lv_aload_n S.1 S.2.1 dX9_together_87 rfl (lv_at hl 1 rfl) ?_
                refine lv_iload S.1 S.2.1 dX9_together_88 (lv_at hl 0 rfl) ?_
                refine g_invV (As := [.int (iI (sF B4_43 (k + 1)))]) (rest := []) (gs' := (fun u : Int => [gMdl K am (thr (bI ((0 ≤ y ∧ y < NF 4) ∧ 0 ≤ x ∧ x < NF 4)) (bI (¬ y = x)) 1) rw lg2_43 mr2_43 en2_43 pw2_43 sl2_43 ly2_43 dn2_43 iz tz nx st tk vl ef ep hO hB ol2_43 rm oz, gArr K 95 rw NF, gArr K 60 (am 3) B0_43, gArrZ K 60 (am 4) B1_43, gArr K 60 (am 5) B2_43, gArr K 60 (am 6) B3_43, gArr K 60 (am 7) B4_43, gArr K 60 (am 8) B5_43, gArr K 60 (am 9) B6_43, gArr K 60 (am 11) P0_43, gArrZ K 60 (am 12) P1_43, gArr K 60 (am 13) P4_43])) S C hG [0, 2, 6, 9, 11] (c_X9_areTogether l K am (thr (bI ((0 ≤ y ∧ y < NF 4) ∧ 0 ≤ x ∧ x < NF 4)) (bI (¬ y = x)) 1) rw lg2_43 mr2_43 en2_43 pw2_43 sl2_43 ly2_43 dn2_43 iz tz nx st tk vl ef ep hO hB ol2_43 rm oz B0_43 B4_43 P0_43 P4_43 (gS NF x) (gS NF y) (sF B4_43 (k + 1)) (by omega) (by omega) ⟨r1, r2, r3, r4⟩ ⟨p1, p2, p3, p4⟩ (by omega)) rfl rfl 0 rfl rfl (cwV 1 S.2.2.2.2 gX9_together_X9_areTogether rfl rfl rfl (by decide +kernel) ⟨Nat.le_of_ble_eq_true rfl, Nat.le_of_ble_eq_true rfl⟩) rfl hl.1 rfl (Nat.le_of_ble_eq_true rfl) dX9_together_90 ⟨Nat.le_of_ble_eq_true rfl, Nat.le_of_ble_eq_true rfl⟩ (fun _ => Nat.le_of_ble_eq_true rfl) (fun _ => rfl) (fun v u H locs hp hG => ?_)
                obtain ⟨b9_90, rfl⟩ : ∃ z, z = u := ⟨_, rfl⟩
                obtain ⟨rfl, hb_90⟩ := hp
                have hb_90 : (b9_90 = 1 ∧ TogM B0_43 B4_43 P0_43 P4_43 (gS NF x) (gS NF y) (sF B4_43 (k + 1))) ∨ (b9_90 = 0 ∧ ¬ TogM B0_43 B4_43 P0_43 P4_43 (gS NF x) (gS NF y) (sF B4_43 (k + 1))) := hb_90
                have hG : gW K A s.heap [gMdl K am (thr (bI ((0 ≤ y ∧ y < NF 4) ∧ 0 ≤ x ∧ x < NF 4)) (bI (¬ y = x)) 1) rw lg2_43 mr2_43 en2_43 pw2_43 sl2_43 ly2_43 dn2_43 iz tz nx st tk vl ef ep hO hB ol2_43 rm oz, gArr K 95 rw NF, gArr K 60 (am 3) B0_43, gArrZ K 60 (am 4) B1_43, gArr K 60 (am 5) B2_43, gArr K 60 (am 6) B3_43, gArr K 60 (am 7) B4_43, gArr K 60 (am 8) B5_43, gArr K 60 (am 9) B6_43, gArr K 60 (am 11) P0_43, gArrZ K 60 (am 12) P1_43, gArr K 60 (am 13) P4_43] _ _ := hG
                refine g_if_eq (tgt := 112) S dX9_together_93 (by decide) (by omega) (fun q93 => ?_) (fun q93 => ?_)
                · skip
                  refine lv_iload_n S.1 S.2.1 dX9_together_112 rfl (lv_at hl 4 rfl) ?_
                  refine lv_istore_n (lv' := [(3, .int (iI ra)), (4, .int (iI (sF B4_43 (k + 1)))), (0, .ref (am 0)), (1, .int (iI y)), (2, .int (iI x)), (5, .int (iI w))]) S.1 S.2.1 dX9_together_113 rfl hl (by decide) rfl (fun ls hl => ?_)
                  refine lv_iinc (v := iI (w + 1)) (lv' := [(5, .int (iI (w + 1))), (3, .int (iI ra)), (4, .int (iI (sF B4_43 (k + 1)))), (0, .ref (am 0)), (1, .int (iI y)), (2, .int (iI x))]) S.1 S.2.1 dX9_together_114 hl (k := 5) rfl (g_iinc rfl) (by decide) rfl (fun ls hl => ?_)
                  refine lv_goto (tgt := 66) S.1 S.2.1 dX9_together_117 (by decide) ?_
                  exact ih (k + 1) (w + 1) (sF B4_43 (k + 1)) ra _ _ _ (by omega) ⟨by omega, by omega⟩ rfl (SnR.a r1 hs1 (Or.inl ⟨(hb_90.elim (fun z => absurd z.1 (by omega)) (fun z => z.2)), rfl⟩)) (by omega) (lv_sub hl [3, 4, 5, 1, 2, 0] rfl) hG
                · skip
                  refine lv_iload_n S.1 S.2.1 dX9_together_96 rfl (lv_at hl 4 rfl) ?_
                  refine g_iconst S dX9_together_97 ?_
                  refine g_icmp_eq (tgt := 107) S dX9_together_98 (by decide) (by omega) (by omega) (fun q98 => ?_) (fun q98 => ?_)
                  · skip
                    refine lv_iload S.1 S.2.1 dX9_together_107 (lv_at hl 0 rfl) ?_
                    refine lv_goto (tgt := 113) S.1 S.2.1 dX9_together_109 (by decide) ?_
                    refine lv_istore_n (lv' := [(3, .int (iI (sF B4_43 (k + 1)))), (4, .int (iI (sF B4_43 (k + 1)))), (0, .ref (am 0)), (1, .int (iI y)), (2, .int (iI x)), (5, .int (iI w))]) S.1 S.2.1 dX9_together_113 rfl hl (by decide) rfl (fun ls hl => ?_)
                    refine lv_iinc (v := iI (w + 1)) (lv' := [(5, .int (iI (w + 1))), (3, .int (iI (sF B4_43 (k + 1)))), (4, .int (iI (sF B4_43 (k + 1)))), (0, .ref (am 0)), (1, .int (iI y)), (2, .int (iI x))]) S.1 S.2.1 dX9_together_114 hl (k := 5) rfl (g_iinc rfl) (by decide) rfl (fun ls hl => ?_)
                    refine lv_goto (tgt := 66) S.1 S.2.1 dX9_together_117 (by decide) ?_
                    exact ih (k + 1) (w + 1) (sF B4_43 (k + 1)) (sF B4_43 (k + 1)) _ _ _ (by omega) ⟨by omega, by omega⟩ rfl (SnR.a r1 hs1 (Or.inr (Or.inl ⟨(hb_90.elim (fun z => z.2) (fun z => absurd z.1 q93)), Or.inl (by omega), rfl⟩))) (by omega) (lv_sub hl [3, 4, 5, 1, 2, 0] rfl) hG
                  · skip
                    refine lv_iload S.1 S.2.1 dX9_together_101 (lv_at hl 0 rfl) ?_
                    refine lv_iload_n S.1 S.2.1 dX9_together_103 rfl (lv_at hl 4 rfl) ?_
                    refine g_icmp_ge (tgt := 112) S dX9_together_104 (by decide) (by omega) (by omega) (fun q104 => ?_) (fun q104 => ?_)
                    · skip
                      refine lv_iload_n S.1 S.2.1 dX9_together_112 rfl (lv_at hl 4 rfl) ?_
                      refine lv_istore_n (lv' := [(3, .int (iI ra)), (4, .int (iI (sF B4_43 (k + 1)))), (0, .ref (am 0)), (1, .int (iI y)), (2, .int (iI x)), (5, .int (iI w))]) S.1 S.2.1 dX9_together_113 rfl hl (by decide) rfl (fun ls hl => ?_)
                      refine lv_iinc (v := iI (w + 1)) (lv' := [(5, .int (iI (w + 1))), (3, .int (iI ra)), (4, .int (iI (sF B4_43 (k + 1)))), (0, .ref (am 0)), (1, .int (iI y)), (2, .int (iI x))]) S.1 S.2.1 dX9_together_114 hl (k := 5) rfl (g_iinc rfl) (by decide) rfl (fun ls hl => ?_)
                      refine lv_goto (tgt := 66) S.1 S.2.1 dX9_together_117 (by decide) ?_
                      exact ih (k + 1) (w + 1) (sF B4_43 (k + 1)) ra _ _ _ (by omega) ⟨by omega, by omega⟩ rfl (SnR.a r1 hs1 (Or.inr (Or.inr ⟨(hb_90.elim (fun z => z.2) (fun z => absurd z.1 q93)), by omega, by omega, rfl⟩))) (by omega) (lv_sub hl [3, 4, 5, 1, 2, 0] rfl) hG
                    · skip
                      refine lv_iload S.1 S.2.1 dX9_together_107 (lv_at hl 0 rfl) ?_
                      refine lv_goto (tgt := 113) S.1 S.2.1 dX9_together_109 (by decide) ?_
                      refine lv_istore_n (lv' := [(3, .int (iI (sF B4_43 (k + 1)))), (4, .int (iI (sF B4_43 (k + 1)))), (0, .ref (am 0)), (1, .int (iI y)), (2, .int (iI x)), (5, .int (iI w))]) S.1 S.2.1 dX9_together_113 rfl hl (by decide) rfl (fun ls hl => ?_)
                      refine lv_iinc (v := iI (w + 1)) (lv' := [(5, .int (iI (w + 1))), (3, .int (iI (sF B4_43 (k + 1)))), (4, .int (iI (sF B4_43 (k + 1)))), (0, .ref (am 0)), (1, .int (iI y)), (2, .int (iI x))]) S.1 S.2.1 dX9_together_114 hl (k := 5) rfl (g_iinc rfl) (by decide) rfl (fun ls hl => ?_)
                      refine lv_goto (tgt := 66) S.1 S.2.1 dX9_together_117 (by decide) ?_
                      exact ih (k + 1) (w + 1) (sF B4_43 (k + 1)) (sF B4_43 (k + 1)) _ _ _ (by omega) ⟨by omega, by omega⟩ rfl (SnR.a r1 hs1 (Or.inr (Or.inl ⟨(hb_90.elim (fun z => z.2) (fun z => absurd z.1 q93)), Or.inr (by omega), rfl⟩))) (by omega) (lv_sub hl [3, 4, 5, 1, 2, 0] rfl) hG
          exact L66 (Nat.succ (((60 : Int) - 0).toNat)) 0 0 0 r0 _ _ _ (Nat.lt_succ_self _) ⟨rfl, Nat.zero_le _⟩ rfl h59 (by omega) (lv_sub hl [3, 4, 5, 2, 1, 0] rfl) hG
        refine g_if_eq (tgt := 58) S dX9_together_51 (by decide) (by omega) (fun q51 => ?_) (fun q51 => ?_)
        · skip
          refine g_iconst S dX9_together_58 ?_
          exact J59 (-1) _ _ _ (SnR.zero 0 _ (Or.inr ⟨rfl, (hb_48.elim (fun z => absurd z.1 (by omega)) (fun z => z.2)), rfl⟩)) (by omega) (lv_sub hl [0, 1, 2] rfl) hG
        · skip
          refine g_iconst S dX9_together_54 ?_
          refine lv_goto (tgt := 59) S.1 S.2.1 dX9_together_55 (by decide) ?_
          exact J59 0 _ _ _ (SnR.zero 1 _ (Or.inl ⟨rfl, (hb_48.elim (fun z => z.2) (fun z => absurd z.1 q51)), rfl⟩)) (by omega) (lv_sub hl [0, 1, 2] rfl) hG
      · skip
        refine g_iconst S dX9_together_38 ?_
        have hG : gW K A s.heap [gMdl K am (thr (bI ((0 ≤ y ∧ y < NF 4) ∧ 0 ≤ x ∧ x < NF 4)) (bI (¬ y = x)) 1) rw lg mr en pw sl ly dn iz tz nx st tk vl ef ep hO hB ol rm oz, gArr K 95 rw NF, gArr K 60 (am 3) A0, gArrZ K 60 (am 4) A1, gArr K 60 (am 5) A2, gArr K 60 (am 6) A3, gArr K 60 (am 7) A4, gArr K 60 (am 8) A5, gArr K 60 (am 9) A6, gArr K 60 (am 11) O0, gArrZ K 60 (am 12) O1, gArr K 60 (am 13) O4] _ _ := hG
        exact g_iret S hr hlk hQ dX9_together_39 (Nat.le_of_ble_eq_true rfl) (Nat.le_of_ble_eq_true rfl) ((0, lg, mr, en, pw, sl, ly, dn, A0, A1, A2, A3, A4, A5, A6, ol, O0, O1, O4) : Int × Int × Int × Int × Int × Int × Int × Int × (Int → Int) × (Int → Int) × (Int → Int) × (Int → Int) × (Int → Int) × (Int → Int) × (Int → Int) × Int × (Int → Int) × (Int → Int) × (Int → Int)) ⟨rfl, (fun h => absurd ⟨bI_t h.1, bI_t h.2⟩ q35)⟩ hG
    refine g_icmp_eq (tgt := 31) S dX9_together_24 (by decide) (by omega) (by omega) (fun q24 => ?_) (fun q24 => ?_)
    · skip
      refine g_iconst S dX9_together_31 ?_
      refine g_top (w := .int (iI (bI (¬ y = x)))) (congrArg (fun z : Int => Value.int (iI z)) ((bI_f (by omega)).symm)) ?_
      exact J32 _ _ _ (lv_sub hl [0, 1, 2] rfl) hG
    · skip
      refine g_iconst S dX9_together_27 ?_
      refine g_top (w := .int (iI (bI (¬ y = x)))) (congrArg (fun z : Int => Value.int (iI z)) ((bI_t (by omega)).symm)) ?_
      refine lv_goto (tgt := 32) S.1 S.2.1 dX9_together_28 (by decide) ?_
      exact J32 _ _ _ (lv_sub hl [0, 1, 2] rfl) hG
  refine g_ifeq_b (B := (0 ≤ y ∧ y < NF 4)) (tgt := 21) S dX9_together_6 (by decide) (fun q6 => ?_) (fun q6 => ?_)
  · skip
    refine g_iconst S dX9_together_21 ?_
    refine g_top (w := .int (iI (bI ((0 ≤ y ∧ y < NF 4) ∧ 0 ≤ x ∧ x < NF 4)))) (congrArg (fun z : Int => Value.int (iI z)) ((bI_f (by omega)).symm)) ?_
    exact J22 _ _ _ (lv_sub hl [0, 1, 2] rfl) hG
  · skip
    refine lv_aload_n S.1 S.2.1 dX9_together_9 rfl (lv_at hl 0 rfl) ?_
    refine lv_iload_n S.1 S.2.1 dX9_together_10 rfl (lv_at hl 2 rfl) ?_
    refine g_invV (As := [.int (iI x)]) (rest := [.ref (am 0)]) (gs' := (fun u : Unit => [gMdl K am th rw lg mr en pw sl ly dn iz tz nx st tk vl ef ep hO hB ol rm oz, gArr K 95 rw NF, gArr K 60 (am 3) A0, gArrZ K 60 (am 4) A1, gArr K 60 (am 5) A2, gArr K 60 (am 6) A3, gArr K 60 (am 7) A4, gArr K 60 (am 8) A5, gArr K 60 (am 9) A6, gArr K 60 (am 11) O0, gArrZ K 60 (am 12) O1, gArr K 60 (am 13) O4])) S C hG [0, 1] (c_X9_isShot l K am th rw lg mr en pw sl ly dn iz tz nx st tk vl ef ep hO hB ol rm oz NF x hN hx) rfl rfl 0 rfl rfl (cwV 1 S.2.2.2.2 gX9_together_X9_isShot rfl rfl rfl (by decide +kernel) ⟨Nat.le_of_ble_eq_true rfl, Nat.le_of_ble_eq_true rfl⟩) rfl hl.1 rfl (Nat.le_of_ble_eq_true rfl) dX9_together_11 ⟨Nat.le_of_ble_eq_true rfl, Nat.le_of_ble_eq_true rfl⟩ (fun _ => Nat.le_of_ble_eq_true rfl) (fun _ => rfl) (fun v u H locs hp hG => ?_)
    subst hp
    refine g_ifeq_b (B := (0 ≤ x ∧ x < NF 4)) (tgt := 21) S dX9_together_14 (by decide) (fun q14 => ?_) (fun q14 => ?_)
    · skip
      refine g_iconst S dX9_together_21 ?_
      refine g_top (w := .int (iI (bI ((0 ≤ y ∧ y < NF 4) ∧ 0 ≤ x ∧ x < NF 4)))) (congrArg (fun z : Int => Value.int (iI z)) ((bI_f (by omega)).symm)) ?_
      exact J22 _ _ _ (lv_sub hl [0, 1, 2] rfl) hG
    · skip
      refine g_iconst S dX9_together_17 ?_
      refine g_top (w := .int (iI (bI ((0 ≤ y ∧ y < NF 4) ∧ 0 ≤ x ∧ x < NF 4)))) (congrArg (fun z : Int => Value.int (iI z)) ((bI_t (by omega)).symm)) ?_
      refine lv_goto (tgt := 22) S.1 S.2.1 dX9_together_18 (by decide) ?_
      exact J22 _ _ _ (lv_sub hl [0, 1, 2] rfl) hG

set_option maxHeartbeats 1000000 in
set_option maxRecDepth 100000 in
theorem c_X9_meanIndex (l : Launch) (K : KC) (am : Nat → Nat) (th : Int) (rw : Nat) (lg : Int) (mr : Int) (en : Int) (pw : Int) (sl : Int) (ly : Int) (dn : Int) (iz : Int) (tz : Int) (nx : Int) (st : Int) (tk : Int) (vl : Int) (ef : Int) (ep : Int) (hO : Int) (hB : Int) (ol : Int) (rm : Int) (oz : Int) (NF : Int → Int) (hN : NOk0 NF) (hN1 : 1 ≤ NF 0) : mG l yX9_meanIndex wsX9_meanIndex 2 45 K [.ref (am 0)] [gMdl K am th rw lg mr en pw sl ly dn iz tz nx st tk vl ef ep hO hB ol rm oz, gArr K 95 rw NF] (fun (v : Value) (u : Unit) => (v = .double (FP.ddiv (FP.i2d (iI (wgN NF (NF 0).toNat))) (FP.i2d (iI (depN NF (NF 0).toNat)))))) (fun (u : Unit) => [gMdl K am 0 rw lg mr en pw sl ly dn iz tz nx st tk vl ef ep hO hB ol rm oz, gArr K 95 rw NF]) 0 0 := by
  refine mG_of cX9_meanIndex 3 (by decide) rfl (Nat.le_of_ble_eq_true rfl) ?_
  intro p e s m below meth c A ls Q S C hG hl hr hlk hin hQ
  have S : CallFix p m c cX9_meanIndex 3 s ([.ref (am 0)] : List Value).toArray wsX9_meanIndex RX9 := S
  have iX90 : ∀ w ∈ wsX90, w ∈ wsX9_meanIndex := fun _ h => List.mem_cons_of_mem _ (List.mem_append_right _ (h))
  have hl : lv_has ls 3 [(0, .ref (am 0))] := hl
  have hG : gW K A s.heap [gMdl K am th rw lg mr en pw sl ly dn iz tz nx st tk vl ef ep hO hB ol rm oz, gArr K 95 rw NF] s.heap [] := hG
  have n0 := hN.1
  have n3 := hN.2.2.2.1
  refine lv_aload_n S.1 S.2.1 dX9_meanIndex_0 rfl (lv_at hl 0 rfl) ?_
  refine g_iconst S dX9_meanIndex_1 ?_
  refine g_put (gs' := [gMdl K am 0 rw lg mr en pw sl ly dn iz tz nx st tk vl ef ep hO hB ol rm oz, gArr K 95 rw NF]) S C hG iX90 tyX9 tyX9_ok nmX9 0 rfl rfl 0 (by decide) (List.mem_of_getElem? (i := 1) rfl) rfl rfl rfl (Nat.le_of_ble_eq_true rfl) rfl dX9_meanIndex_2 (fun H locs hG => ?_)
  refine g_iconst S dX9_meanIndex_5 ?_
  refine lv_istore_n (lv' := [(1, .int (iI 0)), (0, .ref (am 0))]) S.1 S.2.1 dX9_meanIndex_6 rfl hl (by decide) rfl (fun ls hl => ?_)
  refine g_iconst S dX9_meanIndex_7 ?_
  refine lv_istore_n (lv' := [(2, .int (iI 0)), (1, .int (iI 0)), (0, .ref (am 0))]) S.1 S.2.1 dX9_meanIndex_8 rfl hl (by decide) rfl (fun ls hl => ?_)
  have L9 : ∀ (fu : Nat) (k : Nat) (w : Int) (f : Int) (H : Heap) (locs : List Loc) (ls : Array Slot), ((NF 0 - w).toNat) < fu → (w = (k : Int) ∧ w ≤ NF 0) → (f = wgN NF k) → (0 ≤ f ∧ f ≤ 3996000 * w) → lv_has ls 3 [(0, .ref (am 0)), (1, .int (iI f)), (2, .int (iI w))] → gW K A s.heap [gMdl K am 0 rw lg mr en pw sl ly dn iz tz nx st tk vl ef ep hO hB ol rm oz, gArr K 95 rw NF] H locs → W p l e { frames := 2, cells := 0, slots := 0, locals := 45 } s m ([.ref (am 0)] : List Value).toArray below meth c H locs 0 0 Q (F0 m 9 ls []) := by
    intro fu
    induction fu with
    | zero => intro k w f H locs ls hfu; exact absurd hfu (Nat.not_lt_zero _)
    | succ fu ih =>
      intro k w f H locs ls hfu hw hb hf hl hG
      refine lv_iload_n S.1 S.2.1 dX9_meanIndex_9 rfl (lv_at hl 2 rfl) ?_
      refine lv_aload_n S.1 S.2.1 dX9_meanIndex_10 rfl (lv_at hl 0 rfl) ?_
      refine g_invV (As := []) (rest := [.int (iI w)]) (gs' := (fun u : Unit => [gMdl K am 0 rw lg mr en pw sl ly dn iz tz nx st tk vl ef ep hO hB ol rm oz, gArr K 95 rw NF])) S C hG [0, 1] (c_X9_layers l K am 0 rw lg mr en pw sl ly dn iz tz nx st tk vl ef ep hO hB ol rm oz NF) rfl rfl 0 rfl rfl (cwV 0 S.2.2.2.2 gX9_meanIndex_X9_layers rfl rfl rfl (by decide +kernel) ⟨Nat.le_of_ble_eq_true rfl, Nat.le_of_ble_eq_true rfl⟩) rfl hl.1 rfl (Nat.le_of_ble_eq_true rfl) dX9_meanIndex_11 ⟨Nat.le_of_ble_eq_true rfl, Nat.le_of_ble_eq_true rfl⟩ (fun _ => Nat.le_of_ble_eq_true rfl) (fun _ => rfl) (fun v u H locs hp hG => ?_)
      subst hp
      refine g_icmp_ge (tgt := 39) S dX9_meanIndex_14 (by decide) (by omega) (by omega) (fun q14 => ?_) (fun q14 => ?_)
      · skip
        refine lv_iload_n S.1 S.2.1 dX9_meanIndex_39 rfl (lv_at hl 1 rfl) ?_
        refine lv_i2d S.1 S.2.1 dX9_meanIndex_40 ?_
        refine lv_aload_n S.1 S.2.1 dX9_meanIndex_41 rfl (lv_at hl 0 rfl) ?_
        refine lv_aload_n S.1 S.2.1 dX9_meanIndex_42 rfl (lv_at hl 0 rfl) ?_
        refine g_invV (As := []) (rest := [.ref (am 0), .double (FP.i2d (iI f))]) (gs' := (fun u : Unit => [gMdl K am 0 rw lg mr en pw sl ly dn iz tz nx st tk vl ef ep hO hB ol rm oz, gArr K 95 rw NF])) S C hG [0, 1] (c_X9_layers l K am 0 rw lg mr en pw sl ly dn iz tz nx st tk vl ef ep hO hB ol rm oz NF) rfl rfl 0 rfl rfl (cwV 0 S.2.2.2.2 gX9_meanIndex_X9_layers rfl rfl rfl (by decide +kernel) ⟨Nat.le_of_ble_eq_true rfl, Nat.le_of_ble_eq_true rfl⟩) rfl hl.1 rfl (Nat.le_of_ble_eq_true rfl) dX9_meanIndex_43 ⟨Nat.le_of_ble_eq_true rfl, Nat.le_of_ble_eq_true rfl⟩ (fun _ => Nat.le_of_ble_eq_true rfl) (fun _ => rfl) (fun v u H locs hp hG => ?_)
        subst hp
        refine g_invV (As := [.int (iI (NF 0))]) (rest := [.double (FP.i2d (iI f))]) (gs' := (fun u : Unit => [gMdl K am 0 rw lg mr en pw sl ly dn iz tz nx st tk vl ef ep hO hB ol rm oz, gArr K 95 rw NF])) S C hG [0, 1] (c_X9_depthOf l K am 0 rw lg mr en pw sl ly dn iz tz nx st tk vl ef ep hO hB ol rm oz NF (NF 0) hN (by omega)) rfl rfl 0 rfl rfl (cwV 1 S.2.2.2.2 gX9_meanIndex_X9_depthOf rfl rfl rfl (by decide +kernel) ⟨Nat.le_of_ble_eq_true rfl, Nat.le_of_ble_eq_true rfl⟩) rfl hl.1 rfl (Nat.le_of_ble_eq_true rfl) dX9_meanIndex_46 ⟨Nat.le_of_ble_eq_true rfl, Nat.le_of_ble_eq_true rfl⟩ (fun _ => Nat.le_of_ble_eq_true rfl) (fun _ => rfl) (fun v u H locs hp hG => ?_)
        subst hp
        refine lv_i2d S.1 S.2.1 dX9_meanIndex_49 ?_
        have dp := depN_pos hN (NF 0).toNat (by omega) (by omega)
        have db := depN_bd hN (NF 0).toNat (by omega)
        have dz : iI (depN NF (NF 0).toNat) ≠ 0 := iI_ne0 (by omega) (by omega)
        refine lv_ddiv S.1 S.2.1 dX9_meanIndex_50 (nn64 (mean_nn _ dz)) ?_
        have hG : gW K A s.heap [gMdl K am 0 rw lg mr en pw sl ly dn iz tz nx st tk vl ef ep hO hB ol rm oz, gArr K 95 rw NF] _ _ := hG
        exact g_dret S hr hlk hQ dX9_meanIndex_51 (Nat.le_of_ble_eq_true rfl) (Nat.le_of_ble_eq_true rfl) (() : Unit) (by rw [hb, show (NF 0).toNat = k by omega]) hG
      · skip
        refine lv_iload_n S.1 S.2.1 dX9_meanIndex_17 rfl (lv_at hl 1 rfl) ?_
        refine lv_aload_n S.1 S.2.1 dX9_meanIndex_18 rfl (lv_at hl 0 rfl) ?_
        refine lv_iload_n S.1 S.2.1 dX9_meanIndex_19 rfl (lv_at hl 2 rfl) ?_
        refine g_iconst S dX9_meanIndex_20 ?_
        refine g_invV (As := [.int (iI w), .int (iI 0)]) (rest := [.int (iI f)]) (gs' := (fun u : Unit => [gMdl K am 0 rw lg mr en pw sl ly dn iz tz nx st tk vl ef ep hO hB ol rm oz, gArr K 95 rw NF])) S C hG [0, 1] (c_X9_ofLayer l K am 0 rw lg mr en pw sl ly dn iz tz nx st tk vl ef ep hO hB ol rm oz NF w 0 (by omega) (by decide)) rfl rfl 0 rfl rfl (cwV 2 S.2.2.2.2 gX9_meanIndex_X9_ofLayer rfl rfl rfl (by decide +kernel) ⟨Nat.le_of_ble_eq_true rfl, Nat.le_of_ble_eq_true rfl⟩) rfl hl.1 rfl (Nat.le_of_ble_eq_true rfl) dX9_meanIndex_21 ⟨Nat.le_of_ble_eq_true rfl, Nat.le_of_ble_eq_true rfl⟩ (fun _ => Nat.le_of_ble_eq_true rfl) (fun _ => rfl) (fun v u H locs hp hG => ?_)
        subst hp
        refine g_top (w := .int (iI (nX NF (k : Int)))) (congrArg (fun z : Int => Value.int (iI z)) ((by rw [hw.1] <;> rfl))) ?_
        refine lv_aload_n S.1 S.2.1 dX9_meanIndex_24 rfl (lv_at hl 0 rfl) ?_
        refine lv_iload_n S.1 S.2.1 dX9_meanIndex_25 rfl (lv_at hl 2 rfl) ?_
        refine g_iconst S dX9_meanIndex_26 ?_
        refine g_invV (As := [.int (iI w), .int (iI 1)]) (rest := [.int (iI (nX NF (k : Int))), .int (iI f)]) (gs' := (fun u : Unit => [gMdl K am 0 rw lg mr en pw sl ly dn iz tz nx st tk vl ef ep hO hB ol rm oz, gArr K 95 rw NF])) S C hG [0, 1] (c_X9_ofLayer l K am 0 rw lg mr en pw sl ly dn iz tz nx st tk vl ef ep hO hB ol rm oz NF w 1 (by omega) (by decide)) rfl rfl 0 rfl rfl (cwV 2 S.2.2.2.2 gX9_meanIndex_X9_ofLayer rfl rfl rfl (by decide +kernel) ⟨Nat.le_of_ble_eq_true rfl, Nat.le_of_ble_eq_true rfl⟩) rfl hl.1 rfl (Nat.le_of_ble_eq_true rfl) dX9_meanIndex_27 ⟨Nat.le_of_ble_eq_true rfl, Nat.le_of_ble_eq_true rfl⟩ (fun _ => Nat.le_of_ble_eq_true rfl) (fun _ => rfl) (fun v u H locs hp hG => ?_)
        subst hp
        refine g_top (w := .int (iI (dX NF (k : Int)))) (congrArg (fun z : Int => Value.int (iI z)) ((by rw [hw.1] <;> rfl))) ?_
        have ly := lay_bd hN (y := (k : Int)) (by omega) (by omega)
        have m9 : nX NF (k : Int) * dX NF (k : Int) ≤ 4000 * 999 := ml (by omega) (by omega) ly.1.2 ly.2.1.2
        have m8 : 0 ≤ nX NF (k : Int) * dX NF (k : Int) := Int.mul_nonneg (by omega) (by omega)
        refine g_imul S dX9_meanIndex_30 rfl ?_
        refine g_iadd S dX9_meanIndex_31 rfl ?_
        refine lv_istore_n (lv' := [(1, .int (iI (f + ((nX NF (k : Int)) * (dX NF (k : Int)))))), (0, .ref (am 0)), (2, .int (iI w))]) S.1 S.2.1 dX9_meanIndex_32 rfl hl (by decide) rfl (fun ls hl => ?_)
        refine lv_iinc (v := iI (w + 1)) (lv' := [(2, .int (iI (w + 1))), (1, .int (iI (f + ((nX NF (k : Int)) * (dX NF (k : Int)))))), (0, .ref (am 0))]) S.1 S.2.1 dX9_meanIndex_33 hl (k := 2) rfl (g_iinc rfl) (by decide) rfl (fun ls hl => ?_)
        refine lv_goto (tgt := 9) S.1 S.2.1 dX9_meanIndex_36 (by decide) ?_
        exact ih (k + 1) (w + 1) (f + ((nX NF (k : Int)) * (dX NF (k : Int)))) _ _ _ (by omega) ⟨by omega, by omega⟩ (by simp only [wgN] <;> rw [← hb]) (by omega) (lv_sub hl [2, 1, 0] rfl) hG
  exact L9 (Nat.succ ((NF 0 - 0).toNat)) 0 0 0 _ _ _ (Nat.lt_succ_self _) ⟨rfl, by omega⟩ rfl (by omega) (lv_sub hl [2, 1, 0] rfl) hG

set_option maxHeartbeats 1000000 in
set_option maxRecDepth 100000 in
theorem c_X9_share (l : Launch) (K : KC) (am : Nat → Nat) (th : Int) (rw : Nat) (lg : Int) (mr : Int) (en : Int) (pw : Int) (sl : Int) (ly : Int) (dn : Int) (iz : Int) (tz : Int) (nx : Int) (st : Int) (tk : Int) (vl : Int) (ef : Int) (ep : Int) (hO : Int) (hB : Int) (ol : Int) (rm : Int) (oz : Int) (NF : Int → Int) (A0 : Int → Int) (A1 : Int → Int) (A2 : Int → Int) (A3 : Int → Int) (A4 : Int → Int) (A5 : Int → Int) (A6 : Int → Int) (x : Int) (hN : NOk0 NF) (hx : -2147483648 ≤ x ∧ x < 2147483648) : mG l yX9_share wsX9_share 6 135 K [.ref (am 0), .int (iI x)] [gMdl K am th rw lg mr en pw sl ly dn iz tz nx st tk vl ef ep hO hB ol rm oz, gArr K 95 rw NF, gArr K 60 (am 3) A0, gArrZ K 60 (am 4) A1, gArr K 60 (am 5) A2, gArr K 60 (am 6) A3, gArr K 60 (am 7) A4, gArr K 60 (am 8) A5, gArr K 60 (am 9) A6] (fun (v : Value) (u : UInt32 × Int × Int × Int × Int × Int × Int × Int × (Int → Int) × (Int → Int) × (Int → Int) × (Int → Int) × (Int → Int) × (Int → Int) × (Int → Int)) => (v = .float u.1) ∧ (0 ≤ x ∧ x < NF 4 → u.1 = FP.fdiv (FP.i2f (iI (pS NF x))) 1232348160)) (fun (u : UInt32 × Int × Int × Int × Int × Int × Int × Int × (Int → Int) × (Int → Int) × (Int → Int) × (Int → Int) × (Int → Int) × (Int → Int) × (Int → Int)) => [gMdl K am (thr (bI (0 ≤ x ∧ x < NF 4)) 1 1) rw u.2.1 u.2.2.1 u.2.2.2.1 u.2.2.2.2.1 u.2.2.2.2.2.1 u.2.2.2.2.2.2.1 u.2.2.2.2.2.2.2.1 iz tz nx st tk vl ef ep hO hB ol rm oz, gArr K 95 rw NF, gArr K 60 (am 3) u.2.2.2.2.2.2.2.2.1, gArrZ K 60 (am 4) u.2.2.2.2.2.2.2.2.2.1, gArr K 60 (am 5) u.2.2.2.2.2.2.2.2.2.2.1, gArr K 60 (am 6) u.2.2.2.2.2.2.2.2.2.2.2.1, gArr K 60 (am 7) u.2.2.2.2.2.2.2.2.2.2.2.2.1, gArr K 60 (am 8) u.2.2.2.2.2.2.2.2.2.2.2.2.2.1, gArr K 60 (am 9) u.2.2.2.2.2.2.2.2.2.2.2.2.2.2]) 0 0 := by
  refine mG_of cX9_share 2 (by decide) rfl (Nat.le_of_ble_eq_true rfl) ?_
  intro p e s m below meth c A ls Q S C hG hl hr hlk hin hQ
  have S : CallFix p m c cX9_share 2 s ([.ref (am 0), .int (iI x)] : List Value).toArray wsX9_share RX9 := S
  have iX90 : ∀ w ∈ wsX90, w ∈ wsX9_share := fun _ h => List.mem_cons_of_mem _ (List.mem_append_right _ (h))
  have hl : lv_has ls 2 [(0, .ref (am 0)), (1, .int (iI x))] := hl
  have hG : gW K A s.heap [gMdl K am th rw lg mr en pw sl ly dn iz tz nx st tk vl ef ep hO hB ol rm oz, gArr K 95 rw NF, gArr K 60 (am 3) A0, gArrZ K 60 (am 4) A1, gArr K 60 (am 5) A2, gArr K 60 (am 6) A3, gArr K 60 (am 7) A4, gArr K 60 (am 8) A5, gArr K 60 (am 9) A6] s.heap [] := hG
  have n0 := hN.1
  have n3 := hN.2.2.2.1
  refine lv_aload_n S.1 S.2.1 dX9_share_0 rfl (lv_at hl 0 rfl) ?_
  refine lv_aload_n S.1 S.2.1 dX9_share_1 rfl (lv_at hl 0 rfl) ?_
  refine lv_iload_n S.1 S.2.1 dX9_share_2 rfl (lv_at hl 1 rfl) ?_
  refine g_invV (As := [.int (iI x)]) (rest := [.ref (am 0)]) (gs' := (fun u : Unit => [gMdl K am th rw lg mr en pw sl ly dn iz tz nx st tk vl ef ep hO hB ol rm oz, gArr K 95 rw NF, gArr K 60 (am 3) A0, gArrZ K 60 (am 4) A1, gArr K 60 (am 5) A2, gArr K 60 (am 6) A3, gArr K 60 (am 7) A4, gArr K 60 (am 8) A5, gArr K 60 (am 9) A6])) S C hG [0, 1] (c_X9_isShot l K am th rw lg mr en pw sl ly dn iz tz nx st tk vl ef ep hO hB ol rm oz NF x hN hx) rfl rfl 0 rfl rfl (cwV 1 S.2.2.2.2 gX9_share_X9_isShot rfl rfl rfl (by decide +kernel) ⟨Nat.le_of_ble_eq_true rfl, Nat.le_of_ble_eq_true rfl⟩) rfl hl.1 rfl (Nat.le_of_ble_eq_true rfl) dX9_share_3 ⟨Nat.le_of_ble_eq_true rfl, Nat.le_of_ble_eq_true rfl⟩ (fun _ => Nat.le_of_ble_eq_true rfl) (fun _ => rfl) (fun v u H locs hp hG => ?_)
  subst hp
  refine g_invV (As := [.int (iI (bI (0 ≤ x ∧ x < NF 4)))]) (rest := []) (gs' := (fun u : Unit => [gMdl K am (thr (bI (0 ≤ x ∧ x < NF 4)) 1 1) rw lg mr en pw sl ly dn iz tz nx st tk vl ef ep hO hB ol rm oz, gArr K 95 rw NF, gArr K 60 (am 3) A0, gArrZ K 60 (am 4) A1, gArr K 60 (am 5) A2, gArr K 60 (am 6) A3, gArr K 60 (am 7) A4, gArr K 60 (am 8) A5, gArr K 60 (am 9) A6])) S C hG [0] (c_X9_passes l K am th rw lg mr en pw sl ly dn iz tz nx st tk vl ef ep hO hB ol rm oz (bI (0 ≤ x ∧ x < NF 4)) (bI_01 _)) rfl rfl 0 rfl rfl (cwV 1 S.2.2.2.2 gX9_share_X9_passes rfl rfl rfl (by decide +kernel) ⟨Nat.le_of_ble_eq_true rfl, Nat.le_of_ble_eq_true rfl⟩) rfl hl.1 rfl (Nat.le_of_ble_eq_true rfl) dX9_share_6 ⟨Nat.le_of_ble_eq_true rfl, Nat.le_of_ble_eq_true rfl⟩ (fun _ => Nat.le_of_ble_eq_true rfl) (fun _ => rfl) (fun v u H locs hp hG => ?_)
  subst hp
  refine g_ifne_b (B := ((bI (0 ≤ x ∧ x < NF 4)) = 1)) (tgt := 14) S dX9_share_9 (by decide) (fun q9 => ?_) (fun q9 => ?_)
  · skip
    have qa := bI1 q9
    refine lv_aload_n S.1 S.2.1 dX9_share_14 rfl (lv_at hl 0 rfl) ?_
    refine lv_iload_n S.1 S.2.1 dX9_share_15 rfl (lv_at hl 1 rfl) ?_
    refine g_invVv (As := [.int (iI x)]) (rest := []) (gs' := (fun u : Int × Int × Int × Int × Int × Int × Int × (Int → Int) × (Int → Int) × (Int → Int) × (Int → Int) × (Int → Int) × (Int → Int) × (Int → Int) => [gMdl K am (thr (bI (0 ≤ x ∧ x < NF 4)) 1 1) rw u.1 u.2.1 u.2.2.1 u.2.2.2.1 u.2.2.2.2.1 u.2.2.2.2.2.1 u.2.2.2.2.2.2.1 iz tz nx st tk vl ef ep hO hB ol rm oz, gArr K 95 rw NF, gArr K 60 (am 3) u.2.2.2.2.2.2.2.1, gArrZ K 60 (am 4) u.2.2.2.2.2.2.2.2.1, gArr K 60 (am 5) u.2.2.2.2.2.2.2.2.2.1, gArr K 60 (am 6) u.2.2.2.2.2.2.2.2.2.2.1, gArr K 60 (am 7) u.2.2.2.2.2.2.2.2.2.2.2.1, gArr K 60 (am 8) u.2.2.2.2.2.2.2.2.2.2.2.2.1, gArr K 60 (am 9) u.2.2.2.2.2.2.2.2.2.2.2.2.2])) S C hG [0, 1, 2, 3, 4, 5, 6, 7, 8] (c_X9_followShot l K am (thr (bI (0 ≤ x ∧ x < NF 4)) 1 1) rw lg mr en pw sl ly dn iz tz nx st tk vl ef ep hO hB ol rm oz NF A0 A1 A2 A3 A4 A5 A6 x hN qa) rfl rfl 0 rfl rfl (cwV 1 S.2.2.2.2 gX9_share_X9_followShot rfl rfl rfl (by decide +kernel) ⟨Nat.le_of_ble_eq_true rfl, Nat.le_of_ble_eq_true rfl⟩) rfl hl.1 rfl (Nat.le_of_ble_eq_true rfl) dX9_share_16 ⟨Nat.le_of_ble_eq_true rfl, Nat.le_of_ble_eq_true rfl⟩ (fun _ => Nat.le_of_ble_eq_true rfl) (fun _ => rfl) (fun u H locs hp hG => ?_)
    obtain ⟨lg2_16, mr2_16, en2_16, pw2_16, sl2_16, ly2_16, dn2_16, B0_16, B1_16, B2_16, B3_16, B4_16, B5_16, B6_16⟩ := u
    have hf_16 := hp
    have hf_16 : FolS NF x lg2_16 mr2_16 en2_16 pw2_16 B0_16 B1_16 B2_16 B3_16 B4_16 B5_16 B6_16 := hf_16
    have hG : gW K A s.heap [gMdl K am (thr (bI (0 ≤ x ∧ x < NF 4)) 1 1) rw lg2_16 mr2_16 en2_16 pw2_16 sl2_16 ly2_16 dn2_16 iz tz nx st tk vl ef ep hO hB ol rm oz, gArr K 95 rw NF, gArr K 60 (am 3) B0_16, gArrZ K 60 (am 4) B1_16, gArr K 60 (am 5) B2_16, gArr K 60 (am 6) B3_16, gArr K 60 (am 7) B4_16, gArr K 60 (am 8) B5_16, gArr K 60 (am 9) B6_16] _ _ := hG
    have f4 : pw2_16 = pS NF x := hf_16.2.2.2.1
    have f3 : en2_16 = eS NF x := hf_16.2.2.1
    have sb := sho_bd hN qa.1 qa.2
    have fb := hf_16.bd hN sb.2.2.1 sb.2.1
    have e9 : FP.l2f (iL pw2_16) = FP.i2f (iI (pS NF x)) := by rw [f4] <;> exact l2f_small (by omega)
    refine lv_aload_n S.1 S.2.1 dX9_share_19 rfl (lv_at hl 0 rfl) ?_
    refine g_get S C hG iX90 0 rfl rfl 13 (by decide) (List.mem_of_getElem? (i := 1) rfl) rfl dX9_share_20 ?_
    refine g_iconst S dX9_share_23 ?_
    refine g_icmp_ne (tgt := 31) S dX9_share_24 (by decide) (by omega) (by omega) (fun q24 => ?_) (fun q24 => ?_)
    · skip
      refine lv_aload_n S.1 S.2.1 dX9_share_31 rfl (lv_at hl 0 rfl) ?_
      refine g_get S C hG iX90 0 rfl rfl 14 (by decide) (List.mem_of_getElem? (i := 2) rfl) rfl dX9_share_32 ?_
      refine lv_l2f S.1 S.2.1 dX9_share_35 ?_
      refine lv_ldcwf (v := 1232348160) S.1 S.2.1 S.2.2.2.1 (S.2.2.2.2 _ (List.mem_of_getElem? (i := 3) rfl)) dX9_share_36 ?_
      refine lv_fdiv S.1 S.2.1 dX9_share_39 (by rw [e9] <;> exact nn32 (shr_nn _)) ?_
      have hG : gW K A s.heap [gMdl K am (thr (bI (0 ≤ x ∧ x < NF 4)) 1 1) rw lg2_16 mr2_16 en2_16 pw2_16 sl2_16 ly2_16 dn2_16 iz tz nx st tk vl ef ep hO hB ol rm oz, gArr K 95 rw NF, gArr K 60 (am 3) B0_16, gArrZ K 60 (am 4) B1_16, gArr K 60 (am 5) B2_16, gArr K 60 (am 6) B3_16, gArr K 60 (am 7) B4_16, gArr K 60 (am 8) B5_16, gArr K 60 (am 9) B6_16] _ _ := hG
      exact g_fret S hr hlk hQ dX9_share_40 (Nat.le_of_ble_eq_true rfl) (Nat.le_of_ble_eq_true rfl) ((FP.fdiv (FP.l2f (iL pw2_16)) 1232348160, lg2_16, mr2_16, en2_16, pw2_16, sl2_16, ly2_16, dn2_16, B0_16, B1_16, B2_16, B3_16, B4_16, B5_16, B6_16) : UInt32 × Int × Int × Int × Int × Int × Int × Int × (Int → Int) × (Int → Int) × (Int → Int) × (Int → Int) × (Int → Int) × (Int → Int) × (Int → Int)) ⟨rfl, (fun _ => by rw [e9])⟩ hG
    · skip
      refine lv_fconst0 S.1 S.2.1 dX9_share_27 ?_
      refine lv_goto (tgt := 40) S.1 S.2.1 dX9_share_28 (by decide) ?_
      have hG : gW K A s.heap [gMdl K am (thr (bI (0 ≤ x ∧ x < NF 4)) 1 1) rw lg2_16 mr2_16 en2_16 pw2_16 sl2_16 ly2_16 dn2_16 iz tz nx st tk vl ef ep hO hB ol rm oz, gArr K 95 rw NF, gArr K 60 (am 3) B0_16, gArrZ K 60 (am 4) B1_16, gArr K 60 (am 5) B2_16, gArr K 60 (am 6) B3_16, gArr K 60 (am 7) B4_16, gArr K 60 (am 8) B5_16, gArr K 60 (am 9) B6_16] _ _ := hG
      exact g_fret S hr hlk hQ dX9_share_40 (Nat.le_of_ble_eq_true rfl) (Nat.le_of_ble_eq_true rfl) ((0, lg2_16, mr2_16, en2_16, pw2_16, sl2_16, ly2_16, dn2_16, B0_16, B1_16, B2_16, B3_16, B4_16, B5_16, B6_16) : UInt32 × Int × Int × Int × Int × Int × Int × Int × (Int → Int) × (Int → Int) × (Int → Int) × (Int → Int) × (Int → Int) × (Int → Int) × (Int → Int)) ⟨rfl, (fun _ => by rw [pS_none (show eS NF x = 4 by omega)] <;> exact shr0.symm)⟩ hG
  · skip
    refine lv_fconst0 S.1 S.2.1 dX9_share_12 ?_
    have hG : gW K A s.heap [gMdl K am (thr (bI (0 ≤ x ∧ x < NF 4)) 1 1) rw lg mr en pw sl ly dn iz tz nx st tk vl ef ep hO hB ol rm oz, gArr K 95 rw NF, gArr K 60 (am 3) A0, gArrZ K 60 (am 4) A1, gArr K 60 (am 5) A2, gArr K 60 (am 6) A3, gArr K 60 (am 7) A4, gArr K 60 (am 8) A5, gArr K 60 (am 9) A6] _ _ := hG
    exact g_fret S hr hlk hQ dX9_share_13 (Nat.le_of_ble_eq_true rfl) (Nat.le_of_ble_eq_true rfl) ((0, lg, mr, en, pw, sl, ly, dn, A0, A1, A2, A3, A4, A5, A6) : UInt32 × Int × Int × Int × Int × Int × Int × Int × (Int → Int) × (Int → Int) × (Int → Int) × (Int → Int) × (Int → Int) × (Int → Int) × (Int → Int)) ⟨rfl, (fun h => absurd (bI_t h) q9)⟩ hG

set_option maxHeartbeats 1000000 in
set_option maxRecDepth 100000 in
theorem c_X9_keepAside (l : Launch) (K : KC) (am : Nat → Nat) (th : Int) (lg : Int) (mr : Int) (en : Int) (pw : Int) (sl : Int) (ly : Int) (dn : Int) (iz : Int) (tz : Int) (nx : Int) (st : Int) (tk : Int) (vl : Int) (ef : Int) (ep : Int) (hO : Int) (hB : Int) (ol : Int) (rm : Int) (oz : Int) (NF : Int → Int) (GA : Int → Int) : mV l yX9_keepAside wsX9_keepAside 0 0 K [.ref (am 0)] [gMdl K am th (am 1) lg mr en pw sl ly dn iz tz nx st tk vl ef ep hO hB ol rm oz, gArr K 95 (am 1) NF, gArr K 95 (am 14) GA] (fun (u : (Int → Int)) => (u = cpyI NF GA 95)) (fun (u : (Int → Int)) => [gMdl K am th (am 1) lg mr en pw sl ly dn iz tz nx st tk vl ef ep hO hB ol rm oz, gArr K 95 (am 1) NF, gArr K 95 (am 14) u]) 0 0 := by
  refine mV_of cX9_keepAside 2 (by decide) rfl (Nat.le_of_ble_eq_true rfl) ?_
  intro p e s m below meth c A ls Q S C hG hl hr hlk hin hQ
  have S : CallFix p m c cX9_keepAside 2 s ([.ref (am 0)] : List Value).toArray wsX9_keepAside RX9 := S
  have iX90 : ∀ w ∈ wsX90, w ∈ wsX9_keepAside := fun _ h => List.mem_cons_of_mem _ (List.mem_append_right _ (h))
  have hl : lv_has ls 2 [(0, .ref (am 0))] := hl
  have hG : gW K A s.heap [gMdl K am th (am 1) lg mr en pw sl ly dn iz tz nx st tk vl ef ep hO hB ol rm oz, gArr K 95 (am 1) NF, gArr K 95 (am 14) GA] s.heap [] := hG
  refine g_iconst S dX9_keepAside_0 ?_
  refine lv_istore_n (lv' := [(1, .int (iI 0)), (0, .ref (am 0))]) S.1 S.2.1 dX9_keepAside_1 rfl hl (by decide) rfl (fun ls hl => ?_)
  have L2 : ∀ (fu : Nat) (w : Int) (G1 : Int → Int) (H : Heap) (locs : List Loc) (ls : Array Slot), (((95 : Int) - w).toNat) < fu → (0 ≤ w ∧ w ≤ 95) → (∀ j : Int, G1 j = if 0 ≤ j ∧ j < w then NF j else GA j) → lv_has ls 2 [(0, .ref (am 0)), (1, .int (iI w))] → gW K A s.heap [gMdl K am th (am 1) lg mr en pw sl ly dn iz tz nx st tk vl ef ep hO hB ol rm oz, gArr K 95 (am 1) NF, gArr K 95 (am 14) G1] H locs → W p l e { frames := 0, cells := 0, slots := 0, locals := 0 } s m ([.ref (am 0)] : List Value).toArray below meth c H locs 0 0 Q (F0 m 2 ls []) := by
    intro fu
    induction fu with
    | zero => intro w G1 H locs ls hfu; exact absurd hfu (Nat.not_lt_zero _)
    | succ fu ih =>
      intro w G1 H locs ls hfu hw hz hl hG
      refine lv_iload_n S.1 S.2.1 dX9_keepAside_2 rfl (lv_at hl 1 rfl) ?_
      refine g_bipush S dX9_keepAside_3 (by decide) ?_
      refine g_icmp_ge (tgt := 26) S dX9_keepAside_5 (by decide) (by omega) (by omega) (fun q5 => ?_) (fun q5 => ?_)
      · skip
        have hG : gW K A s.heap [gMdl K am th (am 1) lg mr en pw sl ly dn iz tz nx st tk vl ef ep hO hB ol rm oz, gArr K 95 (am 1) NF, gArr K 95 (am 14) G1] _ _ := hG
        exact g_vret S hr hlk hQ dX9_keepAside_26 (Nat.le_of_ble_eq_true rfl) (Nat.le_of_ble_eq_true rfl) ((G1) : (Int → Int)) (funext fun j => by rw [hz j, show w = 95 by omega] <;> rfl) hG
      · skip
        refine lv_aload_n S.1 S.2.1 dX9_keepAside_8 rfl (lv_at hl 0 rfl) ?_
        refine g_get S C hG iX90 0 rfl rfl 33 (by decide) (List.mem_of_getElem? (i := 1) rfl) rfl dX9_keepAside_9 ?_
        refine lv_iload_n S.1 S.2.1 dX9_keepAside_12 rfl (lv_at hl 1 rfl) ?_
        refine lv_aload_n S.1 S.2.1 dX9_keepAside_13 rfl (lv_at hl 0 rfl) ?_
        refine g_get S C hG iX90 0 rfl rfl 1 (by decide) (List.mem_of_getElem? (i := 2) rfl) rfl dX9_keepAside_14 ?_
        refine lv_iload_n S.1 S.2.1 dX9_keepAside_17 rfl (lv_at hl 1 rfl) ?_
        refine g_iald S C hG 1 rfl (by omega) (by omega) (by omega) dX9_keepAside_18 ?_
        refine g_iast (gs' := [gMdl K am th (am 1) lg mr en pw sl ly dn iz tz nx st tk vl ef ep hO hB ol rm oz, gArr K 95 (am 1) NF, gArr K 95 (am 14) (upI G1 w (NF w))]) S C hG 2 rfl (by omega) (by omega) (by omega) rfl dX9_keepAside_19 (fun H locs hG => ?_)
        refine lv_iinc (v := iI (w + 1)) (lv' := [(1, .int (iI (w + 1))), (0, .ref (am 0))]) S.1 S.2.1 dX9_keepAside_20 hl (k := 1) rfl (g_iinc rfl) (by decide) rfl (fun ls hl => ?_)
        refine lv_goto (tgt := 2) S.1 S.2.1 dX9_keepAside_23 (by decide) ?_
        exact ih (w + 1) (upI G1 w (NF w)) _ _ _ (by omega) (by omega) (fun j => by (unfold upI <;> have z1 := hz j <;> (repeat' split) <;> first | (rw [show j = w by omega] <;> done) | omega | (rw [z1] <;> (repeat' split) <;> first | rfl | omega))) (lv_sub hl [1, 0] rfl) hG
  exact L2 (Nat.succ (((95 : Int) - 0).toNat)) 0 GA _ _ _ (Nat.lt_succ_self _) (by omega) (fun j => by rw [if_neg (by omega)]) (lv_sub hl [1, 0] rfl) hG

set_option maxHeartbeats 1000000 in
set_option maxRecDepth 100000 in
theorem c_X9_layBack (l : Launch) (K : KC) (am : Nat → Nat) (th : Int) (lg : Int) (mr : Int) (en : Int) (pw : Int) (sl : Int) (ly : Int) (dn : Int) (iz : Int) (tz : Int) (nx : Int) (st : Int) (tk : Int) (vl : Int) (ef : Int) (ep : Int) (hO : Int) (hB : Int) (ol : Int) (rm : Int) (oz : Int) (NF : Int → Int) (GA : Int → Int) : mV l yX9_layBack wsX9_layBack 0 0 K [.ref (am 0)] [gMdl K am th (am 1) lg mr en pw sl ly dn iz tz nx st tk vl ef ep hO hB ol rm oz, gArr K 95 (am 1) NF, gArr K 95 (am 14) GA] (fun (u : (Int → Int)) => (u = cpyI GA NF 95)) (fun (u : (Int → Int)) => [gMdl K am th (am 1) lg mr en pw sl ly dn iz tz nx st tk vl ef ep hO hB ol rm oz, gArr K 95 (am 1) u, gArr K 95 (am 14) GA]) 0 0 := by
  refine mV_of cX9_layBack 2 (by decide) rfl (Nat.le_of_ble_eq_true rfl) ?_
  intro p e s m below meth c A ls Q S C hG hl hr hlk hin hQ
  have S : CallFix p m c cX9_layBack 2 s ([.ref (am 0)] : List Value).toArray wsX9_layBack RX9 := S
  have iX90 : ∀ w ∈ wsX90, w ∈ wsX9_layBack := fun _ h => List.mem_cons_of_mem _ (List.mem_append_right _ (h))
  have hl : lv_has ls 2 [(0, .ref (am 0))] := hl
  have hG : gW K A s.heap [gMdl K am th (am 1) lg mr en pw sl ly dn iz tz nx st tk vl ef ep hO hB ol rm oz, gArr K 95 (am 1) NF, gArr K 95 (am 14) GA] s.heap [] := hG
  refine g_iconst S dX9_layBack_0 ?_
  refine lv_istore_n (lv' := [(1, .int (iI 0)), (0, .ref (am 0))]) S.1 S.2.1 dX9_layBack_1 rfl hl (by decide) rfl (fun ls hl => ?_)
  have L2 : ∀ (fu : Nat) (w : Int) (F1 : Int → Int) (H : Heap) (locs : List Loc) (ls : Array Slot), (((95 : Int) - w).toNat) < fu → (0 ≤ w ∧ w ≤ 95) → (∀ j : Int, F1 j = if 0 ≤ j ∧ j < w then GA j else NF j) → lv_has ls 2 [(0, .ref (am 0)), (1, .int (iI w))] → gW K A s.heap [gMdl K am th (am 1) lg mr en pw sl ly dn iz tz nx st tk vl ef ep hO hB ol rm oz, gArr K 95 (am 1) F1, gArr K 95 (am 14) GA] H locs → W p l e { frames := 0, cells := 0, slots := 0, locals := 0 } s m ([.ref (am 0)] : List Value).toArray below meth c H locs 0 0 Q (F0 m 2 ls []) := by
    intro fu
    induction fu with
    | zero => intro w F1 H locs ls hfu; exact absurd hfu (Nat.not_lt_zero _)
    | succ fu ih =>
      intro w F1 H locs ls hfu hw hz hl hG
      refine lv_iload_n S.1 S.2.1 dX9_layBack_2 rfl (lv_at hl 1 rfl) ?_
      refine g_bipush S dX9_layBack_3 (by decide) ?_
      refine g_icmp_ge (tgt := 26) S dX9_layBack_5 (by decide) (by omega) (by omega) (fun q5 => ?_) (fun q5 => ?_)
      · skip
        have hG : gW K A s.heap [gMdl K am th (am 1) lg mr en pw sl ly dn iz tz nx st tk vl ef ep hO hB ol rm oz, gArr K 95 (am 1) F1, gArr K 95 (am 14) GA] _ _ := hG
        exact g_vret S hr hlk hQ dX9_layBack_26 (Nat.le_of_ble_eq_true rfl) (Nat.le_of_ble_eq_true rfl) ((F1) : (Int → Int)) (funext fun j => by rw [hz j, show w = 95 by omega] <;> rfl) hG
      · skip
        refine lv_aload_n S.1 S.2.1 dX9_layBack_8 rfl (lv_at hl 0 rfl) ?_
        refine g_get S C hG iX90 0 rfl rfl 1 (by decide) (List.mem_of_getElem? (i := 1) rfl) rfl dX9_layBack_9 ?_
        refine lv_iload_n S.1 S.2.1 dX9_layBack_12 rfl (lv_at hl 1 rfl) ?_
        refine lv_aload_n S.1 S.2.1 dX9_layBack_13 rfl (lv_at hl 0 rfl) ?_
        refine g_get S C hG iX90 0 rfl rfl 33 (by decide) (List.mem_of_getElem? (i := 2) rfl) rfl dX9_layBack_14 ?_
        refine lv_iload_n S.1 S.2.1 dX9_layBack_17 rfl (lv_at hl 1 rfl) ?_
        refine g_iald S C hG 2 rfl (by omega) (by omega) (by omega) dX9_layBack_18 ?_
        refine g_iast (gs' := [gMdl K am th (am 1) lg mr en pw sl ly dn iz tz nx st tk vl ef ep hO hB ol rm oz, gArr K 95 (am 1) (upI F1 w (GA w)), gArr K 95 (am 14) GA]) S C hG 1 rfl (by omega) (by omega) (by omega) rfl dX9_layBack_19 (fun H locs hG => ?_)
        refine lv_iinc (v := iI (w + 1)) (lv' := [(1, .int (iI (w + 1))), (0, .ref (am 0))]) S.1 S.2.1 dX9_layBack_20 hl (k := 1) rfl (g_iinc rfl) (by decide) rfl (fun ls hl => ?_)
        refine lv_goto (tgt := 2) S.1 S.2.1 dX9_layBack_23 (by decide) ?_
        exact ih (w + 1) (upI F1 w (GA w)) _ _ _ (by omega) (by omega) (fun j => by (unfold upI <;> have z1 := hz j <;> (repeat' split) <;> first | (rw [show j = w by omega] <;> done) | omega | (rw [z1] <;> (repeat' split) <;> first | rfl | omega))) (lv_sub hl [1, 0] rfl) hG
  exact L2 (Nat.succ (((95 : Int) - 0).toNat)) 0 NF _ _ _ (Nat.lt_succ_self _) (by omega) (fun j => by rw [if_neg (by omega)]) (lv_sub hl [1, 0] rfl) hG
