set_option maxHeartbeats 1000000 in
set_option maxRecDepth 100000 in
theorem c_X9_guide (l : Launch) (K : KC) (am : Nat → Nat) (th : Int) (rw : Nat) (lg : Int) (mr : Int) (en : Int) (pw : Int) (sl : Int) (ly : Int) (dn : Int) (iz : Int) (tz : Int) (nx : Int) (st : Int) (tk : Int) (vl : Int) (ef : Int) (ep : Int) (hO : Int) (hB : Int) (ol : Int) (rm : Int) (oz : Int) (NF : Int → Int) (A0 : Int → Int) (A1 : Int → Int) (A2 : Int → Int) (A3 : Int → Int) (A4 : Int → Int) (A5 : Int → Int) (A6 : Int → Int) (hN : NOk0 NF) : mG l yX9_guide wsX9_guide 6 139 K [.ref (am 0)] [gMdl K am th rw lg mr en pw sl ly dn iz tz nx st tk vl ef ep hO hB ol rm oz, gArr K 95 rw NF, gArr K 60 (am 3) A0, gArrZ K 60 (am 4) A1, gArr K 60 (am 5) A2, gArr K 60 (am 6) A3, gArr K 60 (am 7) A4, gArr K 60 (am 8) A5, gArr K 60 (am 9) A6] (fun (v : Value) (u : Int × Int × Int × Int × Int × Int × Int × (Int → Int) × (Int → Int) × (Int → Int) × (Int → Int) × (Int → Int) × (Int → Int) × (Int → Int)) => (v = .int (iI ((busN (fun i : Nat => cntS NF (i : Int) 1 3 (nX NF (i : Int)).toNat) (NF 0).toNat).1)))) (fun (u : Int × Int × Int × Int × Int × Int × Int × (Int → Int) × (Int → Int) × (Int → Int) × (Int → Int) × (Int → Int) × (Int → Int) × (Int → Int)) => [gMdl K am 0 rw u.1 u.2.1 u.2.2.1 u.2.2.2.1 u.2.2.2.2.1 u.2.2.2.2.2.1 u.2.2.2.2.2.2.1 iz tz nx st tk vl ef ep hO hB ol rm oz, gArr K 95 rw NF, gArr K 60 (am 3) u.2.2.2.2.2.2.2.1, gArrZ K 60 (am 4) u.2.2.2.2.2.2.2.2.1, gArr K 60 (am 5) u.2.2.2.2.2.2.2.2.2.1, gArr K 60 (am 6) u.2.2.2.2.2.2.2.2.2.2.1, gArr K 60 (am 7) u.2.2.2.2.2.2.2.2.2.2.2.1, gArr K 60 (am 8) u.2.2.2.2.2.2.2.2.2.2.2.2.1, gArr K 60 (am 9) u.2.2.2.2.2.2.2.2.2.2.2.2.2]) 0 0 := by
  refine mG_of cX9_guide 5 (by decide) rfl (Nat.le_of_ble_eq_true rfl) ?_
  intro p e s m below meth c A ls Q S C hG hl hr hlk hin hQ
  have S : CallFix p m c cX9_guide 5 s ([.ref (am 0)] : List Value).toArray wsX9_guide RX9 := S
  have iX90 : ∀ w ∈ wsX90, w ∈ wsX9_guide := fun _ h => List.mem_cons_of_mem _ (List.mem_append_right _ (h))
  have hl : lv_has ls 5 [(0, .ref (am 0))] := hl
  have hG : gW K A s.heap [gMdl K am th rw lg mr en pw sl ly dn iz tz nx st tk vl ef ep hO hB ol rm oz, gArr K 95 rw NF, gArr K 60 (am 3) A0, gArrZ K 60 (am 4) A1, gArr K 60 (am 5) A2, gArr K 60 (am 6) A3, gArr K 60 (am 7) A4, gArr K 60 (am 8) A5, gArr K 60 (am 9) A6] s.heap [] := hG
  have n0 := hN.1
  have n3 := hN.2.2.2.1
  refine lv_aload_n S.1 S.2.1 dX9_guide_0 rfl (lv_at hl 0 rfl) ?_
  refine g_iconst S dX9_guide_1 ?_
  refine g_put (gs' := [gMdl K am 0 rw lg mr en pw sl ly dn iz tz nx st tk vl ef ep hO hB ol rm oz, gArr K 95 rw NF, gArr K 60 (am 3) A0, gArrZ K 60 (am 4) A1, gArr K 60 (am 5) A2, gArr K 60 (am 6) A3, gArr K 60 (am 7) A4, gArr K 60 (am 8) A5, gArr K 60 (am 9) A6]) S C hG iX90 tyX9 tyX9_ok nmX9 0 rfl rfl 0 (by decide) (List.mem_of_getElem? (i := 1) rfl) rfl rfl rfl (Nat.le_of_ble_eq_true rfl) rfl dX9_guide_2 (fun H locs hG => ?_)
  refine g_iconst S dX9_guide_5 ?_
  refine lv_istore_n (lv' := [(1, .int (iI (-1))), (0, .ref (am 0))]) S.1 S.2.1 dX9_guide_6 rfl hl (by decide) rfl (fun ls hl => ?_)
  refine g_iconst S dX9_guide_7 ?_
  refine lv_istore_n (lv' := [(2, .int (iI 0)), (1, .int (iI (-1))), (0, .ref (am 0))]) S.1 S.2.1 dX9_guide_8 rfl hl (by decide) rfl (fun ls hl => ?_)
  refine g_iconst S dX9_guide_9 ?_
  refine lv_istore_n (lv' := [(3, .int (iI 0)), (2, .int (iI 0)), (1, .int (iI (-1))), (0, .ref (am 0))]) S.1 S.2.1 dX9_guide_10 rfl hl (by decide) rfl (fun ls hl => ?_)
  have L11 : ∀ (fu : Nat) (k : Nat) (w : Int) (bb : Int) (mm : Int) (lg1 : Int) (mr1 : Int) (en1 : Int) (pw1 : Int) (sl1 : Int) (ly1 : Int) (dn1 : Int) (E0 : Int → Int) (E1 : Int → Int) (E2 : Int → Int) (E3 : Int → Int) (E4 : Int → Int) (E5 : Int → Int) (E6 : Int → Int) (H : Heap) (locs : List Loc) (ls : Array Slot), ((NF 0 - w).toNat) < fu → (w = (k : Int) ∧ w ≤ NF 0) → (bb = (busN (fun i : Nat => cntS NF (i : Int) 1 3 (nX NF (i : Int)).toNat) k).1 ∧ mm = (busN (fun i : Nat => cntS NF (i : Int) 1 3 (nX NF (i : Int)).toNat) k).2) → (0 ≤ mm ∧ mm ≤ 4000 ∧ -1 ≤ bb ∧ bb ≤ 10) → lv_has ls 5 [(0, .ref (am 0)), (1, .int (iI bb)), (2, .int (iI mm)), (3, .int (iI w))] → gW K A s.heap [gMdl K am 0 rw lg1 mr1 en1 pw1 sl1 ly1 dn1 iz tz nx st tk vl ef ep hO hB ol rm oz, gArr K 95 rw NF, gArr K 60 (am 3) E0, gArrZ K 60 (am 4) E1, gArr K 60 (am 5) E2, gArr K 60 (am 6) E3, gArr K 60 (am 7) E4, gArr K 60 (am 8) E5, gArr K 60 (am 9) E6] H locs → W p l e { frames := 6, cells := 0, slots := 0, locals := 139 } s m ([.ref (am 0)] : List Value).toArray below meth c H locs 0 0 Q (F0 m 11 ls []) := by
    intro fu
    induction fu with
    | zero => intro k w bb mm lg1 mr1 en1 pw1 sl1 ly1 dn1 E0 E1 E2 E3 E4 E5 E6 H locs ls hfu; exact absurd hfu (Nat.not_lt_zero _)
    | succ fu ih =>
      intro k w bb mm lg1 mr1 en1 pw1 sl1 ly1 dn1 E0 E1 E2 E3 E4 E5 E6 H locs ls hfu hw hb hm hl hG
      refine lv_iload_n S.1 S.2.1 dX9_guide_11 rfl (lv_at hl 3 rfl) ?_
      refine lv_aload_n S.1 S.2.1 dX9_guide_12 rfl (lv_at hl 0 rfl) ?_
      refine g_invV (As := []) (rest := [.int (iI w)]) (gs' := (fun u : Unit => [gMdl K am 0 rw lg1 mr1 en1 pw1 sl1 ly1 dn1 iz tz nx st tk vl ef ep hO hB ol rm oz, gArr K 95 rw NF, gArr K 60 (am 3) E0, gArrZ K 60 (am 4) E1, gArr K 60 (am 5) E2, gArr K 60 (am 6) E3, gArr K 60 (am 7) E4, gArr K 60 (am 8) E5, gArr K 60 (am 9) E6])) S C hG [0, 1] (c_X9_layers l K am 0 rw lg1 mr1 en1 pw1 sl1 ly1 dn1 iz tz nx st tk vl ef ep hO hB ol rm oz NF) rfl rfl 0 rfl rfl (cwV 0 S.2.2.2.2 gX9_guide_X9_layers rfl rfl rfl (by decide +kernel) ⟨Nat.le_of_ble_eq_true rfl, Nat.le_of_ble_eq_true rfl⟩) rfl hl.1 rfl (Nat.le_of_ble_eq_true rfl) dX9_guide_13 ⟨Nat.le_of_ble_eq_true rfl, Nat.le_of_ble_eq_true rfl⟩ (fun _ => Nat.le_of_ble_eq_true rfl) (fun _ => rfl) (fun v u H locs hp hG => ?_)
      subst hp
      refine g_icmp_ge (tgt := 53) S dX9_guide_16 (by decide) (by omega) (by omega) (fun q16 => ?_) (fun q16 => ?_)
      · skip
        refine lv_iload_n S.1 S.2.1 dX9_guide_53 rfl (lv_at hl 1 rfl) ?_
        have hG : gW K A s.heap [gMdl K am 0 rw lg1 mr1 en1 pw1 sl1 ly1 dn1 iz tz nx st tk vl ef ep hO hB ol rm oz, gArr K 95 rw NF, gArr K 60 (am 3) E0, gArrZ K 60 (am 4) E1, gArr K 60 (am 5) E2, gArr K 60 (am 6) E3, gArr K 60 (am 7) E4, gArr K 60 (am 8) E5, gArr K 60 (am 9) E6] _ _ := hG
        exact g_iret S hr hlk hQ dX9_guide_54 (Nat.le_of_ble_eq_true rfl) (Nat.le_of_ble_eq_true rfl) ((lg1, mr1, en1, pw1, sl1, ly1, dn1, E0, E1, E2, E3, E4, E5, E6) : Int × Int × Int × Int × Int × Int × Int × (Int → Int) × (Int → Int) × (Int → Int) × (Int → Int) × (Int → Int) × (Int → Int) × (Int → Int)) (congrArg (fun z : Int => Value.int (iI z)) (by rw [hb.1, show (NF 0).toNat = k by omega])) hG
      · skip
        refine lv_aload_n S.1 S.2.1 dX9_guide_19 rfl (lv_at hl 0 rfl) ?_
        refine lv_iload_n S.1 S.2.1 dX9_guide_20 rfl (lv_at hl 3 rfl) ?_
        refine g_iconst S dX9_guide_21 ?_
        refine g_iconst S dX9_guide_22 ?_
        refine g_invV (As := [.int (iI w), .int (iI 1), .int (iI 3)]) (rest := []) (gs' := (fun u : Int × Int × Int × Int × Int × Int × Int × (Int → Int) × (Int → Int) × (Int → Int) × (Int → Int) × (Int → Int) × (Int → Int) × (Int → Int) => [gMdl K am 0 rw u.1 u.2.1 u.2.2.1 u.2.2.2.1 u.2.2.2.2.1 u.2.2.2.2.2.1 u.2.2.2.2.2.2.1 iz tz nx st tk vl ef ep hO hB ol rm oz, gArr K 95 rw NF, gArr K 60 (am 3) u.2.2.2.2.2.2.2.1, gArrZ K 60 (am 4) u.2.2.2.2.2.2.2.2.1, gArr K 60 (am 5) u.2.2.2.2.2.2.2.2.2.1, gArr K 60 (am 6) u.2.2.2.2.2.2.2.2.2.2.1, gArr K 60 (am 7) u.2.2.2.2.2.2.2.2.2.2.2.1, gArr K 60 (am 8) u.2.2.2.2.2.2.2.2.2.2.2.2.1, gArr K 60 (am 9) u.2.2.2.2.2.2.2.2.2.2.2.2.2])) S C hG [0, 1, 2, 3, 4, 5, 6, 7, 8] (c_X9_slantsOf l K am 0 rw lg1 mr1 en1 pw1 sl1 ly1 dn1 iz tz nx st tk vl ef ep hO hB ol rm oz NF E0 E1 E2 E3 E4 E5 E6 w 1 3 hN (by omega) (Or.inr rfl) (by decide) ⟨by omega, by omega⟩) rfl rfl 0 rfl rfl (cwV 3 S.2.2.2.2 gX9_guide_X9_slantsOf rfl rfl rfl (by decide +kernel) ⟨Nat.le_of_ble_eq_true rfl, Nat.le_of_ble_eq_true rfl⟩) rfl hl.1 rfl (Nat.le_of_ble_eq_true rfl) dX9_guide_23 ⟨Nat.le_of_ble_eq_true rfl, Nat.le_of_ble_eq_true rfl⟩ (fun _ => Nat.le_of_ble_eq_true rfl) (fun _ => rfl) (fun v u H locs hp hG => ?_)
        obtain ⟨lg2_23, mr2_23, en2_23, pw2_23, sl2_23, ly2_23, dn2_23, B0_23, B1_23, B2_23, B3_23, B4_23, B5_23, B6_23⟩ := u
        subst hp
        have hG : gW K A s.heap [gMdl K am 0 rw lg2_23 mr2_23 en2_23 pw2_23 sl2_23 ly2_23 dn2_23 iz tz nx st tk vl ef ep hO hB ol rm oz, gArr K 95 rw NF, gArr K 60 (am 3) B0_23, gArrZ K 60 (am 4) B1_23, gArr K 60 (am 5) B2_23, gArr K 60 (am 6) B3_23, gArr K 60 (am 7) B4_23, gArr K 60 (am 8) B5_23, gArr K 60 (am 9) B6_23] _ _ := hG
        have c9 := cntS_bd NF (k : Int) 1 3 (nX NF (k : Int)).toNat
        have nx := (lay_bd hN (y := (k : Int)) (by omega) (by omega)).1
        refine g_top (w := .int (iI (cntS NF (k : Int) 1 3 (nX NF (k : Int)).toNat))) (congrArg (fun z : Int => Value.int (iI z)) ((by rw [hw.1]))) ?_
        refine lv_istore (lv' := [(4, .int (iI (cntS NF (k : Int) 1 3 (nX NF (k : Int)).toNat))), (0, .ref (am 0)), (1, .int (iI bb)), (2, .int (iI mm)), (3, .int (iI w))]) S.1 S.2.1 dX9_guide_26 hl (by decide) rfl (fun ls hl => ?_)
        refine lv_iload S.1 S.2.1 dX9_guide_28 (lv_at hl 0 rfl) ?_
        refine lv_iload_n S.1 S.2.1 dX9_guide_30 rfl (lv_at hl 3 rfl) ?_
        refine g_icmp_le (tgt := 38) S dX9_guide_31 (by decide) (by omega) (by omega) (fun q31 => ?_) (fun q31 => ?_)
        · skip
          refine lv_iload_n S.1 S.2.1 dX9_guide_38 rfl (lv_at hl 2 rfl) ?_
          refine lv_istore_n (lv' := [(1, .int (iI bb)), (4, .int (iI (cntS NF (k : Int) 1 3 (nX NF (k : Int)).toNat))), (0, .ref (am 0)), (2, .int (iI mm)), (3, .int (iI w))]) S.1 S.2.1 dX9_guide_39 rfl hl (by decide) rfl (fun ls hl => ?_)
          refine lv_iload_n S.1 S.2.1 dX9_guide_40 rfl (lv_at hl 3 rfl) ?_
          refine lv_iload S.1 S.2.1 dX9_guide_41 (lv_at hl 1 rfl) ?_
          refine va_mmax S.1 S.2.1 (by rw [S.2.2.1]; exact hl.1.symm) S.2.2.2.1 (S.2.2.2.2 _ (List.mem_of_getElem? (i := 2) rfl)) (S.2.2.2.2 _ (List.mem_of_getElem? (i := 3) rfl)) (S.2.2.2.2 _ (List.mem_of_getElem? (i := 4) rfl)) (S.2.2.2.2 _ (List.mem_of_getElem? (i := 5) rfl)) (Nat.le_of_ble_eq_true rfl) (Nat.le_of_ble_eq_true rfl) (Nat.le_of_ble_eq_true rfl) (Nat.le_of_ble_eq_true rfl) dX9_guide_43 ?_
          refine g_top (w := .int (iI (max mm (cntS NF (k : Int) 1 3 (nX NF (k : Int)).toNat)))) (imax_eq (by omega) (by omega)) ?_
          refine lv_istore_n (lv' := [(2, .int (iI (max mm (cntS NF (k : Int) 1 3 (nX NF (k : Int)).toNat)))), (1, .int (iI bb)), (4, .int (iI (cntS NF (k : Int) 1 3 (nX NF (k : Int)).toNat))), (0, .ref (am 0)), (3, .int (iI w))]) S.1 S.2.1 dX9_guide_46 rfl hl (by decide) rfl (fun ls hl => ?_)
          refine lv_iinc (v := iI (w + 1)) (lv' := [(3, .int (iI (w + 1))), (2, .int (iI (max mm (cntS NF (k : Int) 1 3 (nX NF (k : Int)).toNat)))), (1, .int (iI bb)), (4, .int (iI (cntS NF (k : Int) 1 3 (nX NF (k : Int)).toNat))), (0, .ref (am 0))]) S.1 S.2.1 dX9_guide_47 hl (k := 4) rfl (g_iinc rfl) (by decide) rfl (fun ls hl => ?_)
          refine lv_goto (tgt := 11) S.1 S.2.1 dX9_guide_50 (by decide) ?_
          exact ih (k + 1) (w + 1) bb (max mm (cntS NF (k : Int) 1 3 (nX NF (k : Int)).toNat)) lg2_23 mr2_23 en2_23 pw2_23 sl2_23 ly2_23 dn2_23 B0_23 B1_23 B2_23 B3_23 B4_23 B5_23 B6_23 _ _ _ (by omega) ⟨by omega, by omega⟩ (by have u8 := busN_f (fun i : Nat => cntS NF (i : Int) 1 3 (nX NF (i : Int)).toNat) k (by omega) <;> rw [u8] <;> exact ⟨hb.1, by omega⟩) (by omega) (lv_sub hl [4, 2, 1, 0] rfl) hG
        · skip
          refine lv_iload_n S.1 S.2.1 dX9_guide_34 rfl (lv_at hl 4 rfl) ?_
          refine lv_goto (tgt := 39) S.1 S.2.1 dX9_guide_35 (by decide) ?_
          refine lv_istore_n (lv' := [(1, .int (iI w)), (4, .int (iI (cntS NF (k : Int) 1 3 (nX NF (k : Int)).toNat))), (0, .ref (am 0)), (2, .int (iI mm)), (3, .int (iI w))]) S.1 S.2.1 dX9_guide_39 rfl hl (by decide) rfl (fun ls hl => ?_)
          refine lv_iload_n S.1 S.2.1 dX9_guide_40 rfl (lv_at hl 3 rfl) ?_
          refine lv_iload S.1 S.2.1 dX9_guide_41 (lv_at hl 1 rfl) ?_
          refine va_mmax S.1 S.2.1 (by rw [S.2.2.1]; exact hl.1.symm) S.2.2.2.1 (S.2.2.2.2 _ (List.mem_of_getElem? (i := 2) rfl)) (S.2.2.2.2 _ (List.mem_of_getElem? (i := 3) rfl)) (S.2.2.2.2 _ (List.mem_of_getElem? (i := 4) rfl)) (S.2.2.2.2 _ (List.mem_of_getElem? (i := 5) rfl)) (Nat.le_of_ble_eq_true rfl) (Nat.le_of_ble_eq_true rfl) (Nat.le_of_ble_eq_true rfl) (Nat.le_of_ble_eq_true rfl) dX9_guide_43 ?_
          refine g_top (w := .int (iI (max mm (cntS NF (k : Int) 1 3 (nX NF (k : Int)).toNat)))) (imax_eq (by omega) (by omega)) ?_
          refine lv_istore_n (lv' := [(2, .int (iI (max mm (cntS NF (k : Int) 1 3 (nX NF (k : Int)).toNat)))), (1, .int (iI w)), (4, .int (iI (cntS NF (k : Int) 1 3 (nX NF (k : Int)).toNat))), (0, .ref (am 0)), (3, .int (iI w))]) S.1 S.2.1 dX9_guide_46 rfl hl (by decide) rfl (fun ls hl => ?_)
          refine lv_iinc (v := iI (w + 1)) (lv' := [(3, .int (iI (w + 1))), (2, .int (iI (max mm (cntS NF (k : Int) 1 3 (nX NF (k : Int)).toNat)))), (1, .int (iI w)), (4, .int (iI (cntS NF (k : Int) 1 3 (nX NF (k : Int)).toNat))), (0, .ref (am 0))]) S.1 S.2.1 dX9_guide_47 hl (k := 4) rfl (g_iinc rfl) (by decide) rfl (fun ls hl => ?_)
          refine lv_goto (tgt := 11) S.1 S.2.1 dX9_guide_50 (by decide) ?_
          exact ih (k + 1) (w + 1) w (max mm (cntS NF (k : Int) 1 3 (nX NF (k : Int)).toNat)) lg2_23 mr2_23 en2_23 pw2_23 sl2_23 ly2_23 dn2_23 B0_23 B1_23 B2_23 B3_23 B4_23 B5_23 B6_23 _ _ _ (by omega) ⟨by omega, by omega⟩ (by have u8 := busN_t (fun i : Nat => cntS NF (i : Int) 1 3 (nX NF (i : Int)).toNat) k (by omega) <;> rw [u8] <;> exact ⟨hw.1, by (show max mm _ = _) <;> omega⟩) (by omega) (lv_sub hl [4, 2, 1, 0] rfl) hG
  exact L11 (Nat.succ ((NF 0 - 0).toNat)) 0 0 (-1) 0 lg mr en pw sl ly dn A0 A1 A2 A3 A4 A5 A6 _ _ _ (Nat.lt_succ_self _) ⟨rfl, by omega⟩ ⟨rfl, rfl⟩ (by omega) (lv_sub hl [3, 2, 1, 0] rfl) hG

set_option maxHeartbeats 1000000 in
set_option maxRecDepth 100000 in
theorem c_X9_count (l : Launch) (K : KC) (am : Nat → Nat) (th : Int) (rw : Nat) (lg : Int) (mr : Int) (en : Int) (pw : Int) (sl : Int) (ly : Int) (dn : Int) (iz : Int) (tz : Int) (nx : Int) (st : Int) (tk : Int) (vl : Int) (ef : Int) (ep : Int) (hO : Int) (hB : Int) (ol : Int) (rm : Int) (oz : Int) (NF : Int → Int) (A0 : Int → Int) (A1 : Int → Int) (A2 : Int → Int) (A3 : Int → Int) (A4 : Int → Int) (A5 : Int → Int) (A6 : Int → Int) (x : Int) (hN : NOk0 NF) (hx : -2147483648 ≤ x ∧ x < 2147483648) : mG l yX9_count wsX9_count 7 156 K [.ref (am 0), .int (iI x)] [gMdl K am th rw lg mr en pw sl ly dn iz tz nx st tk vl ef ep hO hB ol rm oz, gArr K 95 rw NF, gArr K 60 (am 3) A0, gArrZ K 60 (am 4) A1, gArr K 60 (am 5) A2, gArr K 60 (am 6) A3, gArr K 60 (am 7) A4, gArr K 60 (am 8) A5, gArr K 60 (am 9) A6] (fun (v : Value) (u : Int × Int × Int × Int × Int × Int × Int × Int × (Int → Int) × (Int → Int) × (Int → Int) × (Int → Int) × (Int → Int) × (Int → Int) × (Int → Int)) => (v = .int (iI u.1)) ∧ (0 ≤ x ∧ x ≤ 4 → u.1 = cntB (fun i : Nat => decide (eS NF (i : Int) = x)) (NF 4).toNat)) (fun (u : Int × Int × Int × Int × Int × Int × Int × Int × (Int → Int) × (Int → Int) × (Int → Int) × (Int → Int) × (Int → Int) × (Int → Int) × (Int → Int)) => [gMdl K am (thr (bI (0 ≤ x ∧ x ≤ 4)) 1 1) rw u.2.1 u.2.2.1 u.2.2.2.1 u.2.2.2.2.1 u.2.2.2.2.2.1 u.2.2.2.2.2.2.1 u.2.2.2.2.2.2.2.1 iz tz nx st tk vl ef ep hO hB ol rm oz, gArr K 95 rw NF, gArr K 60 (am 3) u.2.2.2.2.2.2.2.2.1, gArrZ K 60 (am 4) u.2.2.2.2.2.2.2.2.2.1, gArr K 60 (am 5) u.2.2.2.2.2.2.2.2.2.2.1, gArr K 60 (am 6) u.2.2.2.2.2.2.2.2.2.2.2.1, gArr K 60 (am 7) u.2.2.2.2.2.2.2.2.2.2.2.2.1, gArr K 60 (am 8) u.2.2.2.2.2.2.2.2.2.2.2.2.2.1, gArr K 60 (am 9) u.2.2.2.2.2.2.2.2.2.2.2.2.2.2]) 0 0 := by
  refine mG_of cX9_count 4 (by decide) rfl (Nat.le_of_ble_eq_true rfl) ?_
  intro p e s m below meth c A ls Q S C hG hl hr hlk hin hQ
  have S : CallFix p m c cX9_count 4 s ([.ref (am 0), .int (iI x)] : List Value).toArray wsX9_count RX9 := S
  have iX90 : ∀ w ∈ wsX90, w ∈ wsX9_count := fun _ h => List.mem_cons_of_mem _ (List.mem_append_right _ (h))
  have hl : lv_has ls 4 [(0, .ref (am 0)), (1, .int (iI x))] := hl
  have hG : gW K A s.heap [gMdl K am th rw lg mr en pw sl ly dn iz tz nx st tk vl ef ep hO hB ol rm oz, gArr K 95 rw NF, gArr K 60 (am 3) A0, gArrZ K 60 (am 4) A1, gArr K 60 (am 5) A2, gArr K 60 (am 6) A3, gArr K 60 (am 7) A4, gArr K 60 (am 8) A5, gArr K 60 (am 9) A6] s.heap [] := hG
  have n0 := hN.1
  have n3 := hN.2.2.2.1
  refine lv_aload_n S.1 S.2.1 dX9_count_0 rfl (lv_at hl 0 rfl) ?_
  refine lv_iload_n S.1 S.2.1 dX9_count_1 rfl (lv_at hl 1 rfl) ?_
  refine g_i2l S dX9_count_2 (by omega) ?_
  refine g_lconst (z := 0) S dX9_count_3 rfl ?_
  refine g_ldc2 (z := 4) S dX9_count_4 (List.mem_of_getElem? (i := 1) rfl) rfl ?_
  refine g_invS (As := [.long (iL x), .long (iL 0), .long (iL 4)]) (rest := [.ref (am 0)]) (gs' := (fun u : Unit => [gMdl K am th rw lg mr en pw sl ly dn iz tz nx st tk vl ef ep hO hB ol rm oz, gArr K 95 rw NF, gArr K 60 (am 3) A0, gArrZ K 60 (am 4) A1, gArr K 60 (am 5) A2, gArr K 60 (am 6) A3, gArr K 60 (am 7) A4, gArr K 60 (am 8) A5, gArr K 60 (am 9) A6])) S C hG [] (c_X9_in l K x 0 4 (by omega) (by omega) (by omega)) rfl rfl (va_cwS 3 S.2.2.2.2 gX9_count_X9_in rfl rfl rfl (by decide +kernel) ⟨Nat.le_of_ble_eq_true rfl, Nat.le_of_ble_eq_true rfl⟩) rfl hl.1 rfl (Nat.le_of_ble_eq_true rfl) dX9_count_7 ⟨Nat.le_of_ble_eq_true rfl, Nat.le_of_ble_eq_true rfl⟩ (fun _ => Nat.le_of_ble_eq_true rfl) (fun _ => rfl) (fun v u H locs hp hG => ?_)
  subst hp
  refine g_invV (As := [.int (iI (bI (0 ≤ x ∧ x ≤ 4)))]) (rest := []) (gs' := (fun u : Unit => [gMdl K am (thr (bI (0 ≤ x ∧ x ≤ 4)) 1 1) rw lg mr en pw sl ly dn iz tz nx st tk vl ef ep hO hB ol rm oz, gArr K 95 rw NF, gArr K 60 (am 3) A0, gArrZ K 60 (am 4) A1, gArr K 60 (am 5) A2, gArr K 60 (am 6) A3, gArr K 60 (am 7) A4, gArr K 60 (am 8) A5, gArr K 60 (am 9) A6])) S C hG [0] (c_X9_passes l K am th rw lg mr en pw sl ly dn iz tz nx st tk vl ef ep hO hB ol rm oz (bI (0 ≤ x ∧ x ≤ 4)) (bI_01 _)) rfl rfl 0 rfl rfl (cwV 1 S.2.2.2.2 gX9_count_X9_passes rfl rfl rfl (by decide +kernel) ⟨Nat.le_of_ble_eq_true rfl, Nat.le_of_ble_eq_true rfl⟩) rfl hl.1 rfl (Nat.le_of_ble_eq_true rfl) dX9_count_10 ⟨Nat.le_of_ble_eq_true rfl, Nat.le_of_ble_eq_true rfl⟩ (fun _ => Nat.le_of_ble_eq_true rfl) (fun _ => rfl) (fun v u H locs hp hG => ?_)
  subst hp
  refine g_ifne_b (B := ((bI (0 ≤ x ∧ x ≤ 4)) = 1)) (tgt := 18) S dX9_count_13 (by decide) (fun q13 => ?_) (fun q13 => ?_)
  · skip
    have qa := bI1 q13
    refine g_iconst S dX9_count_18 ?_
    refine lv_istore_n (lv' := [(2, .int (iI 0)), (0, .ref (am 0)), (1, .int (iI x))]) S.1 S.2.1 dX9_count_19 rfl hl (by decide) rfl (fun ls hl => ?_)
    refine g_iconst S dX9_count_20 ?_
    refine lv_istore_n (lv' := [(3, .int (iI 0)), (2, .int (iI 0)), (0, .ref (am 0)), (1, .int (iI x))]) S.1 S.2.1 dX9_count_21 rfl hl (by decide) rfl (fun ls hl => ?_)
    have L22 : ∀ (fu : Nat) (k : Nat) (w : Int) (f : Int) (lg1 : Int) (mr1 : Int) (en1 : Int) (pw1 : Int) (sl1 : Int) (ly1 : Int) (dn1 : Int) (E0 : Int → Int) (E1 : Int → Int) (E2 : Int → Int) (E3 : Int → Int) (E4 : Int → Int) (E5 : Int → Int) (E6 : Int → Int) (H : Heap) (locs : List Loc) (ls : Array Slot), ((NF 4 - w).toNat) < fu → (w = (k : Int) ∧ w ≤ NF 4) → (f = cntB (fun i : Nat => decide (eS NF (i : Int) = x)) k) → (0 ≤ f ∧ f ≤ w) → lv_has ls 4 [(0, .ref (am 0)), (1, .int (iI x)), (2, .int (iI f)), (3, .int (iI w))] → gW K A s.heap [gMdl K am (thr (bI (0 ≤ x ∧ x ≤ 4)) 1 1) rw lg1 mr1 en1 pw1 sl1 ly1 dn1 iz tz nx st tk vl ef ep hO hB ol rm oz, gArr K 95 rw NF, gArr K 60 (am 3) E0, gArrZ K 60 (am 4) E1, gArr K 60 (am 5) E2, gArr K 60 (am 6) E3, gArr K 60 (am 7) E4, gArr K 60 (am 8) E5, gArr K 60 (am 9) E6] H locs → W p l e { frames := 7, cells := 0, slots := 0, locals := 156 } s m ([.ref (am 0), .int (iI x)] : List Value).toArray below meth c H locs 0 0 Q (F0 m 22 ls []) := by
      intro fu
      induction fu with
      | zero => intro k w f lg1 mr1 en1 pw1 sl1 ly1 dn1 E0 E1 E2 E3 E4 E5 E6 H locs ls hfu; exact absurd hfu (Nat.not_lt_zero _)
      | succ fu ih =>
        intro k w f lg1 mr1 en1 pw1 sl1 ly1 dn1 E0 E1 E2 E3 E4 E5 E6 H locs ls hfu hw hb hf hl hG
        refine lv_iload_n S.1 S.2.1 dX9_count_22 rfl (lv_at hl 3 rfl) ?_
        refine lv_aload_n S.1 S.2.1 dX9_count_23 rfl (lv_at hl 0 rfl) ?_
        refine g_invV (As := []) (rest := [.int (iI w)]) (gs' := (fun u : Unit => [gMdl K am (thr (bI (0 ≤ x ∧ x ≤ 4)) 1 1) rw lg1 mr1 en1 pw1 sl1 ly1 dn1 iz tz nx st tk vl ef ep hO hB ol rm oz, gArr K 95 rw NF, gArr K 60 (am 3) E0, gArrZ K 60 (am 4) E1, gArr K 60 (am 5) E2, gArr K 60 (am 6) E3, gArr K 60 (am 7) E4, gArr K 60 (am 8) E5, gArr K 60 (am 9) E6])) S C hG [0, 1] (c_X9_shots l K am (thr (bI (0 ≤ x ∧ x ≤ 4)) 1 1) rw lg1 mr1 en1 pw1 sl1 ly1 dn1 iz tz nx st tk vl ef ep hO hB ol rm oz NF) rfl rfl 0 rfl rfl (cwV 0 S.2.2.2.2 gX9_count_X9_shots rfl rfl rfl (by decide +kernel) ⟨Nat.le_of_ble_eq_true rfl, Nat.le_of_ble_eq_true rfl⟩) rfl hl.1 rfl (Nat.le_of_ble_eq_true rfl) dX9_count_24 ⟨Nat.le_of_ble_eq_true rfl, Nat.le_of_ble_eq_true rfl⟩ (fun _ => Nat.le_of_ble_eq_true rfl) (fun _ => rfl) (fun v u H locs hp hG => ?_)
        subst hp
        refine g_icmp_ge (tgt := 53) S dX9_count_27 (by decide) (by omega) (by omega) (fun q27 => ?_) (fun q27 => ?_)
        · skip
          refine lv_iload_n S.1 S.2.1 dX9_count_53 rfl (lv_at hl 2 rfl) ?_
          have hG : gW K A s.heap [gMdl K am (thr (bI (0 ≤ x ∧ x ≤ 4)) 1 1) rw lg1 mr1 en1 pw1 sl1 ly1 dn1 iz tz nx st tk vl ef ep hO hB ol rm oz, gArr K 95 rw NF, gArr K 60 (am 3) E0, gArrZ K 60 (am 4) E1, gArr K 60 (am 5) E2, gArr K 60 (am 6) E3, gArr K 60 (am 7) E4, gArr K 60 (am 8) E5, gArr K 60 (am 9) E6] _ _ := hG
          exact g_iret S hr hlk hQ dX9_count_54 (Nat.le_of_ble_eq_true rfl) (Nat.le_of_ble_eq_true rfl) ((f, lg1, mr1, en1, pw1, sl1, ly1, dn1, E0, E1, E2, E3, E4, E5, E6) : Int × Int × Int × Int × Int × Int × Int × Int × (Int → Int) × (Int → Int) × (Int → Int) × (Int → Int) × (Int → Int) × (Int → Int) × (Int → Int)) ⟨rfl, (fun _ => by rw [hb, show (NF 4).toNat = k by omega])⟩ hG
        · skip
          refine lv_iload_n S.1 S.2.1 dX9_count_30 rfl (lv_at hl 2 rfl) ?_
          refine lv_aload_n S.1 S.2.1 dX9_count_31 rfl (lv_at hl 0 rfl) ?_
          refine lv_iload_n S.1 S.2.1 dX9_count_32 rfl (lv_at hl 3 rfl) ?_
          refine g_invV (As := [.int (iI w)]) (rest := [.int (iI f)]) (gs' := (fun u : Int × Int × Int × Int × Int × Int × Int × (Int → Int) × (Int → Int) × (Int → Int) × (Int → Int) × (Int → Int) × (Int → Int) × (Int → Int) => [gMdl K am (thr (bI (0 ≤ x ∧ x ≤ 4)) 1 1) rw u.1 u.2.1 u.2.2.1 u.2.2.2.1 u.2.2.2.2.1 u.2.2.2.2.2.1 u.2.2.2.2.2.2.1 iz tz nx st tk vl ef ep hO hB ol rm oz, gArr K 95 rw NF, gArr K 60 (am 3) u.2.2.2.2.2.2.2.1, gArrZ K 60 (am 4) u.2.2.2.2.2.2.2.2.1, gArr K 60 (am 5) u.2.2.2.2.2.2.2.2.2.1, gArr K 60 (am 6) u.2.2.2.2.2.2.2.2.2.2.1, gArr K 60 (am 7) u.2.2.2.2.2.2.2.2.2.2.2.1, gArr K 60 (am 8) u.2.2.2.2.2.2.2.2.2.2.2.2.1, gArr K 60 (am 9) u.2.2.2.2.2.2.2.2.2.2.2.2.2])) S C hG [0, 1, 2, 3, 4, 5, 6, 7, 8] (c_X9_endOfShot l K am (thr (bI (0 ≤ x ∧ x ≤ 4)) 1 1) rw lg1 mr1 en1 pw1 sl1 ly1 dn1 iz tz nx st tk vl ef ep hO hB ol rm oz NF E0 E1 E2 E3 E4 E5 E6 w hN ⟨by omega, by omega⟩) rfl rfl 0 rfl rfl (cwV 1 S.2.2.2.2 gX9_count_X9_endOfShot rfl rfl rfl (by decide +kernel) ⟨Nat.le_of_ble_eq_true rfl, Nat.le_of_ble_eq_true rfl⟩) rfl hl.1 rfl (Nat.le_of_ble_eq_true rfl) dX9_count_33 ⟨Nat.le_of_ble_eq_true rfl, Nat.le_of_ble_eq_true rfl⟩ (fun _ => Nat.le_of_ble_eq_true rfl) (fun _ => rfl) (fun v u H locs hp hG => ?_)
          obtain ⟨lg2_33, mr2_33, en2_33, pw2_33, sl2_33, ly2_33, dn2_33, B0_33, B1_33, B2_33, B3_33, B4_33, B5_33, B6_33⟩ := u
          obtain ⟨rfl, hf_33⟩ := hp
          have hf_33 : FolS NF w lg2_33 mr2_33 en2_33 pw2_33 B0_33 B1_33 B2_33 B3_33 B4_33 B5_33 B6_33 := hf_33
          have hG : gW K A s.heap [gMdl K am (thr (bI (0 ≤ x ∧ x ≤ 4)) 1 1) rw lg2_33 mr2_33 en2_33 pw2_33 sl2_33 ly2_33 dn2_33 iz tz nx st tk vl ef ep hO hB ol rm oz, gArr K 95 rw NF, gArr K 60 (am 3) B0_33, gArrZ K 60 (am 4) B1_33, gArr K 60 (am 5) B2_33, gArr K 60 (am 6) B3_33, gArr K 60 (am 7) B4_33, gArr K 60 (am 8) B5_33, gArr K 60 (am 9) B6_33] _ _ := hG
          refine g_top (w := .int (iI (eS NF (k : Int)))) (congrArg (fun z : Int => Value.int (iI z)) ((by rw [hw.1]))) ?_
          refine lv_iload_n S.1 S.2.1 dX9_count_36 rfl (lv_at hl 1 rfl) ?_
          have eb2 : 0 ≤ eS NF (k : Int) ∧ eS NF (k : Int) ≤ 4 := enF_bd NF (sP NF (k : Int)) (sY NF (k : Int)) (sD NF (k : Int))
          refine g_icmp_ne (tgt := 44) S dX9_count_37 (by decide) (by omega) (by omega) (fun q37 => ?_) (fun q37 => ?_)
          · skip
            refine g_iconst S dX9_count_44 ?_
            refine g_iadd S dX9_count_45 rfl ?_
            refine lv_istore_n (lv' := [(2, .int (iI (f + 0))), (0, .ref (am 0)), (1, .int (iI x)), (3, .int (iI w))]) S.1 S.2.1 dX9_count_46 rfl hl (by decide) rfl (fun ls hl => ?_)
            refine lv_iinc (v := iI (w + 1)) (lv' := [(3, .int (iI (w + 1))), (2, .int (iI (f + 0))), (0, .ref (am 0)), (1, .int (iI x))]) S.1 S.2.1 dX9_count_47 hl (k := 3) rfl (g_iinc rfl) (by decide) rfl (fun ls hl => ?_)
            refine lv_goto (tgt := 22) S.1 S.2.1 dX9_count_50 (by decide) ?_
            exact ih (k + 1) (w + 1) (f + 0) lg2_33 mr2_33 en2_33 pw2_33 sl2_33 ly2_33 dn2_33 B0_33 B1_33 B2_33 B3_33 B4_33 B5_33 B6_33 _ _ _ (by omega) ⟨by omega, by omega⟩ (by simp only [cntB] <;> rw [← hb, if_neg (by simpa using q37)] <;> omega) (by omega) (lv_sub hl [2, 3, 1, 0] rfl) hG
          · skip
            refine g_iconst S dX9_count_40 ?_
            refine lv_goto (tgt := 45) S.1 S.2.1 dX9_count_41 (by decide) ?_
            refine g_iadd S dX9_count_45 rfl ?_
            refine lv_istore_n (lv' := [(2, .int (iI (f + 1))), (0, .ref (am 0)), (1, .int (iI x)), (3, .int (iI w))]) S.1 S.2.1 dX9_count_46 rfl hl (by decide) rfl (fun ls hl => ?_)
            refine lv_iinc (v := iI (w + 1)) (lv' := [(3, .int (iI (w + 1))), (2, .int (iI (f + 1))), (0, .ref (am 0)), (1, .int (iI x))]) S.1 S.2.1 dX9_count_47 hl (k := 3) rfl (g_iinc rfl) (by decide) rfl (fun ls hl => ?_)
            refine lv_goto (tgt := 22) S.1 S.2.1 dX9_count_50 (by decide) ?_
            exact ih (k + 1) (w + 1) (f + 1) lg2_33 mr2_33 en2_33 pw2_33 sl2_33 ly2_33 dn2_33 B0_33 B1_33 B2_33 B3_33 B4_33 B5_33 B6_33 _ _ _ (by omega) ⟨by omega, by omega⟩ (by simp only [cntB] <;> rw [← hb, if_pos (by simpa using q37)]) (by omega) (lv_sub hl [2, 3, 1, 0] rfl) hG
    exact L22 (Nat.succ ((NF 4 - 0).toNat)) 0 0 0 lg mr en pw sl ly dn A0 A1 A2 A3 A4 A5 A6 _ _ _ (Nat.lt_succ_self _) ⟨rfl, by omega⟩ rfl (by omega) (lv_sub hl [2, 3, 1, 0] rfl) hG
  · skip
    refine g_iconst S dX9_count_16 ?_
    have hG : gW K A s.heap [gMdl K am (thr (bI (0 ≤ x ∧ x ≤ 4)) 1 1) rw lg mr en pw sl ly dn iz tz nx st tk vl ef ep hO hB ol rm oz, gArr K 95 rw NF, gArr K 60 (am 3) A0, gArrZ K 60 (am 4) A1, gArr K 60 (am 5) A2, gArr K 60 (am 6) A3, gArr K 60 (am 7) A4, gArr K 60 (am 8) A5, gArr K 60 (am 9) A6] _ _ := hG
    exact g_iret S hr hlk hQ dX9_count_17 (Nat.le_of_ble_eq_true rfl) (Nat.le_of_ble_eq_true rfl) ((0, lg, mr, en, pw, sl, ly, dn, A0, A1, A2, A3, A4, A5, A6) : Int × Int × Int × Int × Int × Int × Int × Int × (Int → Int) × (Int → Int) × (Int → Int) × (Int → Int) × (Int → Int) × (Int → Int) × (Int → Int)) ⟨rfl, (fun h => absurd (bI_t h) q13)⟩ hG

set_option maxHeartbeats 1000000 in
set_option maxRecDepth 100000 in
theorem c_X9_isOut (l : Launch) (K : KC) (am : Nat → Nat) (th : Int) (rw : Nat) (lg : Int) (mr : Int) (en : Int) (pw : Int) (sl : Int) (ly : Int) (dn : Int) (iz : Int) (tz : Int) (nx : Int) (st : Int) (tk : Int) (vl : Int) (ef : Int) (ep : Int) (hO : Int) (hB : Int) (ol : Int) (rm : Int) (oz : Int) (NF : Int → Int) (A0 : Int → Int) (A1 : Int → Int) (A2 : Int → Int) (A3 : Int → Int) (A4 : Int → Int) (A5 : Int → Int) (A6 : Int → Int) (y : Int) (hN : NOk0 NF) (hs : 0 ≤ y ∧ y < NF 4) : mG l yX9_isOut wsX9_isOut 6 135 K [.ref (am 0), .int (iI y)] [gMdl K am th rw lg mr en pw sl ly dn iz tz nx st tk vl ef ep hO hB ol rm oz, gArr K 95 rw NF, gArr K 60 (am 3) A0, gArrZ K 60 (am 4) A1, gArr K 60 (am 5) A2, gArr K 60 (am 6) A3, gArr K 60 (am 7) A4, gArr K 60 (am 8) A5, gArr K 60 (am 9) A6] (fun (v : Value) (u : Int × Int × Int × Int × Int × Int × Int × (Int → Int) × (Int → Int) × (Int → Int) × (Int → Int) × (Int → Int) × (Int → Int) × (Int → Int)) => (v = .int (iI (bI (eS NF y = 0 ∨ eS NF y = 1)))) ∧ (FolS NF y u.1 u.2.1 u.2.2.1 u.2.2.2.1 u.2.2.2.2.2.2.2.1 u.2.2.2.2.2.2.2.2.1 u.2.2.2.2.2.2.2.2.2.1 u.2.2.2.2.2.2.2.2.2.2.1 u.2.2.2.2.2.2.2.2.2.2.2.1 u.2.2.2.2.2.2.2.2.2.2.2.2.1 u.2.2.2.2.2.2.2.2.2.2.2.2.2)) (fun (u : Int × Int × Int × Int × Int × Int × Int × (Int → Int) × (Int → Int) × (Int → Int) × (Int → Int) × (Int → Int) × (Int → Int) × (Int → Int)) => [gMdl K am th rw u.1 u.2.1 u.2.2.1 u.2.2.2.1 u.2.2.2.2.1 u.2.2.2.2.2.1 u.2.2.2.2.2.2.1 iz tz nx st tk vl ef ep hO hB ol rm oz, gArr K 95 rw NF, gArr K 60 (am 3) u.2.2.2.2.2.2.2.1, gArrZ K 60 (am 4) u.2.2.2.2.2.2.2.2.1, gArr K 60 (am 5) u.2.2.2.2.2.2.2.2.2.1, gArr K 60 (am 6) u.2.2.2.2.2.2.2.2.2.2.1, gArr K 60 (am 7) u.2.2.2.2.2.2.2.2.2.2.2.1, gArr K 60 (am 8) u.2.2.2.2.2.2.2.2.2.2.2.2.1, gArr K 60 (am 9) u.2.2.2.2.2.2.2.2.2.2.2.2.2]) 0 0 := by
  refine mG_of cX9_isOut 2 (by decide) rfl (Nat.le_of_ble_eq_true rfl) ?_
  intro p e s m below meth c A ls Q S C hG hl hr hlk hin hQ
  have S : CallFix p m c cX9_isOut 2 s ([.ref (am 0), .int (iI y)] : List Value).toArray wsX9_isOut RX9 := S
  have iX90 : ∀ w ∈ wsX90, w ∈ wsX9_isOut := fun _ h => List.mem_cons_of_mem _ (List.mem_append_right _ (h))
  have hl : lv_has ls 2 [(0, .ref (am 0)), (1, .int (iI y))] := hl
  have hG : gW K A s.heap [gMdl K am th rw lg mr en pw sl ly dn iz tz nx st tk vl ef ep hO hB ol rm oz, gArr K 95 rw NF, gArr K 60 (am 3) A0, gArrZ K 60 (am 4) A1, gArr K 60 (am 5) A2, gArr K 60 (am 6) A3, gArr K 60 (am 7) A4, gArr K 60 (am 8) A5, gArr K 60 (am 9) A6] s.heap [] := hG
  have n0 := hN.1
  have n3 := hN.2.2.2.1
  have eb2 : 0 ≤ eS NF y ∧ eS NF y ≤ 4 := enF_bd NF (sP NF y) (sY NF y) (sD NF y)
  refine lv_aload_n S.1 S.2.1 dX9_isOut_0 rfl (lv_at hl 0 rfl) ?_
  refine lv_iload_n S.1 S.2.1 dX9_isOut_1 rfl (lv_at hl 1 rfl) ?_
  refine g_invVv (As := [.int (iI y)]) (rest := []) (gs' := (fun u : Int × Int × Int × Int × Int × Int × Int × (Int → Int) × (Int → Int) × (Int → Int) × (Int → Int) × (Int → Int) × (Int → Int) × (Int → Int) => [gMdl K am th rw u.1 u.2.1 u.2.2.1 u.2.2.2.1 u.2.2.2.2.1 u.2.2.2.2.2.1 u.2.2.2.2.2.2.1 iz tz nx st tk vl ef ep hO hB ol rm oz, gArr K 95 rw NF, gArr K 60 (am 3) u.2.2.2.2.2.2.2.1, gArrZ K 60 (am 4) u.2.2.2.2.2.2.2.2.1, gArr K 60 (am 5) u.2.2.2.2.2.2.2.2.2.1, gArr K 60 (am 6) u.2.2.2.2.2.2.2.2.2.2.1, gArr K 60 (am 7) u.2.2.2.2.2.2.2.2.2.2.2.1, gArr K 60 (am 8) u.2.2.2.2.2.2.2.2.2.2.2.2.1, gArr K 60 (am 9) u.2.2.2.2.2.2.2.2.2.2.2.2.2])) S C hG [0, 1, 2, 3, 4, 5, 6, 7, 8] (c_X9_followShot l K am th rw lg mr en pw sl ly dn iz tz nx st tk vl ef ep hO hB ol rm oz NF A0 A1 A2 A3 A4 A5 A6 y hN hs) rfl rfl 0 rfl rfl (cwV 1 S.2.2.2.2 gX9_isOut_X9_followShot rfl rfl rfl (by decide +kernel) ⟨Nat.le_of_ble_eq_true rfl, Nat.le_of_ble_eq_true rfl⟩) rfl hl.1 rfl (Nat.le_of_ble_eq_true rfl) dX9_isOut_2 ⟨Nat.le_of_ble_eq_true rfl, Nat.le_of_ble_eq_true rfl⟩ (fun _ => Nat.le_of_ble_eq_true rfl) (fun _ => rfl) (fun u H locs hp hG => ?_)
  obtain ⟨lg2_2, mr2_2, en2_2, pw2_2, sl2_2, ly2_2, dn2_2, B0_2, B1_2, B2_2, B3_2, B4_2, B5_2, B6_2⟩ := u
  have hf_2 := hp
  have hf_2 : FolS NF y lg2_2 mr2_2 en2_2 pw2_2 B0_2 B1_2 B2_2 B3_2 B4_2 B5_2 B6_2 := hf_2
  have hG : gW K A s.heap [gMdl K am th rw lg2_2 mr2_2 en2_2 pw2_2 sl2_2 ly2_2 dn2_2 iz tz nx st tk vl ef ep hO hB ol rm oz, gArr K 95 rw NF, gArr K 60 (am 3) B0_2, gArrZ K 60 (am 4) B1_2, gArr K 60 (am 5) B2_2, gArr K 60 (am 6) B3_2, gArr K 60 (am 7) B4_2, gArr K 60 (am 8) B5_2, gArr K 60 (am 9) B6_2] _ _ := hG
  have f3 : en2_2 = eS NF y := hf_2.2.2.1
  refine lv_aload_n S.1 S.2.1 dX9_isOut_5 rfl (lv_at hl 0 rfl) ?_
  refine g_get S C hG iX90 0 rfl rfl 13 (by decide) (List.mem_of_getElem? (i := 1) rfl) rfl dX9_isOut_6 ?_
  refine g_if_eq (tgt := 20) S dX9_isOut_9 (by decide) (by omega) (fun q9 => ?_) (fun q9 => ?_)
  · skip
    refine g_iconst S dX9_isOut_20 ?_
    refine lv_goto (tgt := 25) S.1 S.2.1 dX9_isOut_21 (by decide) ?_
    have hG : gW K A s.heap [gMdl K am th rw lg2_2 mr2_2 en2_2 pw2_2 sl2_2 ly2_2 dn2_2 iz tz nx st tk vl ef ep hO hB ol rm oz, gArr K 95 rw NF, gArr K 60 (am 3) B0_2, gArrZ K 60 (am 4) B1_2, gArr K 60 (am 5) B2_2, gArr K 60 (am 6) B3_2, gArr K 60 (am 7) B4_2, gArr K 60 (am 8) B5_2, gArr K 60 (am 9) B6_2] _ _ := hG
    exact g_zret S hr hlk hQ (Or.inr rfl) dX9_isOut_25 (Nat.le_of_ble_eq_true rfl) (Nat.le_of_ble_eq_true rfl) ((lg2_2, mr2_2, en2_2, pw2_2, sl2_2, ly2_2, dn2_2, B0_2, B1_2, B2_2, B3_2, B4_2, B5_2, B6_2) : Int × Int × Int × Int × Int × Int × Int × (Int → Int) × (Int → Int) × (Int → Int) × (Int → Int) × (Int → Int) × (Int → Int) × (Int → Int)) ⟨(congrArg (fun z : Int => Value.int (iI z)) (bI_t (by omega)).symm), hf_2⟩ hG
  · skip
    refine lv_aload_n S.1 S.2.1 dX9_isOut_12 rfl (lv_at hl 0 rfl) ?_
    refine g_get S C hG iX90 0 rfl rfl 13 (by decide) (List.mem_of_getElem? (i := 1) rfl) rfl dX9_isOut_13 ?_
    refine g_iconst S dX9_isOut_16 ?_
    refine g_icmp_ne (tgt := 24) S dX9_isOut_17 (by decide) (by omega) (by omega) (fun q17 => ?_) (fun q17 => ?_)
    · skip
      refine g_iconst S dX9_isOut_24 ?_
      have hG : gW K A s.heap [gMdl K am th rw lg2_2 mr2_2 en2_2 pw2_2 sl2_2 ly2_2 dn2_2 iz tz nx st tk vl ef ep hO hB ol rm oz, gArr K 95 rw NF, gArr K 60 (am 3) B0_2, gArrZ K 60 (am 4) B1_2, gArr K 60 (am 5) B2_2, gArr K 60 (am 6) B3_2, gArr K 60 (am 7) B4_2, gArr K 60 (am 8) B5_2, gArr K 60 (am 9) B6_2] _ _ := hG
      exact g_zret S hr hlk hQ (Or.inl rfl) dX9_isOut_25 (Nat.le_of_ble_eq_true rfl) (Nat.le_of_ble_eq_true rfl) ((lg2_2, mr2_2, en2_2, pw2_2, sl2_2, ly2_2, dn2_2, B0_2, B1_2, B2_2, B3_2, B4_2, B5_2, B6_2) : Int × Int × Int × Int × Int × Int × Int × (Int → Int) × (Int → Int) × (Int → Int) × (Int → Int) × (Int → Int) × (Int → Int) × (Int → Int)) ⟨(congrArg (fun z : Int => Value.int (iI z)) (bI_f (by omega)).symm), hf_2⟩ hG
    · skip
      refine g_iconst S dX9_isOut_20 ?_
      refine lv_goto (tgt := 25) S.1 S.2.1 dX9_isOut_21 (by decide) ?_
      have hG : gW K A s.heap [gMdl K am th rw lg2_2 mr2_2 en2_2 pw2_2 sl2_2 ly2_2 dn2_2 iz tz nx st tk vl ef ep hO hB ol rm oz, gArr K 95 rw NF, gArr K 60 (am 3) B0_2, gArrZ K 60 (am 4) B1_2, gArr K 60 (am 5) B2_2, gArr K 60 (am 6) B3_2, gArr K 60 (am 7) B4_2, gArr K 60 (am 8) B5_2, gArr K 60 (am 9) B6_2] _ _ := hG
      exact g_zret S hr hlk hQ (Or.inr rfl) dX9_isOut_25 (Nat.le_of_ble_eq_true rfl) (Nat.le_of_ble_eq_true rfl) ((lg2_2, mr2_2, en2_2, pw2_2, sl2_2, ly2_2, dn2_2, B0_2, B1_2, B2_2, B3_2, B4_2, B5_2, B6_2) : Int × Int × Int × Int × Int × Int × Int × (Int → Int) × (Int → Int) × (Int → Int) × (Int → Int) × (Int → Int) × (Int → Int) × (Int → Int)) ⟨(congrArg (fun z : Int => Value.int (iI z)) (bI_t (by omega)).symm), hf_2⟩ hG

set_option maxHeartbeats 1000000 in
set_option maxRecDepth 100000 in
theorem c_X9_first (l : Launch) (K : KC) (am : Nat → Nat) (th : Int) (rw : Nat) (lg : Int) (mr : Int) (en : Int) (pw : Int) (sl : Int) (ly : Int) (dn : Int) (iz : Int) (tz : Int) (nx : Int) (st : Int) (tk : Int) (vl : Int) (ef : Int) (ep : Int) (hO : Int) (hB : Int) (ol : Int) (rm : Int) (oz : Int) (NF : Int → Int) (A0 : Int → Int) (A1 : Int → Int) (A2 : Int → Int) (A3 : Int → Int) (A4 : Int → Int) (A5 : Int → Int) (A6 : Int → Int) (hN : NOk0 NF) : mG l yX9_first wsX9_first 7 156 K [.ref (am 0)] [gMdl K am th rw lg mr en pw sl ly dn iz tz nx st tk vl ef ep hO hB ol rm oz, gArr K 95 rw NF, gArr K 60 (am 3) A0, gArrZ K 60 (am 4) A1, gArr K 60 (am 5) A2, gArr K 60 (am 6) A3, gArr K 60 (am 7) A4, gArr K 60 (am 8) A5, gArr K 60 (am 9) A6] (fun (v : Value) (u : Int × Int × Int × Int × Int × Int × Int × (Int → Int) × (Int → Int) × (Int → Int) × (Int → Int) × (Int → Int) × (Int → Int) × (Int → Int)) => (v = .int (iI ((bstN (fun i : Nat => decide (eS NF (i : Int) = 0 ∨ eS NF (i : Int) = 1)) (fun i : Nat => -(tS NF (i : Int))) (NF 4).toNat).1)))) (fun (u : Int × Int × Int × Int × Int × Int × Int × (Int → Int) × (Int → Int) × (Int → Int) × (Int → Int) × (Int → Int) × (Int → Int) × (Int → Int)) => [gMdl K am 0 rw u.1 u.2.1 u.2.2.1 u.2.2.2.1 u.2.2.2.2.1 u.2.2.2.2.2.1 u.2.2.2.2.2.2.1 iz tz nx st tk vl ef ep hO hB ol rm oz, gArr K 95 rw NF, gArr K 60 (am 3) u.2.2.2.2.2.2.2.1, gArrZ K 60 (am 4) u.2.2.2.2.2.2.2.2.1, gArr K 60 (am 5) u.2.2.2.2.2.2.2.2.2.1, gArr K 60 (am 6) u.2.2.2.2.2.2.2.2.2.2.1, gArr K 60 (am 7) u.2.2.2.2.2.2.2.2.2.2.2.1, gArr K 60 (am 8) u.2.2.2.2.2.2.2.2.2.2.2.2.1, gArr K 60 (am 9) u.2.2.2.2.2.2.2.2.2.2.2.2.2]) 0 0 := by
  refine mG_of cX9_first 6 (by decide) rfl (Nat.le_of_ble_eq_true rfl) ?_
  intro p e s m below meth c A ls Q S C hG hl hr hlk hin hQ
  have S : CallFix p m c cX9_first 6 s ([.ref (am 0)] : List Value).toArray wsX9_first RX9 := S
  have iX90 : ∀ w ∈ wsX90, w ∈ wsX9_first := fun _ h => List.mem_cons_of_mem _ (List.mem_append_right _ (h))
  have hl : lv_has ls 6 [(0, .ref (am 0))] := hl
  have hG : gW K A s.heap [gMdl K am th rw lg mr en pw sl ly dn iz tz nx st tk vl ef ep hO hB ol rm oz, gArr K 95 rw NF, gArr K 60 (am 3) A0, gArrZ K 60 (am 4) A1, gArr K 60 (am 5) A2, gArr K 60 (am 6) A3, gArr K 60 (am 7) A4, gArr K 60 (am 8) A5, gArr K 60 (am 9) A6] s.heap [] := hG
  have n0 := hN.1
  have n3 := hN.2.2.2.1
  refine lv_aload_n S.1 S.2.1 dX9_first_0 rfl (lv_at hl 0 rfl) ?_
  refine g_iconst S dX9_first_1 ?_
  refine g_put (gs' := [gMdl K am 0 rw lg mr en pw sl ly dn iz tz nx st tk vl ef ep hO hB ol rm oz, gArr K 95 rw NF, gArr K 60 (am 3) A0, gArrZ K 60 (am 4) A1, gArr K 60 (am 5) A2, gArr K 60 (am 6) A3, gArr K 60 (am 7) A4, gArr K 60 (am 8) A5, gArr K 60 (am 9) A6]) S C hG iX90 tyX9 tyX9_ok nmX9 0 rfl rfl 0 (by decide) (List.mem_of_getElem? (i := 1) rfl) rfl rfl rfl (Nat.le_of_ble_eq_true rfl) rfl dX9_first_2 (fun H locs hG => ?_)
  refine g_iconst S dX9_first_5 ?_
  refine lv_istore_n (lv' := [(1, .int (iI (-1))), (0, .ref (am 0))]) S.1 S.2.1 dX9_first_6 rfl hl (by decide) rfl (fun ls hl => ?_)
  refine g_iconst S dX9_first_7 ?_
  refine lv_istore_n (lv' := [(2, .int (iI 0)), (1, .int (iI (-1))), (0, .ref (am 0))]) S.1 S.2.1 dX9_first_8 rfl hl (by decide) rfl (fun ls hl => ?_)
  refine g_iconst S dX9_first_9 ?_
  refine lv_istore_n (lv' := [(3, .int (iI 0)), (2, .int (iI 0)), (1, .int (iI (-1))), (0, .ref (am 0))]) S.1 S.2.1 dX9_first_10 rfl hl (by decide) rfl (fun ls hl => ?_)
  have L11 : ∀ (fu : Nat) (k : Nat) (w : Int) (bb : Int) (mm : Int) (lg1 : Int) (mr1 : Int) (en1 : Int) (pw1 : Int) (sl1 : Int) (ly1 : Int) (dn1 : Int) (E0 : Int → Int) (E1 : Int → Int) (E2 : Int → Int) (E3 : Int → Int) (E4 : Int → Int) (E5 : Int → Int) (E6 : Int → Int) (H : Heap) (locs : List Loc) (ls : Array Slot), ((NF 4 - w).toNat) < fu → (w = (k : Int) ∧ w ≤ NF 4) → (bb = (bstN (fun i : Nat => decide (eS NF (i : Int) = 0 ∨ eS NF (i : Int) = 1)) (fun i : Nat => -(tS NF (i : Int))) k).1 ∧ mm = -(bstN (fun i : Nat => decide (eS NF (i : Int) = 0 ∨ eS NF (i : Int) = 1)) (fun i : Nat => -(tS NF (i : Int))) k).2) → (0 ≤ mm ∧ mm ≤ 200000000 ∧ -1 ≤ bb ∧ bb ≤ 20) → lv_has ls 6 [(0, .ref (am 0)), (1, .int (iI bb)), (2, .int (iI mm)), (3, .int (iI w))] → gW K A s.heap [gMdl K am 0 rw lg1 mr1 en1 pw1 sl1 ly1 dn1 iz tz nx st tk vl ef ep hO hB ol rm oz, gArr K 95 rw NF, gArr K 60 (am 3) E0, gArrZ K 60 (am 4) E1, gArr K 60 (am 5) E2, gArr K 60 (am 6) E3, gArr K 60 (am 7) E4, gArr K 60 (am 8) E5, gArr K 60 (am 9) E6] H locs → W p l e { frames := 7, cells := 0, slots := 0, locals := 156 } s m ([.ref (am 0)] : List Value).toArray below meth c H locs 0 0 Q (F0 m 11 ls []) := by
    intro fu
    induction fu with
    | zero => intro k w bb mm lg1 mr1 en1 pw1 sl1 ly1 dn1 E0 E1 E2 E3 E4 E5 E6 H locs ls hfu; exact absurd hfu (Nat.not_lt_zero _)
    | succ fu ih =>
      intro k w bb mm lg1 mr1 en1 pw1 sl1 ly1 dn1 E0 E1 E2 E3 E4 E5 E6 H locs ls hfu hw hb hm hl hG
      refine lv_iload_n S.1 S.2.1 dX9_first_11 rfl (lv_at hl 3 rfl) ?_
      refine lv_aload_n S.1 S.2.1 dX9_first_12 rfl (lv_at hl 0 rfl) ?_
      refine g_invV (As := []) (rest := [.int (iI w)]) (gs' := (fun u : Unit => [gMdl K am 0 rw lg1 mr1 en1 pw1 sl1 ly1 dn1 iz tz nx st tk vl ef ep hO hB ol rm oz, gArr K 95 rw NF, gArr K 60 (am 3) E0, gArrZ K 60 (am 4) E1, gArr K 60 (am 5) E2, gArr K 60 (am 6) E3, gArr K 60 (am 7) E4, gArr K 60 (am 8) E5, gArr K 60 (am 9) E6])) S C hG [0, 1] (c_X9_shots l K am 0 rw lg1 mr1 en1 pw1 sl1 ly1 dn1 iz tz nx st tk vl ef ep hO hB ol rm oz NF) rfl rfl 0 rfl rfl (cwV 0 S.2.2.2.2 gX9_first_X9_shots rfl rfl rfl (by decide +kernel) ⟨Nat.le_of_ble_eq_true rfl, Nat.le_of_ble_eq_true rfl⟩) rfl hl.1 rfl (Nat.le_of_ble_eq_true rfl) dX9_first_13 ⟨Nat.le_of_ble_eq_true rfl, Nat.le_of_ble_eq_true rfl⟩ (fun _ => Nat.le_of_ble_eq_true rfl) (fun _ => rfl) (fun v u H locs hp hG => ?_)
      subst hp
      refine g_icmp_ge (tgt := 66) S dX9_first_16 (by decide) (by omega) (by omega) (fun q16 => ?_) (fun q16 => ?_)
      · skip
        refine lv_iload_n S.1 S.2.1 dX9_first_66 rfl (lv_at hl 1 rfl) ?_
        have hG : gW K A s.heap [gMdl K am 0 rw lg1 mr1 en1 pw1 sl1 ly1 dn1 iz tz nx st tk vl ef ep hO hB ol rm oz, gArr K 95 rw NF, gArr K 60 (am 3) E0, gArrZ K 60 (am 4) E1, gArr K 60 (am 5) E2, gArr K 60 (am 6) E3, gArr K 60 (am 7) E4, gArr K 60 (am 8) E5, gArr K 60 (am 9) E6] _ _ := hG
        exact g_iret S hr hlk hQ dX9_first_67 (Nat.le_of_ble_eq_true rfl) (Nat.le_of_ble_eq_true rfl) ((lg1, mr1, en1, pw1, sl1, ly1, dn1, E0, E1, E2, E3, E4, E5, E6) : Int × Int × Int × Int × Int × Int × Int × (Int → Int) × (Int → Int) × (Int → Int) × (Int → Int) × (Int → Int) × (Int → Int) × (Int → Int)) (congrArg (fun z : Int => Value.int (iI z)) (by rw [hb.1, show (NF 4).toNat = k by omega])) hG
      · skip
        refine lv_aload_n S.1 S.2.1 dX9_first_19 rfl (lv_at hl 0 rfl) ?_
        refine lv_iload_n S.1 S.2.1 dX9_first_20 rfl (lv_at hl 3 rfl) ?_
        refine g_invV (As := [.int (iI w)]) (rest := []) (gs' := (fun u : Int × Int × Int × Int × Int × Int × Int × (Int → Int) × (Int → Int) × (Int → Int) × (Int → Int) × (Int → Int) × (Int → Int) × (Int → Int) => [gMdl K am 0 rw u.1 u.2.1 u.2.2.1 u.2.2.2.1 u.2.2.2.2.1 u.2.2.2.2.2.1 u.2.2.2.2.2.2.1 iz tz nx st tk vl ef ep hO hB ol rm oz, gArr K 95 rw NF, gArr K 60 (am 3) u.2.2.2.2.2.2.2.1, gArrZ K 60 (am 4) u.2.2.2.2.2.2.2.2.1, gArr K 60 (am 5) u.2.2.2.2.2.2.2.2.2.1, gArr K 60 (am 6) u.2.2.2.2.2.2.2.2.2.2.1, gArr K 60 (am 7) u.2.2.2.2.2.2.2.2.2.2.2.1, gArr K 60 (am 8) u.2.2.2.2.2.2.2.2.2.2.2.2.1, gArr K 60 (am 9) u.2.2.2.2.2.2.2.2.2.2.2.2.2])) S C hG [0, 1, 2, 3, 4, 5, 6, 7, 8] (c_X9_isOut l K am 0 rw lg1 mr1 en1 pw1 sl1 ly1 dn1 iz tz nx st tk vl ef ep hO hB ol rm oz NF E0 E1 E2 E3 E4 E5 E6 w hN ⟨by omega, by omega⟩) rfl rfl 0 rfl rfl (cwV 1 S.2.2.2.2 gX9_first_X9_isOut rfl rfl rfl (by decide +kernel) ⟨Nat.le_of_ble_eq_true rfl, Nat.le_of_ble_eq_true rfl⟩) rfl hl.1 rfl (Nat.le_of_ble_eq_true rfl) dX9_first_21 ⟨Nat.le_of_ble_eq_true rfl, Nat.le_of_ble_eq_true rfl⟩ (fun _ => Nat.le_of_ble_eq_true rfl) (fun _ => rfl) (fun v u H locs hp hG => ?_)
        obtain ⟨lg2_21, mr2_21, en2_21, pw2_21, sl2_21, ly2_21, dn2_21, B0_21, B1_21, B2_21, B3_21, B4_21, B5_21, B6_21⟩ := u
        obtain ⟨rfl, hf_21⟩ := hp
        have hf_21 : FolS NF w lg2_21 mr2_21 en2_21 pw2_21 B0_21 B1_21 B2_21 B3_21 B4_21 B5_21 B6_21 := hf_21
        have hG : gW K A s.heap [gMdl K am 0 rw lg2_21 mr2_21 en2_21 pw2_21 sl2_21 ly2_21 dn2_21 iz tz nx st tk vl ef ep hO hB ol rm oz, gArr K 95 rw NF, gArr K 60 (am 3) B0_21, gArrZ K 60 (am 4) B1_21, gArr K 60 (am 5) B2_21, gArr K 60 (am 6) B3_21, gArr K 60 (am 7) B4_21, gArr K 60 (am 8) B5_21, gArr K 60 (am 9) B6_21] _ _ := hG
        have g4 := sho_bd hN (r := w) (by omega) (by omega)
        have g5 := shF_bd hN (p := sP NF w) (y := sY NF w) (e := sD NF w) g4.2.2.1 g4.2.1
        have g6 : 0 ≤ tS NF (k : Int) ∧ tS NF (k : Int) ≤ 119880000 := by rw [← hw.1] <;> exact g5.2.1
        have g7 : 0 ≤ pS NF (k : Int) ∧ pS NF (k : Int) ≤ 1000000 := by rw [← hw.1] <;> exact g5.2.2
        have fb := hf_21.bd hN g4.2.2.1 g4.2.1
        refine g_top (w := .int (iI (bI (eS NF (k : Int) = 0 ∨ eS NF (k : Int) = 1)))) (congrArg (fun z : Int => Value.int (iI z)) ((by rw [hw.1]))) ?_
        refine lv_istore (lv' := [(4, .int (iI (bI (eS NF (k : Int) = 0 ∨ eS NF (k : Int) = 1)))), (0, .ref (am 0)), (1, .int (iI bb)), (2, .int (iI mm)), (3, .int (iI w))]) S.1 S.2.1 dX9_first_24 hl (by decide) rfl (fun ls hl => ?_)
        refine lv_aload_n S.1 S.2.1 dX9_first_26 rfl (lv_at hl 1 rfl) ?_
        refine g_get S C hG iX90 0 rfl rfl 8 (by decide) (List.mem_of_getElem? (i := 2) rfl) rfl dX9_first_27 ?_
        refine lv_aload_n S.1 S.2.1 dX9_first_30 rfl (lv_at hl 1 rfl) ?_
        refine g_get S C hG iX90 0 rfl rfl 11 (by decide) (List.mem_of_getElem? (i := 3) rfl) rfl dX9_first_31 ?_
        refine g_invS (As := [.ref (am 7), .int (iI lg2_21)]) (rest := []) (gs' := (fun u : Unit => [gMdl K am 0 rw lg2_21 mr2_21 en2_21 pw2_21 sl2_21 ly2_21 dn2_21 iz tz nx st tk vl ef ep hO hB ol rm oz, gArr K 95 rw NF, gArr K 60 (am 3) B0_21, gArrZ K 60 (am 4) B1_21, gArr K 60 (am 5) B2_21, gArr K 60 (am 6) B3_21, gArr K 60 (am 7) B4_21, gArr K 60 (am 8) B5_21, gArr K 60 (am 9) B6_21])) S C hG [6] (c_X9_sumUp l K (am 7) B4_21 lg2_21 fb.1) rfl rfl (va_cwS 2 S.2.2.2.2 gX9_first_X9_sumUp rfl rfl rfl (by decide +kernel) ⟨Nat.le_of_ble_eq_true rfl, Nat.le_of_ble_eq_true rfl⟩) rfl hl.1 rfl (Nat.le_of_ble_eq_true rfl) dX9_first_34 ⟨Nat.le_of_ble_eq_true rfl, Nat.le_of_ble_eq_true rfl⟩ (fun _ => Nat.le_of_ble_eq_true rfl) (fun _ => rfl) (fun v u H locs hp hG => ?_)
        subst hp
        refine g_top (w := .int (iI (tS NF (k : Int)))) (congrArg (fun z : Int => Value.int (iI z)) ((by rw [← hw.1] <;> exact hf_21.s4))) ?_
        refine lv_istore (lv' := [(5, .int (iI (tS NF (k : Int)))), (4, .int (iI (bI (eS NF (k : Int) = 0 ∨ eS NF (k : Int) = 1)))), (0, .ref (am 0)), (1, .int (iI bb)), (2, .int (iI mm)), (3, .int (iI w))]) S.1 S.2.1 dX9_first_37 hl (by decide) rfl (fun ls hl => ?_)
        refine lv_iload S.1 S.2.1 dX9_first_39 (lv_at hl 1 rfl) ?_
        refine g_ifeq_b (B := (eS NF (k : Int) = 0 ∨ eS NF (k : Int) = 1)) (tgt := 60) S dX9_first_41 (by decide) (fun q41 => ?_) (fun q41 => ?_)
        · skip
          refine lv_iinc (v := iI (w + 1)) (lv' := [(3, .int (iI (w + 1))), (5, .int (iI (tS NF (k : Int)))), (4, .int (iI (bI (eS NF (k : Int) = 0 ∨ eS NF (k : Int) = 1)))), (0, .ref (am 0)), (1, .int (iI bb)), (2, .int (iI mm))]) S.1 S.2.1 dX9_first_60 hl (k := 5) rfl (g_iinc rfl) (by decide) rfl (fun ls hl => ?_)
          refine lv_goto (tgt := 11) S.1 S.2.1 dX9_first_63 (by decide) ?_
          exact ih (k + 1) (w + 1) bb mm lg2_21 mr2_21 en2_21 pw2_21 sl2_21 ly2_21 dn2_21 B0_21 B1_21 B2_21 B3_21 B4_21 B5_21 B6_21 _ _ _ (by omega) ⟨by omega, by omega⟩ (by rw [bst_no (by simpa using q41)] <;> exact hb) (by omega) (lv_sub hl [3, 4, 5, 0] rfl) hG
        · skip
          refine lv_iload_n S.1 S.2.1 dX9_first_44 rfl (lv_at hl 3 rfl) ?_
          refine g_iconst S dX9_first_45 ?_
          refine g_icmp_eq (tgt := 55) S dX9_first_46 (by decide) (by omega) (by omega) (fun q46 => ?_) (fun q46 => ?_)
          · skip
            refine lv_iload_n S.1 S.2.1 dX9_first_55 rfl (lv_at hl 5 rfl) ?_
            refine lv_istore_n (lv' := [(1, .int (iI w)), (5, .int (iI (tS NF (k : Int)))), (4, .int (iI (bI (eS NF (k : Int) = 0 ∨ eS NF (k : Int) = 1)))), (0, .ref (am 0)), (2, .int (iI mm)), (3, .int (iI w))]) S.1 S.2.1 dX9_first_56 rfl hl (by decide) rfl (fun ls hl => ?_)
            refine lv_iload S.1 S.2.1 dX9_first_57 (lv_at hl 1 rfl) ?_
            refine lv_istore_n (lv' := [(2, .int (iI (tS NF (k : Int)))), (1, .int (iI w)), (5, .int (iI (tS NF (k : Int)))), (4, .int (iI (bI (eS NF (k : Int) = 0 ∨ eS NF (k : Int) = 1)))), (0, .ref (am 0)), (3, .int (iI w))]) S.1 S.2.1 dX9_first_59 rfl hl (by decide) rfl (fun ls hl => ?_)
            refine lv_iinc (v := iI (w + 1)) (lv' := [(3, .int (iI (w + 1))), (2, .int (iI (tS NF (k : Int)))), (1, .int (iI w)), (5, .int (iI (tS NF (k : Int)))), (4, .int (iI (bI (eS NF (k : Int) = 0 ∨ eS NF (k : Int) = 1)))), (0, .ref (am 0))]) S.1 S.2.1 dX9_first_60 hl (k := 5) rfl (g_iinc rfl) (by decide) rfl (fun ls hl => ?_)
            refine lv_goto (tgt := 11) S.1 S.2.1 dX9_first_63 (by decide) ?_
            exact ih (k + 1) (w + 1) w (tS NF (k : Int)) lg2_21 mr2_21 en2_21 pw2_21 sl2_21 ly2_21 dn2_21 B0_21 B1_21 B2_21 B3_21 B4_21 B5_21 B6_21 _ _ _ (by omega) ⟨by omega, by omega⟩ (by rw [bst_yes (by simpa using q41) (Or.inl (by omega))] <;> exact ⟨hw.1, (Int.neg_neg _).symm⟩) (by omega) (lv_sub hl [5, 2, 1, 0] rfl) hG
          · skip
            refine lv_iload S.1 S.2.1 dX9_first_49 (lv_at hl 0 rfl) ?_
            refine lv_iload_n S.1 S.2.1 dX9_first_51 rfl (lv_at hl 4 rfl) ?_
            refine g_icmp_ge (tgt := 60) S dX9_first_52 (by decide) (by omega) (by omega) (fun q52 => ?_) (fun q52 => ?_)
            · skip
              refine lv_iinc (v := iI (w + 1)) (lv' := [(3, .int (iI (w + 1))), (5, .int (iI (tS NF (k : Int)))), (4, .int (iI (bI (eS NF (k : Int) = 0 ∨ eS NF (k : Int) = 1)))), (0, .ref (am 0)), (1, .int (iI bb)), (2, .int (iI mm))]) S.1 S.2.1 dX9_first_60 hl (k := 5) rfl (g_iinc rfl) (by decide) rfl (fun ls hl => ?_)
              refine lv_goto (tgt := 11) S.1 S.2.1 dX9_first_63 (by decide) ?_
              exact ih (k + 1) (w + 1) bb mm lg2_21 mr2_21 en2_21 pw2_21 sl2_21 ly2_21 dn2_21 B0_21 B1_21 B2_21 B3_21 B4_21 B5_21 B6_21 _ _ _ (by omega) ⟨by omega, by omega⟩ (by rw [bst_keep (by omega) (by omega)] <;> exact hb) (by omega) (lv_sub hl [3, 4, 5, 0] rfl) hG
            · skip
              refine lv_iload_n S.1 S.2.1 dX9_first_55 rfl (lv_at hl 5 rfl) ?_
              refine lv_istore_n (lv' := [(1, .int (iI w)), (5, .int (iI (tS NF (k : Int)))), (4, .int (iI (bI (eS NF (k : Int) = 0 ∨ eS NF (k : Int) = 1)))), (0, .ref (am 0)), (2, .int (iI mm)), (3, .int (iI w))]) S.1 S.2.1 dX9_first_56 rfl hl (by decide) rfl (fun ls hl => ?_)
              refine lv_iload S.1 S.2.1 dX9_first_57 (lv_at hl 1 rfl) ?_
              refine lv_istore_n (lv' := [(2, .int (iI (tS NF (k : Int)))), (1, .int (iI w)), (5, .int (iI (tS NF (k : Int)))), (4, .int (iI (bI (eS NF (k : Int) = 0 ∨ eS NF (k : Int) = 1)))), (0, .ref (am 0)), (3, .int (iI w))]) S.1 S.2.1 dX9_first_59 rfl hl (by decide) rfl (fun ls hl => ?_)
              refine lv_iinc (v := iI (w + 1)) (lv' := [(3, .int (iI (w + 1))), (2, .int (iI (tS NF (k : Int)))), (1, .int (iI w)), (5, .int (iI (tS NF (k : Int)))), (4, .int (iI (bI (eS NF (k : Int) = 0 ∨ eS NF (k : Int) = 1)))), (0, .ref (am 0))]) S.1 S.2.1 dX9_first_60 hl (k := 5) rfl (g_iinc rfl) (by decide) rfl (fun ls hl => ?_)
              refine lv_goto (tgt := 11) S.1 S.2.1 dX9_first_63 (by decide) ?_
              exact ih (k + 1) (w + 1) w (tS NF (k : Int)) lg2_21 mr2_21 en2_21 pw2_21 sl2_21 ly2_21 dn2_21 B0_21 B1_21 B2_21 B3_21 B4_21 B5_21 B6_21 _ _ _ (by omega) ⟨by omega, by omega⟩ (by rw [bst_yes (by simpa using q41) (Or.inr (by omega))] <;> exact ⟨hw.1, (Int.neg_neg _).symm⟩) (by omega) (lv_sub hl [5, 2, 1, 0] rfl) hG
  exact L11 (Nat.succ ((NF 4 - 0).toNat)) 0 0 (-1) 0 lg mr en pw sl ly dn A0 A1 A2 A3 A4 A5 A6 _ _ _ (Nat.lt_succ_self _) ⟨rfl, by omega⟩ ⟨rfl, rfl⟩ (by omega) (lv_sub hl [3, 2, 1, 0] rfl) hG

set_option maxHeartbeats 1000000 in
set_option maxRecDepth 100000 in
theorem c_X9_strongest (l : Launch) (K : KC) (am : Nat → Nat) (th : Int) (rw : Nat) (lg : Int) (mr : Int) (en : Int) (pw : Int) (sl : Int) (ly : Int) (dn : Int) (iz : Int) (tz : Int) (nx : Int) (st : Int) (tk : Int) (vl : Int) (ef : Int) (ep : Int) (hO : Int) (hB : Int) (ol : Int) (rm : Int) (oz : Int) (NF : Int → Int) (A0 : Int → Int) (A1 : Int → Int) (A2 : Int → Int) (A3 : Int → Int) (A4 : Int → Int) (A5 : Int → Int) (A6 : Int → Int) (hN : NOk0 NF) : mG l yX9_strongest wsX9_strongest 7 156 K [.ref (am 0)] [gMdl K am th rw lg mr en pw sl ly dn iz tz nx st tk vl ef ep hO hB ol rm oz, gArr K 95 rw NF, gArr K 60 (am 3) A0, gArrZ K 60 (am 4) A1, gArr K 60 (am 5) A2, gArr K 60 (am 6) A3, gArr K 60 (am 7) A4, gArr K 60 (am 8) A5, gArr K 60 (am 9) A6] (fun (v : Value) (u : Int × Int × Int × Int × Int × Int × Int × (Int → Int) × (Int → Int) × (Int → Int) × (Int → Int) × (Int → Int) × (Int → Int) × (Int → Int)) => (v = .int (iI ((bstN (fun i : Nat => decide (eS NF (i : Int) = 0 ∨ eS NF (i : Int) = 1)) (fun i : Nat => pS NF (i : Int)) (NF 4).toNat).1)))) (fun (u : Int × Int × Int × Int × Int × Int × Int × (Int → Int) × (Int → Int) × (Int → Int) × (Int → Int) × (Int → Int) × (Int → Int) × (Int → Int)) => [gMdl K am 0 rw u.1 u.2.1 u.2.2.1 u.2.2.2.1 u.2.2.2.2.1 u.2.2.2.2.2.1 u.2.2.2.2.2.2.1 iz tz nx st tk vl ef ep hO hB ol rm oz, gArr K 95 rw NF, gArr K 60 (am 3) u.2.2.2.2.2.2.2.1, gArrZ K 60 (am 4) u.2.2.2.2.2.2.2.2.1, gArr K 60 (am 5) u.2.2.2.2.2.2.2.2.2.1, gArr K 60 (am 6) u.2.2.2.2.2.2.2.2.2.2.1, gArr K 60 (am 7) u.2.2.2.2.2.2.2.2.2.2.2.1, gArr K 60 (am 8) u.2.2.2.2.2.2.2.2.2.2.2.2.1, gArr K 60 (am 9) u.2.2.2.2.2.2.2.2.2.2.2.2.2]) 0 0 := by
  refine mG_of cX9_strongest 5 (by decide) rfl (Nat.le_of_ble_eq_true rfl) ?_
  intro p e s m below meth c A ls Q S C hG hl hr hlk hin hQ
  have S : CallFix p m c cX9_strongest 5 s ([.ref (am 0)] : List Value).toArray wsX9_strongest RX9 := S
  have iX90 : ∀ w ∈ wsX90, w ∈ wsX9_strongest := fun _ h => List.mem_cons_of_mem _ (List.mem_append_right _ (h))
  have hl : lv_has ls 5 [(0, .ref (am 0))] := hl
  have hG : gW K A s.heap [gMdl K am th rw lg mr en pw sl ly dn iz tz nx st tk vl ef ep hO hB ol rm oz, gArr K 95 rw NF, gArr K 60 (am 3) A0, gArrZ K 60 (am 4) A1, gArr K 60 (am 5) A2, gArr K 60 (am 6) A3, gArr K 60 (am 7) A4, gArr K 60 (am 8) A5, gArr K 60 (am 9) A6] s.heap [] := hG
  have n0 := hN.1
  have n3 := hN.2.2.2.1
  refine lv_aload_n S.1 S.2.1 dX9_strongest_0 rfl (lv_at hl 0 rfl) ?_
  refine g_iconst S dX9_strongest_1 ?_
  refine g_put (gs' := [gMdl K am 0 rw lg mr en pw sl ly dn iz tz nx st tk vl ef ep hO hB ol rm oz, gArr K 95 rw NF, gArr K 60 (am 3) A0, gArrZ K 60 (am 4) A1, gArr K 60 (am 5) A2, gArr K 60 (am 6) A3, gArr K 60 (am 7) A4, gArr K 60 (am 8) A5, gArr K 60 (am 9) A6]) S C hG iX90 tyX9 tyX9_ok nmX9 0 rfl rfl 0 (by decide) (List.mem_of_getElem? (i := 1) rfl) rfl rfl rfl (Nat.le_of_ble_eq_true rfl) rfl dX9_strongest_2 (fun H locs hG => ?_)
  refine g_iconst S dX9_strongest_5 ?_
  refine lv_istore_n (lv' := [(1, .int (iI (-1))), (0, .ref (am 0))]) S.1 S.2.1 dX9_strongest_6 rfl hl (by decide) rfl (fun ls hl => ?_)
  refine g_ldc2 (z := (-1)) S dX9_strongest_7 (List.mem_of_getElem? (i := 2) rfl) rfl ?_
  refine lv_lstore_n (lv' := [(2, .long (iL (-1))), (1, .int (iI (-1))), (0, .ref (am 0))]) S.1 S.2.1 dX9_strongest_10 rfl hl (by decide) rfl (fun ls hl => ?_)
  refine g_iconst S dX9_strongest_11 ?_
  refine lv_istore (lv' := [(4, .int (iI 0)), (2, .long (iL (-1))), (1, .int (iI (-1))), (0, .ref (am 0))]) S.1 S.2.1 dX9_strongest_12 hl (by decide) rfl (fun ls hl => ?_)
  have L14 : ∀ (fu : Nat) (k : Nat) (w : Int) (bb : Int) (mm : Int) (lg1 : Int) (mr1 : Int) (en1 : Int) (pw1 : Int) (sl1 : Int) (ly1 : Int) (dn1 : Int) (E0 : Int → Int) (E1 : Int → Int) (E2 : Int → Int) (E3 : Int → Int) (E4 : Int → Int) (E5 : Int → Int) (E6 : Int → Int) (H : Heap) (locs : List Loc) (ls : Array Slot), ((NF 4 - w).toNat) < fu → (w = (k : Int) ∧ w ≤ NF 4) → (bb = (bstN (fun i : Nat => decide (eS NF (i : Int) = 0 ∨ eS NF (i : Int) = 1)) (fun i : Nat => pS NF (i : Int)) k).1 ∧ (bb = -1 ∧ mm = -1 ∨ ¬ bb = -1 ∧ mm = (bstN (fun i : Nat => decide (eS NF (i : Int) = 0 ∨ eS NF (i : Int) = 1)) (fun i : Nat => pS NF (i : Int)) k).2)) → (-1 ≤ mm ∧ mm ≤ 200000000 ∧ -1 ≤ bb ∧ bb ≤ 20) → lv_has ls 5 [(0, .ref (am 0)), (1, .int (iI bb)), (2, .long (iL mm)), (4, .int (iI w))] → gW K A s.heap [gMdl K am 0 rw lg1 mr1 en1 pw1 sl1 ly1 dn1 iz tz nx st tk vl ef ep hO hB ol rm oz, gArr K 95 rw NF, gArr K 60 (am 3) E0, gArrZ K 60 (am 4) E1, gArr K 60 (am 5) E2, gArr K 60 (am 6) E3, gArr K 60 (am 7) E4, gArr K 60 (am 8) E5, gArr K 60 (am 9) E6] H locs → W p l e { frames := 7, cells := 0, slots := 0, locals := 156 } s m ([.ref (am 0)] : List Value).toArray below meth c H locs 0 0 Q (F0 m 14 ls []) := by
    intro fu
    induction fu with
    | zero => intro k w bb mm lg1 mr1 en1 pw1 sl1 ly1 dn1 E0 E1 E2 E3 E4 E5 E6 H locs ls hfu; exact absurd hfu (Nat.not_lt_zero _)
    | succ fu ih =>
      intro k w bb mm lg1 mr1 en1 pw1 sl1 ly1 dn1 E0 E1 E2 E3 E4 E5 E6 H locs ls hfu hw hb hm hl hG
      refine lv_iload S.1 S.2.1 dX9_strongest_14 (lv_at hl 3 rfl) ?_
      refine lv_aload_n S.1 S.2.1 dX9_strongest_16 rfl (lv_at hl 0 rfl) ?_
      refine g_invV (As := []) (rest := [.int (iI w)]) (gs' := (fun u : Unit => [gMdl K am 0 rw lg1 mr1 en1 pw1 sl1 ly1 dn1 iz tz nx st tk vl ef ep hO hB ol rm oz, gArr K 95 rw NF, gArr K 60 (am 3) E0, gArrZ K 60 (am 4) E1, gArr K 60 (am 5) E2, gArr K 60 (am 6) E3, gArr K 60 (am 7) E4, gArr K 60 (am 8) E5, gArr K 60 (am 9) E6])) S C hG [0, 1] (c_X9_shots l K am 0 rw lg1 mr1 en1 pw1 sl1 ly1 dn1 iz tz nx st tk vl ef ep hO hB ol rm oz NF) rfl rfl 0 rfl rfl (cwV 0 S.2.2.2.2 gX9_strongest_X9_shots rfl rfl rfl (by decide +kernel) ⟨Nat.le_of_ble_eq_true rfl, Nat.le_of_ble_eq_true rfl⟩) rfl hl.1 rfl (Nat.le_of_ble_eq_true rfl) dX9_strongest_17 ⟨Nat.le_of_ble_eq_true rfl, Nat.le_of_ble_eq_true rfl⟩ (fun _ => Nat.le_of_ble_eq_true rfl) (fun _ => rfl) (fun v u H locs hp hG => ?_)
      subst hp
      refine g_icmp_ge (tgt := 55) S dX9_strongest_20 (by decide) (by omega) (by omega) (fun q20 => ?_) (fun q20 => ?_)
      · skip
        refine lv_iload_n S.1 S.2.1 dX9_strongest_55 rfl (lv_at hl 1 rfl) ?_
        have hG : gW K A s.heap [gMdl K am 0 rw lg1 mr1 en1 pw1 sl1 ly1 dn1 iz tz nx st tk vl ef ep hO hB ol rm oz, gArr K 95 rw NF, gArr K 60 (am 3) E0, gArrZ K 60 (am 4) E1, gArr K 60 (am 5) E2, gArr K 60 (am 6) E3, gArr K 60 (am 7) E4, gArr K 60 (am 8) E5, gArr K 60 (am 9) E6] _ _ := hG
        exact g_iret S hr hlk hQ dX9_strongest_56 (Nat.le_of_ble_eq_true rfl) (Nat.le_of_ble_eq_true rfl) ((lg1, mr1, en1, pw1, sl1, ly1, dn1, E0, E1, E2, E3, E4, E5, E6) : Int × Int × Int × Int × Int × Int × Int × (Int → Int) × (Int → Int) × (Int → Int) × (Int → Int) × (Int → Int) × (Int → Int) × (Int → Int)) (congrArg (fun z : Int => Value.int (iI z)) (by rw [hb.1, show (NF 4).toNat = k by omega])) hG
      · skip
        refine lv_aload_n S.1 S.2.1 dX9_strongest_23 rfl (lv_at hl 0 rfl) ?_
        refine lv_iload S.1 S.2.1 dX9_strongest_24 (lv_at hl 3 rfl) ?_
        refine g_invV (As := [.int (iI w)]) (rest := []) (gs' := (fun u : Int × Int × Int × Int × Int × Int × Int × (Int → Int) × (Int → Int) × (Int → Int) × (Int → Int) × (Int → Int) × (Int → Int) × (Int → Int) => [gMdl K am 0 rw u.1 u.2.1 u.2.2.1 u.2.2.2.1 u.2.2.2.2.1 u.2.2.2.2.2.1 u.2.2.2.2.2.2.1 iz tz nx st tk vl ef ep hO hB ol rm oz, gArr K 95 rw NF, gArr K 60 (am 3) u.2.2.2.2.2.2.2.1, gArrZ K 60 (am 4) u.2.2.2.2.2.2.2.2.1, gArr K 60 (am 5) u.2.2.2.2.2.2.2.2.2.1, gArr K 60 (am 6) u.2.2.2.2.2.2.2.2.2.2.1, gArr K 60 (am 7) u.2.2.2.2.2.2.2.2.2.2.2.1, gArr K 60 (am 8) u.2.2.2.2.2.2.2.2.2.2.2.2.1, gArr K 60 (am 9) u.2.2.2.2.2.2.2.2.2.2.2.2.2])) S C hG [0, 1, 2, 3, 4, 5, 6, 7, 8] (c_X9_isOut l K am 0 rw lg1 mr1 en1 pw1 sl1 ly1 dn1 iz tz nx st tk vl ef ep hO hB ol rm oz NF E0 E1 E2 E3 E4 E5 E6 w hN ⟨by omega, by omega⟩) rfl rfl 0 rfl rfl (cwV 1 S.2.2.2.2 gX9_strongest_X9_isOut rfl rfl rfl (by decide +kernel) ⟨Nat.le_of_ble_eq_true rfl, Nat.le_of_ble_eq_true rfl⟩) rfl hl.1 rfl (Nat.le_of_ble_eq_true rfl) dX9_strongest_26 ⟨Nat.le_of_ble_eq_true rfl, Nat.le_of_ble_eq_true rfl⟩ (fun _ => Nat.le_of_ble_eq_true rfl) (fun _ => rfl) (fun v u H locs hp hG => ?_)
        obtain ⟨lg2_26, mr2_26, en2_26, pw2_26, sl2_26, ly2_26, dn2_26, B0_26, B1_26, B2_26, B3_26, B4_26, B5_26, B6_26⟩ := u
        obtain ⟨rfl, hf_26⟩ := hp
        have hf_26 : FolS NF w lg2_26 mr2_26 en2_26 pw2_26 B0_26 B1_26 B2_26 B3_26 B4_26 B5_26 B6_26 := hf_26
        have hG : gW K A s.heap [gMdl K am 0 rw lg2_26 mr2_26 en2_26 pw2_26 sl2_26 ly2_26 dn2_26 iz tz nx st tk vl ef ep hO hB ol rm oz, gArr K 95 rw NF, gArr K 60 (am 3) B0_26, gArrZ K 60 (am 4) B1_26, gArr K 60 (am 5) B2_26, gArr K 60 (am 6) B3_26, gArr K 60 (am 7) B4_26, gArr K 60 (am 8) B5_26, gArr K 60 (am 9) B6_26] _ _ := hG
        have g4 := sho_bd hN (r := w) (by omega) (by omega)
        have g5 := shF_bd hN (p := sP NF w) (y := sY NF w) (e := sD NF w) g4.2.2.1 g4.2.1
        have g6 : 0 ≤ tS NF (k : Int) ∧ tS NF (k : Int) ≤ 119880000 := by rw [← hw.1] <;> exact g5.2.1
        have g7 : 0 ≤ pS NF (k : Int) ∧ pS NF (k : Int) ≤ 1000000 := by rw [← hw.1] <;> exact g5.2.2
        have fb := hf_26.bd hN g4.2.2.1 g4.2.1
        have f4 : pw2_26 = pS NF (k : Int) := by rw [← hw.1] <;> exact hf_26.2.2.2.1
        refine g_top (w := .int (iI (bI (eS NF (k : Int) = 0 ∨ eS NF (k : Int) = 1)))) (congrArg (fun z : Int => Value.int (iI z)) ((by rw [hw.1]))) ?_
        refine g_ifeq_b (B := (eS NF (k : Int) = 0 ∨ eS NF (k : Int) = 1)) (tgt := 49) S dX9_strongest_29 (by decide) (fun q29 => ?_) (fun q29 => ?_)
        · skip
          refine lv_iinc (v := iI (w + 1)) (lv' := [(4, .int (iI (w + 1))), (0, .ref (am 0)), (1, .int (iI bb)), (2, .long (iL mm))]) S.1 S.2.1 dX9_strongest_49 hl (k := 3) rfl (g_iinc rfl) (by decide) rfl (fun ls hl => ?_)
          refine lv_goto (tgt := 14) S.1 S.2.1 dX9_strongest_52 (by decide) ?_
          exact ih (k + 1) (w + 1) bb mm lg2_26 mr2_26 en2_26 pw2_26 sl2_26 ly2_26 dn2_26 B0_26 B1_26 B2_26 B3_26 B4_26 B5_26 B6_26 _ _ _ (by omega) ⟨by omega, by omega⟩ (by rw [bst_no (by simpa using q29)] <;> exact hb) (by omega) (lv_sub hl [1, 2, 3, 0] rfl) hG
        · skip
          refine lv_aload_n S.1 S.2.1 dX9_strongest_32 rfl (lv_at hl 0 rfl) ?_
          refine g_get S C hG iX90 0 rfl rfl 14 (by decide) (List.mem_of_getElem? (i := 3) rfl) rfl dX9_strongest_33 ?_
          refine lv_lload_n S.1 S.2.1 dX9_strongest_36 rfl (lv_at hl 2 rfl) ?_
          refine g_lcmp S dX9_strongest_37 (by omega) (by omega) ?_
          refine g_if_le (tgt := 49) S dX9_strongest_38 (by decide) (by omega) (fun q38 => ?_) (fun q38 => ?_)
          · skip
            refine lv_iinc (v := iI (w + 1)) (lv' := [(4, .int (iI (w + 1))), (0, .ref (am 0)), (1, .int (iI bb)), (2, .long (iL mm))]) S.1 S.2.1 dX9_strongest_49 hl (k := 3) rfl (g_iinc rfl) (by decide) rfl (fun ls hl => ?_)
            refine lv_goto (tgt := 14) S.1 S.2.1 dX9_strongest_52 (by decide) ?_
            exact ih (k + 1) (w + 1) bb mm lg2_26 mr2_26 en2_26 pw2_26 sl2_26 ly2_26 dn2_26 B0_26 B1_26 B2_26 B3_26 B4_26 B5_26 B6_26 _ _ _ (by omega) ⟨by omega, by omega⟩ (by rw [bst_keep (by omega) (by omega)] <;> exact hb) (by omega) (lv_sub hl [1, 2, 3, 0] rfl) hG
          · skip
            refine lv_iload S.1 S.2.1 dX9_strongest_41 (lv_at hl 3 rfl) ?_
            refine lv_istore_n (lv' := [(1, .int (iI w)), (0, .ref (am 0)), (2, .long (iL mm)), (4, .int (iI w))]) S.1 S.2.1 dX9_strongest_43 rfl hl (by decide) rfl (fun ls hl => ?_)
            refine lv_aload_n S.1 S.2.1 dX9_strongest_44 rfl (lv_at hl 1 rfl) ?_
            refine g_get S C hG iX90 0 rfl rfl 14 (by decide) (List.mem_of_getElem? (i := 3) rfl) rfl dX9_strongest_45 ?_
            refine lv_lstore_n (lv' := [(2, .long (iL pw2_26)), (1, .int (iI w)), (0, .ref (am 0)), (4, .int (iI w))]) S.1 S.2.1 dX9_strongest_48 rfl hl (by decide) rfl (fun ls hl => ?_)
            refine lv_iinc (v := iI (w + 1)) (lv' := [(4, .int (iI (w + 1))), (2, .long (iL pw2_26)), (1, .int (iI w)), (0, .ref (am 0))]) S.1 S.2.1 dX9_strongest_49 hl (k := 3) rfl (g_iinc rfl) (by decide) rfl (fun ls hl => ?_)
            refine lv_goto (tgt := 14) S.1 S.2.1 dX9_strongest_52 (by decide) ?_
            exact ih (k + 1) (w + 1) w pw2_26 lg2_26 mr2_26 en2_26 pw2_26 sl2_26 ly2_26 dn2_26 B0_26 B1_26 B2_26 B3_26 B4_26 B5_26 B6_26 _ _ _ (by omega) ⟨by omega, by omega⟩ (by rw [bst_yes (by simpa using q29) (by omega)] <;> exact ⟨hw.1, Or.inr ⟨by omega, f4⟩⟩) (by omega) (lv_sub hl [3, 2, 1, 0] rfl) hG
  exact L14 (Nat.succ ((NF 4 - 0).toNat)) 0 0 (-1) (-1) lg mr en pw sl ly dn A0 A1 A2 A3 A4 A5 A6 _ _ _ (Nat.lt_succ_self _) ⟨rfl, by omega⟩ ⟨rfl, Or.inl ⟨rfl, rfl⟩⟩ (by omega) (lv_sub hl [3, 2, 1, 0] rfl) hG

set_option maxHeartbeats 1000000 in
set_option maxRecDepth 100000 in
theorem c_X9_legsThrough (l : Launch) (K : KC) (am : Nat → Nat) (th : Int) (rw : Nat) (lg : Int) (mr : Int) (en : Int) (pw : Int) (sl : Int) (ly : Int) (dn : Int) (iz : Int) (tz : Int) (nx : Int) (st : Int) (tk : Int) (vl : Int) (ef : Int) (ep : Int) (hO : Int) (hB : Int) (ol : Int) (rm : Int) (oz : Int) (NF : Int → Int) (A0 : Int → Int) (A1 : Int → Int) (A2 : Int → Int) (A3 : Int → Int) (A4 : Int → Int) (A5 : Int → Int) (A6 : Int → Int) (x : Int) (hN : NOk0 NF) (hx : -2147483648 ≤ x ∧ x < 2147483648) : mG l yX9_legsThrough wsX9_legsThrough 6 135 K [.ref (am 0), .int (iI x)] [gMdl K am th rw lg mr en pw sl ly dn iz tz nx st tk vl ef ep hO hB ol rm oz, gArr K 95 rw NF, gArr K 60 (am 3) A0, gArrZ K 60 (am 4) A1, gArr K 60 (am 5) A2, gArr K 60 (am 6) A3, gArr K 60 (am 7) A4, gArr K 60 (am 8) A5, gArr K 60 (am 9) A6] (fun (v : Value) (u : Int × Int × Int × Int × Int × Int × Int × (Int → Int) × (Int → Int) × (Int → Int) × (Int → Int) × (Int → Int) × (Int → Int) × (Int → Int)) => (v = .int (iI (lacN NF x (NF 4).toNat)))) (fun (u : Int × Int × Int × Int × Int × Int × Int × (Int → Int) × (Int → Int) × (Int → Int) × (Int → Int) × (Int → Int) × (Int → Int) × (Int → Int)) => [gMdl K am th rw u.1 u.2.1 u.2.2.1 u.2.2.2.1 u.2.2.2.2.1 u.2.2.2.2.2.1 u.2.2.2.2.2.2.1 iz tz nx st tk vl ef ep hO hB ol rm oz, gArr K 95 rw NF, gArr K 60 (am 3) u.2.2.2.2.2.2.2.1, gArrZ K 60 (am 4) u.2.2.2.2.2.2.2.2.1, gArr K 60 (am 5) u.2.2.2.2.2.2.2.2.2.1, gArr K 60 (am 6) u.2.2.2.2.2.2.2.2.2.2.1, gArr K 60 (am 7) u.2.2.2.2.2.2.2.2.2.2.2.1, gArr K 60 (am 8) u.2.2.2.2.2.2.2.2.2.2.2.2.1, gArr K 60 (am 9) u.2.2.2.2.2.2.2.2.2.2.2.2.2]) 0 0 := by
  refine mG_of cX9_legsThrough 5 (by decide) rfl (Nat.le_of_ble_eq_true rfl) ?_
  intro p e s m below meth c A ls Q S C hG hl hr hlk hin hQ
  have S : CallFix p m c cX9_legsThrough 5 s ([.ref (am 0), .int (iI x)] : List Value).toArray wsX9_legsThrough RX9 := S
  have iX90 : ∀ w ∈ wsX90, w ∈ wsX9_legsThrough := fun _ h => List.mem_cons_of_mem _ (List.mem_append_right _ (h))
  have hl : lv_has ls 5 [(0, .ref (am 0)), (1, .int (iI x))] := hl
  have hG : gW K A s.heap [gMdl K am th rw lg mr en pw sl ly dn iz tz nx st tk vl ef ep hO hB ol rm oz, gArr K 95 rw NF, gArr K 60 (am 3) A0, gArrZ K 60 (am 4) A1, gArr K 60 (am 5) A2, gArr K 60 (am 6) A3, gArr K 60 (am 7) A4, gArr K 60 (am 8) A5, gArr K 60 (am 9) A6] s.heap [] := hG
  have n0 := hN.1
  have n3 := hN.2.2.2.1
  refine g_iconst S dX9_legsThrough_0 ?_
  refine lv_istore_n (lv' := [(2, .int (iI 0)), (0, .ref (am 0)), (1, .int (iI x))]) S.1 S.2.1 dX9_legsThrough_1 rfl hl (by decide) rfl (fun ls hl => ?_)
  refine g_iconst S dX9_legsThrough_2 ?_
  refine lv_istore_n (lv' := [(3, .int (iI 0)), (2, .int (iI 0)), (0, .ref (am 0)), (1, .int (iI x))]) S.1 S.2.1 dX9_legsThrough_3 rfl hl (by decide) rfl (fun ls hl => ?_)
  have L4 : ∀ (fu : Nat) (k : Nat) (w : Int) (f : Int) (lg1 : Int) (mr1 : Int) (en1 : Int) (pw1 : Int) (sl1 : Int) (ly1 : Int) (dn1 : Int) (E0 : Int → Int) (E1 : Int → Int) (E2 : Int → Int) (E3 : Int → Int) (E4 : Int → Int) (E5 : Int → Int) (E6 : Int → Int) (H : Heap) (locs : List Loc) (ls : Array Slot), ((NF 4 - w).toNat) < fu → (w = (k : Int) ∧ w ≤ NF 4) → (f = lacN NF x k) → (0 ≤ f ∧ f ≤ 60 * w) → lv_has ls 5 [(0, .ref (am 0)), (1, .int (iI x)), (2, .int (iI f)), (3, .int (iI w))] → gW K A s.heap [gMdl K am th rw lg1 mr1 en1 pw1 sl1 ly1 dn1 iz tz nx st tk vl ef ep hO hB ol rm oz, gArr K 95 rw NF, gArr K 60 (am 3) E0, gArrZ K 60 (am 4) E1, gArr K 60 (am 5) E2, gArr K 60 (am 6) E3, gArr K 60 (am 7) E4, gArr K 60 (am 8) E5, gArr K 60 (am 9) E6] H locs → W p l e { frames := 6, cells := 0, slots := 0, locals := 135 } s m ([.ref (am 0), .int (iI x)] : List Value).toArray below meth c H locs 0 0 Q (F0 m 4 ls []) := by
    intro fu
    induction fu with
    | zero => intro k w f lg1 mr1 en1 pw1 sl1 ly1 dn1 E0 E1 E2 E3 E4 E5 E6 H locs ls hfu; exact absurd hfu (Nat.not_lt_zero _)
    | succ fu ih =>
      intro k w f lg1 mr1 en1 pw1 sl1 ly1 dn1 E0 E1 E2 E3 E4 E5 E6 H locs ls hfu hw hb hf hl hG
      refine lv_iload_n S.1 S.2.1 dX9_legsThrough_4 rfl (lv_at hl 3 rfl) ?_
      refine lv_aload_n S.1 S.2.1 dX9_legsThrough_5 rfl (lv_at hl 0 rfl) ?_
      refine g_invV (As := []) (rest := [.int (iI w)]) (gs' := (fun u : Unit => [gMdl K am th rw lg1 mr1 en1 pw1 sl1 ly1 dn1 iz tz nx st tk vl ef ep hO hB ol rm oz, gArr K 95 rw NF, gArr K 60 (am 3) E0, gArrZ K 60 (am 4) E1, gArr K 60 (am 5) E2, gArr K 60 (am 6) E3, gArr K 60 (am 7) E4, gArr K 60 (am 8) E5, gArr K 60 (am 9) E6])) S C hG [0, 1] (c_X9_shots l K am th rw lg1 mr1 en1 pw1 sl1 ly1 dn1 iz tz nx st tk vl ef ep hO hB ol rm oz NF) rfl rfl 0 rfl rfl (cwV 0 S.2.2.2.2 gX9_legsThrough_X9_shots rfl rfl rfl (by decide +kernel) ⟨Nat.le_of_ble_eq_true rfl, Nat.le_of_ble_eq_true rfl⟩) rfl hl.1 rfl (Nat.le_of_ble_eq_true rfl) dX9_legsThrough_6 ⟨Nat.le_of_ble_eq_true rfl, Nat.le_of_ble_eq_true rfl⟩ (fun _ => Nat.le_of_ble_eq_true rfl) (fun _ => rfl) (fun v u H locs hp hG => ?_)
      subst hp
      refine g_icmp_ge (tgt := 60) S dX9_legsThrough_9 (by decide) (by omega) (by omega) (fun q9 => ?_) (fun q9 => ?_)
      · skip
        refine lv_iload_n S.1 S.2.1 dX9_legsThrough_60 rfl (lv_at hl 2 rfl) ?_
        have hG : gW K A s.heap [gMdl K am th rw lg1 mr1 en1 pw1 sl1 ly1 dn1 iz tz nx st tk vl ef ep hO hB ol rm oz, gArr K 95 rw NF, gArr K 60 (am 3) E0, gArrZ K 60 (am 4) E1, gArr K 60 (am 5) E2, gArr K 60 (am 6) E3, gArr K 60 (am 7) E4, gArr K 60 (am 8) E5, gArr K 60 (am 9) E6] _ _ := hG
        exact g_iret S hr hlk hQ dX9_legsThrough_61 (Nat.le_of_ble_eq_true rfl) (Nat.le_of_ble_eq_true rfl) ((lg1, mr1, en1, pw1, sl1, ly1, dn1, E0, E1, E2, E3, E4, E5, E6) : Int × Int × Int × Int × Int × Int × Int × (Int → Int) × (Int → Int) × (Int → Int) × (Int → Int) × (Int → Int) × (Int → Int) × (Int → Int)) (congrArg (fun z : Int => Value.int (iI z)) (by rw [hb, show (NF 4).toNat = k by omega])) hG
      · skip
        refine lv_aload_n S.1 S.2.1 dX9_legsThrough_12 rfl (lv_at hl 0 rfl) ?_
        refine lv_iload_n S.1 S.2.1 dX9_legsThrough_13 rfl (lv_at hl 3 rfl) ?_
        refine g_invVv (As := [.int (iI w)]) (rest := []) (gs' := (fun u : Int × Int × Int × Int × Int × Int × Int × (Int → Int) × (Int → Int) × (Int → Int) × (Int → Int) × (Int → Int) × (Int → Int) × (Int → Int) => [gMdl K am th rw u.1 u.2.1 u.2.2.1 u.2.2.2.1 u.2.2.2.2.1 u.2.2.2.2.2.1 u.2.2.2.2.2.2.1 iz tz nx st tk vl ef ep hO hB ol rm oz, gArr K 95 rw NF, gArr K 60 (am 3) u.2.2.2.2.2.2.2.1, gArrZ K 60 (am 4) u.2.2.2.2.2.2.2.2.1, gArr K 60 (am 5) u.2.2.2.2.2.2.2.2.2.1, gArr K 60 (am 6) u.2.2.2.2.2.2.2.2.2.2.1, gArr K 60 (am 7) u.2.2.2.2.2.2.2.2.2.2.2.1, gArr K 60 (am 8) u.2.2.2.2.2.2.2.2.2.2.2.2.1, gArr K 60 (am 9) u.2.2.2.2.2.2.2.2.2.2.2.2.2])) S C hG [0, 1, 2, 3, 4, 5, 6, 7, 8] (c_X9_followShot l K am th rw lg1 mr1 en1 pw1 sl1 ly1 dn1 iz tz nx st tk vl ef ep hO hB ol rm oz NF E0 E1 E2 E3 E4 E5 E6 w hN ⟨by omega, by omega⟩) rfl rfl 0 rfl rfl (cwV 1 S.2.2.2.2 gX9_legsThrough_X9_followShot rfl rfl rfl (by decide +kernel) ⟨Nat.le_of_ble_eq_true rfl, Nat.le_of_ble_eq_true rfl⟩) rfl hl.1 rfl (Nat.le_of_ble_eq_true rfl) dX9_legsThrough_14 ⟨Nat.le_of_ble_eq_true rfl, Nat.le_of_ble_eq_true rfl⟩ (fun _ => Nat.le_of_ble_eq_true rfl) (fun _ => rfl) (fun u H locs hp hG => ?_)
        obtain ⟨lg2_14, mr2_14, en2_14, pw2_14, sl2_14, ly2_14, dn2_14, B0_14, B1_14, B2_14, B3_14, B4_14, B5_14, B6_14⟩ := u
        have hf_14 := hp
        have hf_14 : FolS NF w lg2_14 mr2_14 en2_14 pw2_14 B0_14 B1_14 B2_14 B3_14 B4_14 B5_14 B6_14 := hf_14
        have hG : gW K A s.heap [gMdl K am th rw lg2_14 mr2_14 en2_14 pw2_14 sl2_14 ly2_14 dn2_14 iz tz nx st tk vl ef ep hO hB ol rm oz, gArr K 95 rw NF, gArr K 60 (am 3) B0_14, gArrZ K 60 (am 4) B1_14, gArr K 60 (am 5) B2_14, gArr K 60 (am 6) B3_14, gArr K 60 (am 7) B4_14, gArr K 60 (am 8) B5_14, gArr K 60 (am 9) B6_14] _ _ := hG
        have g4 := sho_bd hN (r := w) (by omega) (by omega)
        have fb := hf_14.bd hN g4.2.2.1 g4.2.1
        have g9 : lg2_14.toNat = gS NF (k : Int) := by rw [← hw.1] <;> exact hf_14.n
        have c9 : cnF B0_14 x lg2_14.toNat = lacS NF x (k : Int) := by rw [g9] <;> exact cnF_congr x _ (fun i hi => ((show FolS NF (k : Int) lg2_14 mr2_14 en2_14 pw2_14 B0_14 B1_14 B2_14 B3_14 B4_14 B5_14 B6_14 by rw [← hw.1] <;> exact hf_14).at0 hi).1)
        refine g_iconst S dX9_legsThrough_17 ?_
        refine lv_istore (lv' := [(4, .int (iI 0)), (0, .ref (am 0)), (1, .int (iI x)), (2, .int (iI f)), (3, .int (iI w))]) S.1 S.2.1 dX9_legsThrough_18 hl (by decide) rfl (fun ls hl => ?_)
        have L20 : ∀ (fu : Nat) (j : Nat) (vv : Int) (gg : Int) (H : Heap) (locs : List Loc) (ls : Array Slot), ((lg2_14 - vv).toNat) < fu → (vv = (j : Int) ∧ vv ≤ lg2_14) → (gg = f + cnF B0_14 x j) → (f ≤ gg ∧ gg ≤ f + vv) → lv_has ls 5 [(0, .ref (am 0)), (1, .int (iI x)), (2, .int (iI gg)), (3, .int (iI w)), (4, .int (iI vv))] → gW K A s.heap [gMdl K am th rw lg2_14 mr2_14 en2_14 pw2_14 sl2_14 ly2_14 dn2_14 iz tz nx st tk vl ef ep hO hB ol rm oz, gArr K 95 rw NF, gArr K 60 (am 3) B0_14, gArrZ K 60 (am 4) B1_14, gArr K 60 (am 5) B2_14, gArr K 60 (am 6) B3_14, gArr K 60 (am 7) B4_14, gArr K 60 (am 8) B5_14, gArr K 60 (am 9) B6_14] H locs → W p l e { frames := 6, cells := 0, slots := 0, locals := 135 } s m ([.ref (am 0), .int (iI x)] : List Value).toArray below meth c H locs 0 0 Q (F0 m 20 ls []) := by
          intro fu
          induction fu with
          | zero => intro j vv gg H locs ls hfu; exact absurd hfu (Nat.not_lt_zero _)
          | succ fu ih20 =>
            intro j vv gg H locs ls hfu hv2 hb2 hf2 hl hG
            refine lv_iload S.1 S.2.1 dX9_legsThrough_20 (lv_at hl 4 rfl) ?_
            refine lv_aload_n S.1 S.2.1 dX9_legsThrough_22 rfl (lv_at hl 0 rfl) ?_
            refine g_get S C hG iX90 0 rfl rfl 11 (by decide) (List.mem_of_getElem? (i := 1) rfl) rfl dX9_legsThrough_23 ?_
            refine g_icmp_ge (tgt := 54) S dX9_legsThrough_26 (by decide) (by omega) (by omega) (fun q26 => ?_) (fun q26 => ?_)
            · skip
              refine lv_iinc (v := iI (w + 1)) (lv' := [(3, .int (iI (w + 1))), (0, .ref (am 0)), (1, .int (iI x)), (2, .int (iI gg)), (4, .int (iI vv))]) S.1 S.2.1 dX9_legsThrough_54 hl (k := 3) rfl (g_iinc rfl) (by decide) rfl (fun ls hl => ?_)
              refine lv_goto (tgt := 4) S.1 S.2.1 dX9_legsThrough_57 (by decide) ?_
              exact ih (k + 1) (w + 1) gg lg2_14 mr2_14 en2_14 pw2_14 sl2_14 ly2_14 dn2_14 B0_14 B1_14 B2_14 B3_14 B4_14 B5_14 B6_14 _ _ _ (by omega) ⟨by omega, by omega⟩ (by simp only [lacN] <;> rw [← hb, ← c9, hb2, show lg2_14.toNat = j by omega]) (by omega) (lv_sub hl [1, 2, 3, 0] rfl) hG
            · skip
              refine lv_iload_n S.1 S.2.1 dX9_legsThrough_29 rfl (lv_at hl 2 rfl) ?_
              refine lv_aload_n S.1 S.2.1 dX9_legsThrough_30 rfl (lv_at hl 0 rfl) ?_
              refine g_get S C hG iX90 0 rfl rfl 4 (by decide) (List.mem_of_getElem? (i := 2) rfl) rfl dX9_legsThrough_31 ?_
              refine lv_iload S.1 S.2.1 dX9_legsThrough_34 (lv_at hl 4 rfl) ?_
              refine g_iald S C hG 2 rfl (by omega) (by omega) (by omega) dX9_legsThrough_36 ?_
              refine lv_iload_n S.1 S.2.1 dX9_legsThrough_37 rfl (lv_at hl 1 rfl) ?_
              have z9 := fb.2.2.2 vv (by omega) (by omega)
              refine g_icmp_ne (tgt := 45) S dX9_legsThrough_38 (by decide) (by omega) (by omega) (fun q38 => ?_) (fun q38 => ?_)
              · skip
                refine g_iconst S dX9_legsThrough_45 ?_
                refine g_iadd S dX9_legsThrough_46 rfl ?_
                refine lv_istore_n (lv' := [(2, .int (iI (gg + 0))), (0, .ref (am 0)), (1, .int (iI x)), (3, .int (iI w)), (4, .int (iI vv))]) S.1 S.2.1 dX9_legsThrough_47 rfl hl (by decide) rfl (fun ls hl => ?_)
                refine lv_iinc (v := iI (vv + 1)) (lv' := [(4, .int (iI (vv + 1))), (2, .int (iI (gg + 0))), (0, .ref (am 0)), (1, .int (iI x)), (3, .int (iI w))]) S.1 S.2.1 dX9_legsThrough_48 hl (k := 4) rfl (g_iinc rfl) (by decide) rfl (fun ls hl => ?_)
                refine lv_goto (tgt := 20) S.1 S.2.1 dX9_legsThrough_51 (by decide) ?_
                exact ih20 (j + 1) (vv + 1) (gg + 0) _ _ _ (by omega) ⟨by omega, by omega⟩ (by unfold cnF <;> rw [hb2] <;> rw [if_neg (by rw [← hv2.1] <;> exact q38)] <;> omega) (by omega) (lv_sub hl [2, 3, 1, 4, 0] rfl) hG
              · skip
                refine g_iconst S dX9_legsThrough_41 ?_
                refine lv_goto (tgt := 46) S.1 S.2.1 dX9_legsThrough_42 (by decide) ?_
                refine g_iadd S dX9_legsThrough_46 rfl ?_
                refine lv_istore_n (lv' := [(2, .int (iI (gg + 1))), (0, .ref (am 0)), (1, .int (iI x)), (3, .int (iI w)), (4, .int (iI vv))]) S.1 S.2.1 dX9_legsThrough_47 rfl hl (by decide) rfl (fun ls hl => ?_)
                refine lv_iinc (v := iI (vv + 1)) (lv' := [(4, .int (iI (vv + 1))), (2, .int (iI (gg + 1))), (0, .ref (am 0)), (1, .int (iI x)), (3, .int (iI w))]) S.1 S.2.1 dX9_legsThrough_48 hl (k := 4) rfl (g_iinc rfl) (by decide) rfl (fun ls hl => ?_)
                refine lv_goto (tgt := 20) S.1 S.2.1 dX9_legsThrough_51 (by decide) ?_
                exact ih20 (j + 1) (vv + 1) (gg + 1) _ _ _ (by omega) ⟨by omega, by omega⟩ (by unfold cnF <;> rw [hb2] <;> rw [if_pos (by rw [← hv2.1] <;> omega)] <;> omega) (by omega) (lv_sub hl [2, 3, 1, 4, 0] rfl) hG
        exact L20 (Nat.succ ((lg2_14 - 0).toNat)) 0 0 f _ _ _ (Nat.lt_succ_self _) ⟨rfl, by omega⟩ (by simp [cnF]) (by omega) (lv_sub hl [1, 2, 3, 4, 0] rfl) hG
  exact L4 (Nat.succ ((NF 4 - 0).toNat)) 0 0 0 lg mr en pw sl ly dn A0 A1 A2 A3 A4 A5 A6 _ _ _ (Nat.lt_succ_self _) ⟨rfl, by omega⟩ rfl (by omega) (lv_sub hl [2, 3, 1, 0] rfl) hG

set_option maxHeartbeats 1000000 in
set_option maxRecDepth 100000 in
theorem c_X9_legsIn (l : Launch) (K : KC) (am : Nat → Nat) (th : Int) (rw : Nat) (lg : Int) (mr : Int) (en : Int) (pw : Int) (sl : Int) (ly : Int) (dn : Int) (iz : Int) (tz : Int) (nx : Int) (st : Int) (tk : Int) (vl : Int) (ef : Int) (ep : Int) (hO : Int) (hB : Int) (ol : Int) (rm : Int) (oz : Int) (NF : Int → Int) (A0 : Int → Int) (A1 : Int → Int) (A2 : Int → Int) (A3 : Int → Int) (A4 : Int → Int) (A5 : Int → Int) (A6 : Int → Int) (x : Int) (hN : NOk0 NF) (hx : -2147483648 ≤ x ∧ x < 2147483648) : mG l yX9_legsIn wsX9_legsIn 7 159 K [.ref (am 0), .int (iI x)] [gMdl K am th rw lg mr en pw sl ly dn iz tz nx st tk vl ef ep hO hB ol rm oz, gArr K 95 rw NF, gArr K 60 (am 3) A0, gArrZ K 60 (am 4) A1, gArr K 60 (am 5) A2, gArr K 60 (am 6) A3, gArr K 60 (am 7) A4, gArr K 60 (am 8) A5, gArr K 60 (am 9) A6] (fun (v : Value) (u : Int × Int × Int × Int × Int × Int × Int × Int × (Int → Int) × (Int → Int) × (Int → Int) × (Int → Int) × (Int → Int) × (Int → Int) × (Int → Int)) => (v = .int (iI u.1)) ∧ (0 ≤ x ∧ x < NF 0 → u.1 = lacN NF x (NF 4).toNat)) (fun (u : Int × Int × Int × Int × Int × Int × Int × Int × (Int → Int) × (Int → Int) × (Int → Int) × (Int → Int) × (Int → Int) × (Int → Int) × (Int → Int)) => [gMdl K am (thr (bI (0 ≤ x ∧ x < NF 0)) 1 1) rw u.2.1 u.2.2.1 u.2.2.2.1 u.2.2.2.2.1 u.2.2.2.2.2.1 u.2.2.2.2.2.2.1 u.2.2.2.2.2.2.2.1 iz tz nx st tk vl ef ep hO hB ol rm oz, gArr K 95 rw NF, gArr K 60 (am 3) u.2.2.2.2.2.2.2.2.1, gArrZ K 60 (am 4) u.2.2.2.2.2.2.2.2.2.1, gArr K 60 (am 5) u.2.2.2.2.2.2.2.2.2.2.1, gArr K 60 (am 6) u.2.2.2.2.2.2.2.2.2.2.2.1, gArr K 60 (am 7) u.2.2.2.2.2.2.2.2.2.2.2.2.1, gArr K 60 (am 8) u.2.2.2.2.2.2.2.2.2.2.2.2.2.1, gArr K 60 (am 9) u.2.2.2.2.2.2.2.2.2.2.2.2.2.2]) 0 0 := by
  refine mG_of cX9_legsIn 2 (by decide) rfl (Nat.le_of_ble_eq_true rfl) ?_
  intro p e s m below meth c A ls Q S C hG hl hr hlk hin hQ
  have S : CallFix p m c cX9_legsIn 2 s ([.ref (am 0), .int (iI x)] : List Value).toArray wsX9_legsIn RX9 := S
  have iX90 : ∀ w ∈ wsX90, w ∈ wsX9_legsIn := fun _ h => List.mem_cons_of_mem _ (List.mem_append_right _ (h))
  have hl : lv_has ls 2 [(0, .ref (am 0)), (1, .int (iI x))] := hl
  have hG : gW K A s.heap [gMdl K am th rw lg mr en pw sl ly dn iz tz nx st tk vl ef ep hO hB ol rm oz, gArr K 95 rw NF, gArr K 60 (am 3) A0, gArrZ K 60 (am 4) A1, gArr K 60 (am 5) A2, gArr K 60 (am 6) A3, gArr K 60 (am 7) A4, gArr K 60 (am 8) A5, gArr K 60 (am 9) A6] s.heap [] := hG
  have n0 := hN.1
  have n3 := hN.2.2.2.1
  refine lv_aload_n S.1 S.2.1 dX9_legsIn_0 rfl (lv_at hl 0 rfl) ?_
  refine lv_aload_n S.1 S.2.1 dX9_legsIn_1 rfl (lv_at hl 0 rfl) ?_
  refine lv_iload_n S.1 S.2.1 dX9_legsIn_2 rfl (lv_at hl 1 rfl) ?_
  refine g_invV (As := [.int (iI x)]) (rest := [.ref (am 0)]) (gs' := (fun u : Unit => [gMdl K am th rw lg mr en pw sl ly dn iz tz nx st tk vl ef ep hO hB ol rm oz, gArr K 95 rw NF, gArr K 60 (am 3) A0, gArrZ K 60 (am 4) A1, gArr K 60 (am 5) A2, gArr K 60 (am 6) A3, gArr K 60 (am 7) A4, gArr K 60 (am 8) A5, gArr K 60 (am 9) A6])) S C hG [0, 1] (c_X9_isLayer l K am th rw lg mr en pw sl ly dn iz tz nx st tk vl ef ep hO hB ol rm oz NF x hN hx) rfl rfl 0 rfl rfl (cwV 1 S.2.2.2.2 gX9_legsIn_X9_isLayer rfl rfl rfl (by decide +kernel) ⟨Nat.le_of_ble_eq_true rfl, Nat.le_of_ble_eq_true rfl⟩) rfl hl.1 rfl (Nat.le_of_ble_eq_true rfl) dX9_legsIn_3 ⟨Nat.le_of_ble_eq_true rfl, Nat.le_of_ble_eq_true rfl⟩ (fun _ => Nat.le_of_ble_eq_true rfl) (fun _ => rfl) (fun v u H locs hp hG => ?_)
  subst hp
  refine g_invV (As := [.int (iI (bI (0 ≤ x ∧ x < NF 0)))]) (rest := []) (gs' := (fun u : Unit => [gMdl K am (thr (bI (0 ≤ x ∧ x < NF 0)) 1 1) rw lg mr en pw sl ly dn iz tz nx st tk vl ef ep hO hB ol rm oz, gArr K 95 rw NF, gArr K 60 (am 3) A0, gArrZ K 60 (am 4) A1, gArr K 60 (am 5) A2, gArr K 60 (am 6) A3, gArr K 60 (am 7) A4, gArr K 60 (am 8) A5, gArr K 60 (am 9) A6])) S C hG [0] (c_X9_passes l K am th rw lg mr en pw sl ly dn iz tz nx st tk vl ef ep hO hB ol rm oz (bI (0 ≤ x ∧ x < NF 0)) (bI_01 _)) rfl rfl 0 rfl rfl (cwV 1 S.2.2.2.2 gX9_legsIn_X9_passes rfl rfl rfl (by decide +kernel) ⟨Nat.le_of_ble_eq_true rfl, Nat.le_of_ble_eq_true rfl⟩) rfl hl.1 rfl (Nat.le_of_ble_eq_true rfl) dX9_legsIn_6 ⟨Nat.le_of_ble_eq_true rfl, Nat.le_of_ble_eq_true rfl⟩ (fun _ => Nat.le_of_ble_eq_true rfl) (fun _ => rfl) (fun v u H locs hp hG => ?_)
  subst hp
  refine g_ifeq_b (B := ((bI (0 ≤ x ∧ x < NF 0)) = 1)) (tgt := 20) S dX9_legsIn_9 (by decide) (fun q9 => ?_) (fun q9 => ?_)
  · skip
    refine g_iconst S dX9_legsIn_20 ?_
    have hG : gW K A s.heap [gMdl K am (thr (bI (0 ≤ x ∧ x < NF 0)) 1 1) rw lg mr en pw sl ly dn iz tz nx st tk vl ef ep hO hB ol rm oz, gArr K 95 rw NF, gArr K 60 (am 3) A0, gArrZ K 60 (am 4) A1, gArr K 60 (am 5) A2, gArr K 60 (am 6) A3, gArr K 60 (am 7) A4, gArr K 60 (am 8) A5, gArr K 60 (am 9) A6] _ _ := hG
    exact g_iret S hr hlk hQ dX9_legsIn_21 (Nat.le_of_ble_eq_true rfl) (Nat.le_of_ble_eq_true rfl) ((0, lg, mr, en, pw, sl, ly, dn, A0, A1, A2, A3, A4, A5, A6) : Int × Int × Int × Int × Int × Int × Int × Int × (Int → Int) × (Int → Int) × (Int → Int) × (Int → Int) × (Int → Int) × (Int → Int) × (Int → Int)) ⟨rfl, (fun h => absurd (bI_t h) q9)⟩ hG
  · skip
    have qa := bI1 q9
    refine lv_aload_n S.1 S.2.1 dX9_legsIn_12 rfl (lv_at hl 0 rfl) ?_
    refine lv_iload_n S.1 S.2.1 dX9_legsIn_13 rfl (lv_at hl 1 rfl) ?_
    refine g_invV (As := [.int (iI x)]) (rest := []) (gs' := (fun u : Int × Int × Int × Int × Int × Int × Int × (Int → Int) × (Int → Int) × (Int → Int) × (Int → Int) × (Int → Int) × (Int → Int) × (Int → Int) => [gMdl K am (thr (bI (0 ≤ x ∧ x < NF 0)) 1 1) rw u.1 u.2.1 u.2.2.1 u.2.2.2.1 u.2.2.2.2.1 u.2.2.2.2.2.1 u.2.2.2.2.2.2.1 iz tz nx st tk vl ef ep hO hB ol rm oz, gArr K 95 rw NF, gArr K 60 (am 3) u.2.2.2.2.2.2.2.1, gArrZ K 60 (am 4) u.2.2.2.2.2.2.2.2.1, gArr K 60 (am 5) u.2.2.2.2.2.2.2.2.2.1, gArr K 60 (am 6) u.2.2.2.2.2.2.2.2.2.2.1, gArr K 60 (am 7) u.2.2.2.2.2.2.2.2.2.2.2.1, gArr K 60 (am 8) u.2.2.2.2.2.2.2.2.2.2.2.2.1, gArr K 60 (am 9) u.2.2.2.2.2.2.2.2.2.2.2.2.2])) S C hG [0, 1, 2, 3, 4, 5, 6, 7, 8] (c_X9_legsThrough l K am (thr (bI (0 ≤ x ∧ x < NF 0)) 1 1) rw lg mr en pw sl ly dn iz tz nx st tk vl ef ep hO hB ol rm oz NF A0 A1 A2 A3 A4 A5 A6 x hN hx) rfl rfl 0 rfl rfl (cwV 1 S.2.2.2.2 gX9_legsIn_X9_legsThrough rfl rfl rfl (by decide +kernel) ⟨Nat.le_of_ble_eq_true rfl, Nat.le_of_ble_eq_true rfl⟩) rfl hl.1 rfl (Nat.le_of_ble_eq_true rfl) dX9_legsIn_14 ⟨Nat.le_of_ble_eq_true rfl, Nat.le_of_ble_eq_true rfl⟩ (fun _ => Nat.le_of_ble_eq_true rfl) (fun _ => rfl) (fun v u H locs hp hG => ?_)
    obtain ⟨lg2_14, mr2_14, en2_14, pw2_14, sl2_14, ly2_14, dn2_14, B0_14, B1_14, B2_14, B3_14, B4_14, B5_14, B6_14⟩ := u
    subst hp
    have hG : gW K A s.heap [gMdl K am (thr (bI (0 ≤ x ∧ x < NF 0)) 1 1) rw lg2_14 mr2_14 en2_14 pw2_14 sl2_14 ly2_14 dn2_14 iz tz nx st tk vl ef ep hO hB ol rm oz, gArr K 95 rw NF, gArr K 60 (am 3) B0_14, gArrZ K 60 (am 4) B1_14, gArr K 60 (am 5) B2_14, gArr K 60 (am 6) B3_14, gArr K 60 (am 7) B4_14, gArr K 60 (am 8) B5_14, gArr K 60 (am 9) B6_14] _ _ := hG
    refine lv_goto (tgt := 21) S.1 S.2.1 dX9_legsIn_17 (by decide) ?_
    have hG : gW K A s.heap [gMdl K am (thr (bI (0 ≤ x ∧ x < NF 0)) 1 1) rw lg2_14 mr2_14 en2_14 pw2_14 sl2_14 ly2_14 dn2_14 iz tz nx st tk vl ef ep hO hB ol rm oz, gArr K 95 rw NF, gArr K 60 (am 3) B0_14, gArrZ K 60 (am 4) B1_14, gArr K 60 (am 5) B2_14, gArr K 60 (am 6) B3_14, gArr K 60 (am 7) B4_14, gArr K 60 (am 8) B5_14, gArr K 60 (am 9) B6_14] _ _ := hG
    exact g_iret S hr hlk hQ dX9_legsIn_21 (Nat.le_of_ble_eq_true rfl) (Nat.le_of_ble_eq_true rfl) ((lacN NF x (NF 4).toNat, lg2_14, mr2_14, en2_14, pw2_14, sl2_14, ly2_14, dn2_14, B0_14, B1_14, B2_14, B3_14, B4_14, B5_14, B6_14) : Int × Int × Int × Int × Int × Int × Int × Int × (Int → Int) × (Int → Int) × (Int → Int) × (Int → Int) × (Int → Int) × (Int → Int) × (Int → Int)) ⟨rfl, (fun _ => rfl)⟩ hG

set_option maxHeartbeats 1000000 in
set_option maxRecDepth 100000 in
theorem c_X9_busiest (l : Launch) (K : KC) (am : Nat → Nat) (th : Int) (rw : Nat) (lg : Int) (mr : Int) (en : Int) (pw : Int) (sl : Int) (ly : Int) (dn : Int) (iz : Int) (tz : Int) (nx : Int) (st : Int) (tk : Int) (vl : Int) (ef : Int) (ep : Int) (hO : Int) (hB : Int) (ol : Int) (rm : Int) (oz : Int) (NF : Int → Int) (A0 : Int → Int) (A1 : Int → Int) (A2 : Int → Int) (A3 : Int → Int) (A4 : Int → Int) (A5 : Int → Int) (A6 : Int → Int) (hN : NOk0 NF) : mG l yX9_busiest wsX9_busiest 7 159 K [.ref (am 0)] [gMdl K am th rw lg mr en pw sl ly dn iz tz nx st tk vl ef ep hO hB ol rm oz, gArr K 95 rw NF, gArr K 60 (am 3) A0, gArrZ K 60 (am 4) A1, gArr K 60 (am 5) A2, gArr K 60 (am 6) A3, gArr K 60 (am 7) A4, gArr K 60 (am 8) A5, gArr K 60 (am 9) A6] (fun (v : Value) (u : Int × Int × Int × Int × Int × Int × Int × (Int → Int) × (Int → Int) × (Int → Int) × (Int → Int) × (Int → Int) × (Int → Int) × (Int → Int)) => (v = .int (iI ((busN (fun i : Nat => lacN NF (i : Int) (NF 4).toNat) (NF 0).toNat).1)))) (fun (u : Int × Int × Int × Int × Int × Int × Int × (Int → Int) × (Int → Int) × (Int → Int) × (Int → Int) × (Int → Int) × (Int → Int) × (Int → Int)) => [gMdl K am 0 rw u.1 u.2.1 u.2.2.1 u.2.2.2.1 u.2.2.2.2.1 u.2.2.2.2.2.1 u.2.2.2.2.2.2.1 iz tz nx st tk vl ef ep hO hB ol rm oz, gArr K 95 rw NF, gArr K 60 (am 3) u.2.2.2.2.2.2.2.1, gArrZ K 60 (am 4) u.2.2.2.2.2.2.2.2.1, gArr K 60 (am 5) u.2.2.2.2.2.2.2.2.2.1, gArr K 60 (am 6) u.2.2.2.2.2.2.2.2.2.2.1, gArr K 60 (am 7) u.2.2.2.2.2.2.2.2.2.2.2.1, gArr K 60 (am 8) u.2.2.2.2.2.2.2.2.2.2.2.2.1, gArr K 60 (am 9) u.2.2.2.2.2.2.2.2.2.2.2.2.2]) 0 0 := by
  refine mG_of cX9_busiest 5 (by decide) rfl (Nat.le_of_ble_eq_true rfl) ?_
  intro p e s m below meth c A ls Q S C hG hl hr hlk hin hQ
  have S : CallFix p m c cX9_busiest 5 s ([.ref (am 0)] : List Value).toArray wsX9_busiest RX9 := S
  have iX90 : ∀ w ∈ wsX90, w ∈ wsX9_busiest := fun _ h => List.mem_cons_of_mem _ (List.mem_append_right _ (h))
  have hl : lv_has ls 5 [(0, .ref (am 0))] := hl
  have hG : gW K A s.heap [gMdl K am th rw lg mr en pw sl ly dn iz tz nx st tk vl ef ep hO hB ol rm oz, gArr K 95 rw NF, gArr K 60 (am 3) A0, gArrZ K 60 (am 4) A1, gArr K 60 (am 5) A2, gArr K 60 (am 6) A3, gArr K 60 (am 7) A4, gArr K 60 (am 8) A5, gArr K 60 (am 9) A6] s.heap [] := hG
  have n0 := hN.1
  have n3 := hN.2.2.2.1
  refine lv_aload_n S.1 S.2.1 dX9_busiest_0 rfl (lv_at hl 0 rfl) ?_
  refine g_iconst S dX9_busiest_1 ?_
  refine g_put (gs' := [gMdl K am 0 rw lg mr en pw sl ly dn iz tz nx st tk vl ef ep hO hB ol rm oz, gArr K 95 rw NF, gArr K 60 (am 3) A0, gArrZ K 60 (am 4) A1, gArr K 60 (am 5) A2, gArr K 60 (am 6) A3, gArr K 60 (am 7) A4, gArr K 60 (am 8) A5, gArr K 60 (am 9) A6]) S C hG iX90 tyX9 tyX9_ok nmX9 0 rfl rfl 0 (by decide) (List.mem_of_getElem? (i := 1) rfl) rfl rfl rfl (Nat.le_of_ble_eq_true rfl) rfl dX9_busiest_2 (fun H locs hG => ?_)
  refine g_iconst S dX9_busiest_5 ?_
  refine lv_istore_n (lv' := [(1, .int (iI (-1))), (0, .ref (am 0))]) S.1 S.2.1 dX9_busiest_6 rfl hl (by decide) rfl (fun ls hl => ?_)
  refine g_iconst S dX9_busiest_7 ?_
  refine lv_istore_n (lv' := [(2, .int (iI 0)), (1, .int (iI (-1))), (0, .ref (am 0))]) S.1 S.2.1 dX9_busiest_8 rfl hl (by decide) rfl (fun ls hl => ?_)
  refine g_iconst S dX9_busiest_9 ?_
  refine lv_istore_n (lv' := [(3, .int (iI 0)), (2, .int (iI 0)), (1, .int (iI (-1))), (0, .ref (am 0))]) S.1 S.2.1 dX9_busiest_10 rfl hl (by decide) rfl (fun ls hl => ?_)
  have L11 : ∀ (fu : Nat) (k : Nat) (w : Int) (bb : Int) (mm : Int) (lg1 : Int) (mr1 : Int) (en1 : Int) (pw1 : Int) (sl1 : Int) (ly1 : Int) (dn1 : Int) (E0 : Int → Int) (E1 : Int → Int) (E2 : Int → Int) (E3 : Int → Int) (E4 : Int → Int) (E5 : Int → Int) (E6 : Int → Int) (H : Heap) (locs : List Loc) (ls : Array Slot), ((NF 0 - w).toNat) < fu → (w = (k : Int) ∧ w ≤ NF 0) → (bb = (busN (fun i : Nat => lacN NF (i : Int) (NF 4).toNat) k).1 ∧ mm = (busN (fun i : Nat => lacN NF (i : Int) (NF 4).toNat) k).2) → (0 ≤ mm ∧ mm ≤ 1200 ∧ -1 ≤ bb ∧ bb ≤ 10) → lv_has ls 5 [(0, .ref (am 0)), (1, .int (iI bb)), (2, .int (iI mm)), (3, .int (iI w))] → gW K A s.heap [gMdl K am 0 rw lg1 mr1 en1 pw1 sl1 ly1 dn1 iz tz nx st tk vl ef ep hO hB ol rm oz, gArr K 95 rw NF, gArr K 60 (am 3) E0, gArrZ K 60 (am 4) E1, gArr K 60 (am 5) E2, gArr K 60 (am 6) E3, gArr K 60 (am 7) E4, gArr K 60 (am 8) E5, gArr K 60 (am 9) E6] H locs → W p l e { frames := 7, cells := 0, slots := 0, locals := 159 } s m ([.ref (am 0)] : List Value).toArray below meth c H locs 0 0 Q (F0 m 11 ls []) := by
    intro fu
    induction fu with
    | zero => intro k w bb mm lg1 mr1 en1 pw1 sl1 ly1 dn1 E0 E1 E2 E3 E4 E5 E6 H locs ls hfu; exact absurd hfu (Nat.not_lt_zero _)
    | succ fu ih =>
      intro k w bb mm lg1 mr1 en1 pw1 sl1 ly1 dn1 E0 E1 E2 E3 E4 E5 E6 H locs ls hfu hw hb hm hl hG
      refine lv_iload_n S.1 S.2.1 dX9_busiest_11 rfl (lv_at hl 3 rfl) ?_
      refine lv_aload_n S.1 S.2.1 dX9_busiest_12 rfl (lv_at hl 0 rfl) ?_
      refine g_invV (As := []) (rest := [.int (iI w)]) (gs' := (fun u : Unit => [gMdl K am 0 rw lg1 mr1 en1 pw1 sl1 ly1 dn1 iz tz nx st tk vl ef ep hO hB ol rm oz, gArr K 95 rw NF, gArr K 60 (am 3) E0, gArrZ K 60 (am 4) E1, gArr K 60 (am 5) E2, gArr K 60 (am 6) E3, gArr K 60 (am 7) E4, gArr K 60 (am 8) E5, gArr K 60 (am 9) E6])) S C hG [0, 1] (c_X9_layers l K am 0 rw lg1 mr1 en1 pw1 sl1 ly1 dn1 iz tz nx st tk vl ef ep hO hB ol rm oz NF) rfl rfl 0 rfl rfl (cwV 0 S.2.2.2.2 gX9_busiest_X9_layers rfl rfl rfl (by decide +kernel) ⟨Nat.le_of_ble_eq_true rfl, Nat.le_of_ble_eq_true rfl⟩) rfl hl.1 rfl (Nat.le_of_ble_eq_true rfl) dX9_busiest_13 ⟨Nat.le_of_ble_eq_true rfl, Nat.le_of_ble_eq_true rfl⟩ (fun _ => Nat.le_of_ble_eq_true rfl) (fun _ => rfl) (fun v u H locs hp hG => ?_)
      subst hp
      refine g_icmp_ge (tgt := 51) S dX9_busiest_16 (by decide) (by omega) (by omega) (fun q16 => ?_) (fun q16 => ?_)
      · skip
        refine lv_iload_n S.1 S.2.1 dX9_busiest_51 rfl (lv_at hl 1 rfl) ?_
        have hG : gW K A s.heap [gMdl K am 0 rw lg1 mr1 en1 pw1 sl1 ly1 dn1 iz tz nx st tk vl ef ep hO hB ol rm oz, gArr K 95 rw NF, gArr K 60 (am 3) E0, gArrZ K 60 (am 4) E1, gArr K 60 (am 5) E2, gArr K 60 (am 6) E3, gArr K 60 (am 7) E4, gArr K 60 (am 8) E5, gArr K 60 (am 9) E6] _ _ := hG
        exact g_iret S hr hlk hQ dX9_busiest_52 (Nat.le_of_ble_eq_true rfl) (Nat.le_of_ble_eq_true rfl) ((lg1, mr1, en1, pw1, sl1, ly1, dn1, E0, E1, E2, E3, E4, E5, E6) : Int × Int × Int × Int × Int × Int × Int × (Int → Int) × (Int → Int) × (Int → Int) × (Int → Int) × (Int → Int) × (Int → Int) × (Int → Int)) (congrArg (fun z : Int => Value.int (iI z)) (by rw [hb.1, show (NF 0).toNat = k by omega])) hG
      · skip
        refine lv_aload_n S.1 S.2.1 dX9_busiest_19 rfl (lv_at hl 0 rfl) ?_
        refine lv_iload_n S.1 S.2.1 dX9_busiest_20 rfl (lv_at hl 3 rfl) ?_
        refine g_invV (As := [.int (iI w)]) (rest := []) (gs' := (fun u : Int × Int × Int × Int × Int × Int × Int × (Int → Int) × (Int → Int) × (Int → Int) × (Int → Int) × (Int → Int) × (Int → Int) × (Int → Int) => [gMdl K am 0 rw u.1 u.2.1 u.2.2.1 u.2.2.2.1 u.2.2.2.2.1 u.2.2.2.2.2.1 u.2.2.2.2.2.2.1 iz tz nx st tk vl ef ep hO hB ol rm oz, gArr K 95 rw NF, gArr K 60 (am 3) u.2.2.2.2.2.2.2.1, gArrZ K 60 (am 4) u.2.2.2.2.2.2.2.2.1, gArr K 60 (am 5) u.2.2.2.2.2.2.2.2.2.1, gArr K 60 (am 6) u.2.2.2.2.2.2.2.2.2.2.1, gArr K 60 (am 7) u.2.2.2.2.2.2.2.2.2.2.2.1, gArr K 60 (am 8) u.2.2.2.2.2.2.2.2.2.2.2.2.1, gArr K 60 (am 9) u.2.2.2.2.2.2.2.2.2.2.2.2.2])) S C hG [0, 1, 2, 3, 4, 5, 6, 7, 8] (c_X9_legsThrough l K am 0 rw lg1 mr1 en1 pw1 sl1 ly1 dn1 iz tz nx st tk vl ef ep hO hB ol rm oz NF E0 E1 E2 E3 E4 E5 E6 w hN (by omega)) rfl rfl 0 rfl rfl (cwV 1 S.2.2.2.2 gX9_busiest_X9_legsThrough rfl rfl rfl (by decide +kernel) ⟨Nat.le_of_ble_eq_true rfl, Nat.le_of_ble_eq_true rfl⟩) rfl hl.1 rfl (Nat.le_of_ble_eq_true rfl) dX9_busiest_21 ⟨Nat.le_of_ble_eq_true rfl, Nat.le_of_ble_eq_true rfl⟩ (fun _ => Nat.le_of_ble_eq_true rfl) (fun _ => rfl) (fun v u H locs hp hG => ?_)
        obtain ⟨lg2_21, mr2_21, en2_21, pw2_21, sl2_21, ly2_21, dn2_21, B0_21, B1_21, B2_21, B3_21, B4_21, B5_21, B6_21⟩ := u
        subst hp
        have hG : gW K A s.heap [gMdl K am 0 rw lg2_21 mr2_21 en2_21 pw2_21 sl2_21 ly2_21 dn2_21 iz tz nx st tk vl ef ep hO hB ol rm oz, gArr K 95 rw NF, gArr K 60 (am 3) B0_21, gArrZ K 60 (am 4) B1_21, gArr K 60 (am 5) B2_21, gArr K 60 (am 6) B3_21, gArr K 60 (am 7) B4_21, gArr K 60 (am 8) B5_21, gArr K 60 (am 9) B6_21] _ _ := hG
        have c9 := lacN_bd NF (k : Int) (NF 4).toNat
        have c7 : ((NF 4).toNat : Int) = NF 4 := Int.toNat_of_nonneg n3.1
        refine g_top (w := .int (iI (lacN NF (k : Int) (NF 4).toNat))) (congrArg (fun z : Int => Value.int (iI z)) ((by rw [hw.1]))) ?_
        refine lv_istore (lv' := [(4, .int (iI (lacN NF (k : Int) (NF 4).toNat))), (0, .ref (am 0)), (1, .int (iI bb)), (2, .int (iI mm)), (3, .int (iI w))]) S.1 S.2.1 dX9_busiest_24 hl (by decide) rfl (fun ls hl => ?_)
        refine lv_iload S.1 S.2.1 dX9_busiest_26 (lv_at hl 0 rfl) ?_
        refine lv_iload_n S.1 S.2.1 dX9_busiest_28 rfl (lv_at hl 3 rfl) ?_
        refine g_icmp_le (tgt := 36) S dX9_busiest_29 (by decide) (by omega) (by omega) (fun q29 => ?_) (fun q29 => ?_)
        · skip
          refine lv_iload_n S.1 S.2.1 dX9_busiest_36 rfl (lv_at hl 2 rfl) ?_
          refine lv_istore_n (lv' := [(1, .int (iI bb)), (4, .int (iI (lacN NF (k : Int) (NF 4).toNat))), (0, .ref (am 0)), (2, .int (iI mm)), (3, .int (iI w))]) S.1 S.2.1 dX9_busiest_37 rfl hl (by decide) rfl (fun ls hl => ?_)
          refine lv_iload_n S.1 S.2.1 dX9_busiest_38 rfl (lv_at hl 3 rfl) ?_
          refine lv_iload S.1 S.2.1 dX9_busiest_39 (lv_at hl 1 rfl) ?_
          refine va_mmax S.1 S.2.1 (by rw [S.2.2.1]; exact hl.1.symm) S.2.2.2.1 (S.2.2.2.2 _ (List.mem_of_getElem? (i := 2) rfl)) (S.2.2.2.2 _ (List.mem_of_getElem? (i := 3) rfl)) (S.2.2.2.2 _ (List.mem_of_getElem? (i := 4) rfl)) (S.2.2.2.2 _ (List.mem_of_getElem? (i := 5) rfl)) (Nat.le_of_ble_eq_true rfl) (Nat.le_of_ble_eq_true rfl) (Nat.le_of_ble_eq_true rfl) (Nat.le_of_ble_eq_true rfl) dX9_busiest_41 ?_
          refine g_top (w := .int (iI (max mm (lacN NF (k : Int) (NF 4).toNat)))) (imax_eq (by omega) (by omega)) ?_
          refine lv_istore_n (lv' := [(2, .int (iI (max mm (lacN NF (k : Int) (NF 4).toNat)))), (1, .int (iI bb)), (4, .int (iI (lacN NF (k : Int) (NF 4).toNat))), (0, .ref (am 0)), (3, .int (iI w))]) S.1 S.2.1 dX9_busiest_44 rfl hl (by decide) rfl (fun ls hl => ?_)
          refine lv_iinc (v := iI (w + 1)) (lv' := [(3, .int (iI (w + 1))), (2, .int (iI (max mm (lacN NF (k : Int) (NF 4).toNat)))), (1, .int (iI bb)), (4, .int (iI (lacN NF (k : Int) (NF 4).toNat))), (0, .ref (am 0))]) S.1 S.2.1 dX9_busiest_45 hl (k := 4) rfl (g_iinc rfl) (by decide) rfl (fun ls hl => ?_)
          refine lv_goto (tgt := 11) S.1 S.2.1 dX9_busiest_48 (by decide) ?_
          exact ih (k + 1) (w + 1) bb (max mm (lacN NF (k : Int) (NF 4).toNat)) lg2_21 mr2_21 en2_21 pw2_21 sl2_21 ly2_21 dn2_21 B0_21 B1_21 B2_21 B3_21 B4_21 B5_21 B6_21 _ _ _ (by omega) ⟨by omega, by omega⟩ (by have u8 := busN_f (fun i : Nat => lacN NF (i : Int) (NF 4).toNat) k (by omega) <;> rw [u8] <;> exact ⟨hb.1, by omega⟩) (by omega) (lv_sub hl [4, 2, 1, 0] rfl) hG
        · skip
          refine lv_iload_n S.1 S.2.1 dX9_busiest_32 rfl (lv_at hl 4 rfl) ?_
          refine lv_goto (tgt := 37) S.1 S.2.1 dX9_busiest_33 (by decide) ?_
          refine lv_istore_n (lv' := [(1, .int (iI w)), (4, .int (iI (lacN NF (k : Int) (NF 4).toNat))), (0, .ref (am 0)), (2, .int (iI mm)), (3, .int (iI w))]) S.1 S.2.1 dX9_busiest_37 rfl hl (by decide) rfl (fun ls hl => ?_)
          refine lv_iload_n S.1 S.2.1 dX9_busiest_38 rfl (lv_at hl 3 rfl) ?_
          refine lv_iload S.1 S.2.1 dX9_busiest_39 (lv_at hl 1 rfl) ?_
          refine va_mmax S.1 S.2.1 (by rw [S.2.2.1]; exact hl.1.symm) S.2.2.2.1 (S.2.2.2.2 _ (List.mem_of_getElem? (i := 2) rfl)) (S.2.2.2.2 _ (List.mem_of_getElem? (i := 3) rfl)) (S.2.2.2.2 _ (List.mem_of_getElem? (i := 4) rfl)) (S.2.2.2.2 _ (List.mem_of_getElem? (i := 5) rfl)) (Nat.le_of_ble_eq_true rfl) (Nat.le_of_ble_eq_true rfl) (Nat.le_of_ble_eq_true rfl) (Nat.le_of_ble_eq_true rfl) dX9_busiest_41 ?_
          refine g_top (w := .int (iI (max mm (lacN NF (k : Int) (NF 4).toNat)))) (imax_eq (by omega) (by omega)) ?_
          refine lv_istore_n (lv' := [(2, .int (iI (max mm (lacN NF (k : Int) (NF 4).toNat)))), (1, .int (iI w)), (4, .int (iI (lacN NF (k : Int) (NF 4).toNat))), (0, .ref (am 0)), (3, .int (iI w))]) S.1 S.2.1 dX9_busiest_44 rfl hl (by decide) rfl (fun ls hl => ?_)
          refine lv_iinc (v := iI (w + 1)) (lv' := [(3, .int (iI (w + 1))), (2, .int (iI (max mm (lacN NF (k : Int) (NF 4).toNat)))), (1, .int (iI w)), (4, .int (iI (lacN NF (k : Int) (NF 4).toNat))), (0, .ref (am 0))]) S.1 S.2.1 dX9_busiest_45 hl (k := 4) rfl (g_iinc rfl) (by decide) rfl (fun ls hl => ?_)
          refine lv_goto (tgt := 11) S.1 S.2.1 dX9_busiest_48 (by decide) ?_
          exact ih (k + 1) (w + 1) w (max mm (lacN NF (k : Int) (NF 4).toNat)) lg2_21 mr2_21 en2_21 pw2_21 sl2_21 ly2_21 dn2_21 B0_21 B1_21 B2_21 B3_21 B4_21 B5_21 B6_21 _ _ _ (by omega) ⟨by omega, by omega⟩ (by have u8 := busN_t (fun i : Nat => lacN NF (i : Int) (NF 4).toNat) k (by omega) <;> rw [u8] <;> exact ⟨hw.1, by (show max mm _ = _) <;> omega⟩) (by omega) (lv_sub hl [4, 2, 1, 0] rfl) hG
  exact L11 (Nat.succ ((NF 0 - 0).toNat)) 0 0 (-1) 0 lg mr en pw sl ly dn A0 A1 A2 A3 A4 A5 A6 _ _ _ (Nat.lt_succ_self _) ⟨rfl, by omega⟩ ⟨rfl, rfl⟩ (by omega) (lv_sub hl [3, 2, 1, 0] rfl) hG
