set_option maxHeartbeats 1000000 in
set_option maxRecDepth 100000 in
theorem c_X9_slantsOf (l : Launch) (K : KC) (am : Nat → Nat) (th : Int) (rw : Nat) (lg : Int) (mr : Int) (en : Int) (pw : Int) (sl : Int) (ly : Int) (dn : Int) (iz : Int) (tz : Int) (nx : Int) (st : Int) (tk : Int) (vl : Int) (ef : Int) (ep : Int) (hO : Int) (hB : Int) (ol : Int) (rm : Int) (oz : Int) (NF : Int → Int) (A0 : Int → Int) (A1 : Int → Int) (A2 : Int → Int) (A3 : Int → Int) (A4 : Int → Int) (A5 : Int → Int) (A6 : Int → Int) (y : Int) (x : Int) (z : Int) (hN : NOk0 NF) (hv : -2147483648 ≤ y ∧ y < 2147483648) (hx : x = 0 ∨ x = 1) (hz : -2147483648 ≤ z ∧ z < 2147483648) (hy : 0 ≤ y ∧ y < NF 0) : mG l yX9_slantsOf wsX9_slantsOf 5 114 K [.ref (am 0), .int (iI y), .int (iI x), .int (iI z)] [gMdl K am th rw lg mr en pw sl ly dn iz tz nx st tk vl ef ep hO hB ol rm oz, gArr K 95 rw NF, gArr K 60 (am 3) A0, gArrZ K 60 (am 4) A1, gArr K 60 (am 5) A2, gArr K 60 (am 6) A3, gArr K 60 (am 7) A4, gArr K 60 (am 8) A5, gArr K 60 (am 9) A6] (fun (v : Value) (u : Int × Int × Int × Int × Int × Int × Int × (Int → Int) × (Int → Int) × (Int → Int) × (Int → Int) × (Int → Int) × (Int → Int) × (Int → Int)) => (v = .int (iI (cntS NF y x z (nX NF y).toNat)))) (fun (u : Int × Int × Int × Int × Int × Int × Int × (Int → Int) × (Int → Int) × (Int → Int) × (Int → Int) × (Int → Int) × (Int → Int) × (Int → Int)) => [gMdl K am th rw u.1 u.2.1 u.2.2.1 u.2.2.2.1 u.2.2.2.2.1 u.2.2.2.2.2.1 u.2.2.2.2.2.2.1 iz tz nx st tk vl ef ep hO hB ol rm oz, gArr K 95 rw NF, gArr K 60 (am 3) u.2.2.2.2.2.2.2.1, gArrZ K 60 (am 4) u.2.2.2.2.2.2.2.2.1, gArr K 60 (am 5) u.2.2.2.2.2.2.2.2.2.1, gArr K 60 (am 6) u.2.2.2.2.2.2.2.2.2.2.1, gArr K 60 (am 7) u.2.2.2.2.2.2.2.2.2.2.2.1, gArr K 60 (am 8) u.2.2.2.2.2.2.2.2.2.2.2.2.1, gArr K 60 (am 9) u.2.2.2.2.2.2.2.2.2.2.2.2.2]) 0 0 := by
  refine mG_of cX9_slantsOf 6 (by decide) rfl (Nat.le_of_ble_eq_true rfl) ?_
  intro p e s m below meth c A ls Q S C hG hl hr hlk hin hQ
  have S : CallFix p m c cX9_slantsOf 6 s ([.ref (am 0), .int (iI y), .int (iI x), .int (iI z)] : List Value).toArray wsX9_slantsOf RX9 := S
  have iX90 : ∀ w ∈ wsX90, w ∈ wsX9_slantsOf := fun _ h => List.mem_cons_of_mem _ (List.mem_append_right _ (h))
  have hl : lv_has ls 6 [(0, .ref (am 0)), (1, .int (iI y)), (2, .int (iI x)), (3, .int (iI z))] := hl
  have hG : gW K A s.heap [gMdl K am th rw lg mr en pw sl ly dn iz tz nx st tk vl ef ep hO hB ol rm oz, gArr K 95 rw NF, gArr K 60 (am 3) A0, gArrZ K 60 (am 4) A1, gArr K 60 (am 5) A2, gArr K 60 (am 6) A3, gArr K 60 (am 7) A4, gArr K 60 (am 8) A5, gArr K 60 (am 9) A6] s.heap [] := hG
  have n0 := hN.1
  have n3 := hN.2.2.2.1
  have lb9 := (lay_bd hN hy.1 hy.2).1
  refine g_iconst S dX9_slantsOf_0 ?_
  refine lv_istore (lv' := [(4, .int (iI 0)), (0, .ref (am 0)), (1, .int (iI y)), (2, .int (iI x)), (3, .int (iI z))]) S.1 S.2.1 dX9_slantsOf_1 hl (by decide) rfl (fun ls hl => ?_)
  refine g_iconst S dX9_slantsOf_3 ?_
  refine lv_istore (lv' := [(5, .int (iI 0)), (4, .int (iI 0)), (0, .ref (am 0)), (1, .int (iI y)), (2, .int (iI x)), (3, .int (iI z))]) S.1 S.2.1 dX9_slantsOf_4 hl (by decide) rfl (fun ls hl => ?_)
  have L6 : ∀ (fu : Nat) (k : Nat) (w : Int) (f : Int) (lg1 : Int) (mr1 : Int) (en1 : Int) (pw1 : Int) (sl1 : Int) (ly1 : Int) (dn1 : Int) (E0 : Int → Int) (E1 : Int → Int) (E2 : Int → Int) (E3 : Int → Int) (E4 : Int → Int) (E5 : Int → Int) (E6 : Int → Int) (H : Heap) (locs : List Loc) (ls : Array Slot), ((nX NF y - w).toNat) < fu → (w = (k : Int) ∧ 0 ≤ w ∧ w ≤ nX NF y) → (f = cntS NF y x z k) → lv_has ls 6 [(0, .ref (am 0)), (1, .int (iI y)), (2, .int (iI x)), (3, .int (iI z)), (4, .int (iI f)), (5, .int (iI w))] → gW K A s.heap [gMdl K am th rw lg1 mr1 en1 pw1 sl1 ly1 dn1 iz tz nx st tk vl ef ep hO hB ol rm oz, gArr K 95 rw NF, gArr K 60 (am 3) E0, gArrZ K 60 (am 4) E1, gArr K 60 (am 5) E2, gArr K 60 (am 6) E3, gArr K 60 (am 7) E4, gArr K 60 (am 8) E5, gArr K 60 (am 9) E6] H locs → W p l e { frames := 5, cells := 0, slots := 0, locals := 114 } s m ([.ref (am 0), .int (iI y), .int (iI x), .int (iI z)] : List Value).toArray below meth c H locs 0 0 Q (F0 m 6 ls []) := by
    intro fu
    induction fu with
    | zero => intro k w f lg1 mr1 en1 pw1 sl1 ly1 dn1 E0 E1 E2 E3 E4 E5 E6 H locs ls hfu; exact absurd hfu (Nat.not_lt_zero _)
    | succ fu ih =>
      intro k w f lg1 mr1 en1 pw1 sl1 ly1 dn1 E0 E1 E2 E3 E4 E5 E6 H locs ls hfu hw hb hl hG
      refine lv_iload S.1 S.2.1 dX9_slantsOf_6 (lv_at hl 5 rfl) ?_
      refine lv_aload_n S.1 S.2.1 dX9_slantsOf_8 rfl (lv_at hl 0 rfl) ?_
      refine lv_iload_n S.1 S.2.1 dX9_slantsOf_9 rfl (lv_at hl 1 rfl) ?_
      refine g_iconst S dX9_slantsOf_10 ?_
      refine g_invV (As := [.int (iI y), .int (iI 0)]) (rest := [.int (iI w)]) (gs' := (fun u : Unit => [gMdl K am th rw lg1 mr1 en1 pw1 sl1 ly1 dn1 iz tz nx st tk vl ef ep hO hB ol rm oz, gArr K 95 rw NF, gArr K 60 (am 3) E0, gArrZ K 60 (am 4) E1, gArr K 60 (am 5) E2, gArr K 60 (am 6) E3, gArr K 60 (am 7) E4, gArr K 60 (am 8) E5, gArr K 60 (am 9) E6])) S C hG [0, 1] (c_X9_ofLayer l K am th rw lg1 mr1 en1 pw1 sl1 ly1 dn1 iz tz nx st tk vl ef ep hO hB ol rm oz NF y 0 (by omega) (by decide)) rfl rfl 0 rfl rfl (cwV 2 S.2.2.2.2 gX9_slantsOf_X9_ofLayer rfl rfl rfl (by decide +kernel) ⟨Nat.le_of_ble_eq_true rfl, Nat.le_of_ble_eq_true rfl⟩) rfl hl.1 rfl (Nat.le_of_ble_eq_true rfl) dX9_slantsOf_11 ⟨Nat.le_of_ble_eq_true rfl, Nat.le_of_ble_eq_true rfl⟩ (fun _ => Nat.le_of_ble_eq_true rfl) (fun _ => rfl) (fun v u H locs hp hG => ?_)
      subst hp
      refine g_top (w := .int (iI (nX NF y))) (congrArg (fun z : Int => Value.int (iI z)) (rfl)) ?_
      refine g_icmp_ge (tgt := 49) S dX9_slantsOf_14 (by decide) (by omega) (by omega) (fun q14 => ?_) (fun q14 => ?_)
      · skip
        refine lv_iload S.1 S.2.1 dX9_slantsOf_49 (lv_at hl 4 rfl) ?_
        have hG : gW K A s.heap [gMdl K am th rw lg1 mr1 en1 pw1 sl1 ly1 dn1 iz tz nx st tk vl ef ep hO hB ol rm oz, gArr K 95 rw NF, gArr K 60 (am 3) E0, gArrZ K 60 (am 4) E1, gArr K 60 (am 5) E2, gArr K 60 (am 6) E3, gArr K 60 (am 7) E4, gArr K 60 (am 8) E5, gArr K 60 (am 9) E6] _ _ := hG
        exact g_iret S hr hlk hQ dX9_slantsOf_51 (Nat.le_of_ble_eq_true rfl) (Nat.le_of_ble_eq_true rfl) ((lg1, mr1, en1, pw1, sl1, ly1, dn1, E0, E1, E2, E3, E4, E5, E6) : Int × Int × Int × Int × Int × Int × Int × (Int → Int) × (Int → Int) × (Int → Int) × (Int → Int) × (Int → Int) × (Int → Int) × (Int → Int)) (congrArg (fun z : Int => Value.int (iI z)) (by rw [hb, show (nX NF y).toNat = k by omega])) hG
      · skip
        refine lv_aload_n S.1 S.2.1 dX9_slantsOf_17 rfl (lv_at hl 0 rfl) ?_
        refine lv_iload_n S.1 S.2.1 dX9_slantsOf_18 rfl (lv_at hl 1 rfl) ?_
        refine lv_iload_n S.1 S.2.1 dX9_slantsOf_19 rfl (lv_at hl 2 rfl) ?_
        refine lv_iload S.1 S.2.1 dX9_slantsOf_20 (lv_at hl 5 rfl) ?_
        refine g_invVv (As := [.int (iI y), .int (iI x), .int (iI w)]) (rest := []) (gs' := (fun u : Int × Int × Int × Int × Int × Int × Int × (Int → Int) × (Int → Int) × (Int → Int) × (Int → Int) × (Int → Int) × (Int → Int) × (Int → Int) => [gMdl K am th rw u.1 u.2.1 u.2.2.1 u.2.2.2.1 u.2.2.2.2.1 u.2.2.2.2.2.1 u.2.2.2.2.2.2.1 iz tz nx st tk vl ef ep hO hB ol rm oz, gArr K 95 rw NF, gArr K 60 (am 3) u.2.2.2.2.2.2.2.1, gArrZ K 60 (am 4) u.2.2.2.2.2.2.2.2.1, gArr K 60 (am 5) u.2.2.2.2.2.2.2.2.2.1, gArr K 60 (am 6) u.2.2.2.2.2.2.2.2.2.2.1, gArr K 60 (am 7) u.2.2.2.2.2.2.2.2.2.2.2.1, gArr K 60 (am 8) u.2.2.2.2.2.2.2.2.2.2.2.2.1, gArr K 60 (am 9) u.2.2.2.2.2.2.2.2.2.2.2.2.2])) S C hG [0, 1, 2, 3, 4, 5, 6, 7, 8] (c_X9_follow l K am th rw lg1 mr1 en1 pw1 sl1 ly1 dn1 iz tz nx st tk vl ef ep hO hB ol rm oz NF E0 E1 E2 E3 E4 E5 E6 y x w hN hv (by omega) hx) rfl rfl 0 rfl rfl (cwV 3 S.2.2.2.2 gX9_slantsOf_X9_follow rfl rfl rfl (by decide +kernel) ⟨Nat.le_of_ble_eq_true rfl, Nat.le_of_ble_eq_true rfl⟩) rfl hl.1 rfl (Nat.le_of_ble_eq_true rfl) dX9_slantsOf_22 ⟨Nat.le_of_ble_eq_true rfl, Nat.le_of_ble_eq_true rfl⟩ (fun _ => Nat.le_of_ble_eq_true rfl) (fun _ => rfl) (fun u H locs hp hG => ?_)
        obtain ⟨lg2_22, mr2_22, en2_22, pw2_22, sl2_22, ly2_22, dn2_22, B0_22, B1_22, B2_22, B3_22, B4_22, B5_22, B6_22⟩ := u
        have hf_22 := hp
        have hf_22 : FolR NF w y x lg2_22 mr2_22 en2_22 pw2_22 B0_22 B1_22 B2_22 B3_22 B4_22 B5_22 B6_22 := hf_22
        have hG : gW K A s.heap [gMdl K am th rw lg2_22 mr2_22 en2_22 pw2_22 sl2_22 ly2_22 dn2_22 iz tz nx st tk vl ef ep hO hB ol rm oz, gArr K 95 rw NF, gArr K 60 (am 3) B0_22, gArrZ K 60 (am 4) B1_22, gArr K 60 (am 5) B2_22, gArr K 60 (am 6) B3_22, gArr K 60 (am 7) B4_22, gArr K 60 (am 8) B5_22, gArr K 60 (am 9) B6_22] _ _ := hG
        have fb := hf_22.bd hN hw.2.1 hx
        have f3 := hf_22.2.2.1
        refine lv_iload S.1 S.2.1 dX9_slantsOf_25 (lv_at hl 4 rfl) ?_
        refine lv_aload_n S.1 S.2.1 dX9_slantsOf_27 rfl (lv_at hl 0 rfl) ?_
        refine g_get S C hG iX90 0 rfl rfl 13 (by decide) (List.mem_of_getElem? (i := 1) rfl) rfl dX9_slantsOf_28 ?_
        refine lv_iload_n S.1 S.2.1 dX9_slantsOf_31 rfl (lv_at hl 3 rfl) ?_
        refine g_icmp_ne (tgt := 39) S dX9_slantsOf_32 (by decide) (by omega) (by omega) (fun q32 => ?_) (fun q32 => ?_)
        · skip
          refine g_iconst S dX9_slantsOf_39 ?_
          refine g_iadd S dX9_slantsOf_40 rfl ?_
          refine lv_istore (lv' := [(4, .int (iI (f + 0))), (0, .ref (am 0)), (1, .int (iI y)), (2, .int (iI x)), (3, .int (iI z)), (5, .int (iI w))]) S.1 S.2.1 dX9_slantsOf_41 hl (by decide) rfl (fun ls hl => ?_)
          refine lv_iinc (v := iI (w + 1)) (lv' := [(5, .int (iI (w + 1))), (4, .int (iI (f + 0))), (0, .ref (am 0)), (1, .int (iI y)), (2, .int (iI x)), (3, .int (iI z))]) S.1 S.2.1 dX9_slantsOf_43 hl (k := 5) rfl (g_iinc rfl) (by decide) rfl (fun ls hl => ?_)
          refine lv_goto (tgt := 6) S.1 S.2.1 dX9_slantsOf_46 (by decide) ?_
          exact ih (k + 1) (w + 1) (f + 0) lg2_22 mr2_22 en2_22 pw2_22 sl2_22 ly2_22 dn2_22 B0_22 B1_22 B2_22 B3_22 B4_22 B5_22 B6_22 _ _ _ (by omega) ⟨by omega, by omega⟩ (by simp only [cntS] <;> rw [← hb, ← hw.1, ← f3, if_neg q32]) (lv_sub hl [2, 3, 4, 5, 1, 0] rfl) hG
        · skip
          refine g_iconst S dX9_slantsOf_35 ?_
          refine lv_goto (tgt := 40) S.1 S.2.1 dX9_slantsOf_36 (by decide) ?_
          refine g_iadd S dX9_slantsOf_40 rfl ?_
          refine lv_istore (lv' := [(4, .int (iI (f + 1))), (0, .ref (am 0)), (1, .int (iI y)), (2, .int (iI x)), (3, .int (iI z)), (5, .int (iI w))]) S.1 S.2.1 dX9_slantsOf_41 hl (by decide) rfl (fun ls hl => ?_)
          refine lv_iinc (v := iI (w + 1)) (lv' := [(5, .int (iI (w + 1))), (4, .int (iI (f + 1))), (0, .ref (am 0)), (1, .int (iI y)), (2, .int (iI x)), (3, .int (iI z))]) S.1 S.2.1 dX9_slantsOf_43 hl (k := 5) rfl (g_iinc rfl) (by decide) rfl (fun ls hl => ?_)
          refine lv_goto (tgt := 6) S.1 S.2.1 dX9_slantsOf_46 (by decide) ?_
          exact ih (k + 1) (w + 1) (f + 1) lg2_22 mr2_22 en2_22 pw2_22 sl2_22 ly2_22 dn2_22 B0_22 B1_22 B2_22 B3_22 B4_22 B5_22 B6_22 _ _ _ (by omega) ⟨by omega, by omega⟩ (by simp only [cntS] <;> rw [← hb, ← hw.1, ← f3, if_pos (by omega)]) (lv_sub hl [2, 3, 4, 5, 1, 0] rfl) hG
  exact L6 (Nat.succ ((nX NF y - 0).toNat)) 0 0 0 lg mr en pw sl ly dn A0 A1 A2 A3 A4 A5 A6 _ _ _ (Nat.lt_succ_self _) ⟨rfl, by omega⟩ rfl (lv_sub hl [2, 3, 4, 5, 1, 0] rfl) hG

set_option maxHeartbeats 1000000 in
set_option maxRecDepth 100000 in
theorem c_X9_slants (l : Launch) (K : KC) (am : Nat → Nat) (th : Int) (rw : Nat) (lg : Int) (mr : Int) (en : Int) (pw : Int) (sl : Int) (ly : Int) (dn : Int) (iz : Int) (tz : Int) (nx : Int) (st : Int) (tk : Int) (vl : Int) (ef : Int) (ep : Int) (hO : Int) (hB : Int) (ol : Int) (rm : Int) (oz : Int) (NF : Int → Int) (A0 : Int → Int) (A1 : Int → Int) (A2 : Int → Int) (A3 : Int → Int) (A4 : Int → Int) (A5 : Int → Int) (A6 : Int → Int) (y : Int) (x : Int) (z : Int) (hN : NOk0 NF) (hv : -2147483648 ≤ y ∧ y < 2147483648) (hx : x = 0 ∨ x = 1) (hz : -2147483648 ≤ z ∧ z < 2147483648) : mG l yX9_slants wsX9_slants 6 139 K [.ref (am 0), .int (iI y), .int (iI x), .int (iI z)] [gMdl K am th rw lg mr en pw sl ly dn iz tz nx st tk vl ef ep hO hB ol rm oz, gArr K 95 rw NF, gArr K 60 (am 3) A0, gArrZ K 60 (am 4) A1, gArr K 60 (am 5) A2, gArr K 60 (am 6) A3, gArr K 60 (am 7) A4, gArr K 60 (am 8) A5, gArr K 60 (am 9) A6] (fun (v : Value) (u : Int × Int × Int × Int × Int × Int × Int × Int × (Int → Int) × (Int → Int) × (Int → Int) × (Int → Int) × (Int → Int) × (Int → Int) × (Int → Int)) => (v = .int (iI u.1)) ∧ ((0 ≤ y ∧ y < NF 0) ∧ (0 ≤ z ∧ z ≤ 3) → u.1 = cntS NF y x z (nX NF y).toNat)) (fun (u : Int × Int × Int × Int × Int × Int × Int × Int × (Int → Int) × (Int → Int) × (Int → Int) × (Int → Int) × (Int → Int) × (Int → Int) × (Int → Int)) => [gMdl K am (thr (bI (0 ≤ y ∧ y < NF 0)) (bI (0 ≤ z ∧ z ≤ 3)) 1) rw u.2.1 u.2.2.1 u.2.2.2.1 u.2.2.2.2.1 u.2.2.2.2.2.1 u.2.2.2.2.2.2.1 u.2.2.2.2.2.2.2.1 iz tz nx st tk vl ef ep hO hB ol rm oz, gArr K 95 rw NF, gArr K 60 (am 3) u.2.2.2.2.2.2.2.2.1, gArrZ K 60 (am 4) u.2.2.2.2.2.2.2.2.2.1, gArr K 60 (am 5) u.2.2.2.2.2.2.2.2.2.2.1, gArr K 60 (am 6) u.2.2.2.2.2.2.2.2.2.2.2.1, gArr K 60 (am 7) u.2.2.2.2.2.2.2.2.2.2.2.2.1, gArr K 60 (am 8) u.2.2.2.2.2.2.2.2.2.2.2.2.2.1, gArr K 60 (am 9) u.2.2.2.2.2.2.2.2.2.2.2.2.2.2]) 0 0 := by
  refine mG_of cX9_slants 4 (by decide) rfl (Nat.le_of_ble_eq_true rfl) ?_
  intro p e s m below meth c A ls Q S C hG hl hr hlk hin hQ
  have S : CallFix p m c cX9_slants 4 s ([.ref (am 0), .int (iI y), .int (iI x), .int (iI z)] : List Value).toArray wsX9_slants RX9 := S
  have iX90 : ∀ w ∈ wsX90, w ∈ wsX9_slants := fun _ h => List.mem_cons_of_mem _ (List.mem_append_right _ (h))
  have hl : lv_has ls 4 [(0, .ref (am 0)), (1, .int (iI y)), (2, .int (iI x)), (3, .int (iI z))] := hl
  have hG : gW K A s.heap [gMdl K am th rw lg mr en pw sl ly dn iz tz nx st tk vl ef ep hO hB ol rm oz, gArr K 95 rw NF, gArr K 60 (am 3) A0, gArrZ K 60 (am 4) A1, gArr K 60 (am 5) A2, gArr K 60 (am 6) A3, gArr K 60 (am 7) A4, gArr K 60 (am 8) A5, gArr K 60 (am 9) A6] s.heap [] := hG
  have n0 := hN.1
  have n3 := hN.2.2.2.1
  refine lv_aload_n S.1 S.2.1 dX9_slants_0 rfl (lv_at hl 0 rfl) ?_
  refine lv_aload_n S.1 S.2.1 dX9_slants_1 rfl (lv_at hl 0 rfl) ?_
  refine lv_iload_n S.1 S.2.1 dX9_slants_2 rfl (lv_at hl 1 rfl) ?_
  refine g_invV (As := [.int (iI y)]) (rest := [.ref (am 0)]) (gs' := (fun u : Unit => [gMdl K am th rw lg mr en pw sl ly dn iz tz nx st tk vl ef ep hO hB ol rm oz, gArr K 95 rw NF, gArr K 60 (am 3) A0, gArrZ K 60 (am 4) A1, gArr K 60 (am 5) A2, gArr K 60 (am 6) A3, gArr K 60 (am 7) A4, gArr K 60 (am 8) A5, gArr K 60 (am 9) A6])) S C hG [0, 1] (c_X9_isLayer l K am th rw lg mr en pw sl ly dn iz tz nx st tk vl ef ep hO hB ol rm oz NF y hN hv) rfl rfl 0 rfl rfl (cwV 1 S.2.2.2.2 gX9_slants_X9_isLayer rfl rfl rfl (by decide +kernel) ⟨Nat.le_of_ble_eq_true rfl, Nat.le_of_ble_eq_true rfl⟩) rfl hl.1 rfl (Nat.le_of_ble_eq_true rfl) dX9_slants_3 ⟨Nat.le_of_ble_eq_true rfl, Nat.le_of_ble_eq_true rfl⟩ (fun _ => Nat.le_of_ble_eq_true rfl) (fun _ => rfl) (fun v u H locs hp hG => ?_)
  subst hp
  refine lv_iload_n S.1 S.2.1 dX9_slants_6 rfl (lv_at hl 3 rfl) ?_
  refine g_invS (As := [.int (iI z)]) (rest := [.int (iI (bI (0 ≤ y ∧ y < NF 0))), .ref (am 0)]) (gs' := (fun u : Unit => [gMdl K am th rw lg mr en pw sl ly dn iz tz nx st tk vl ef ep hO hB ol rm oz, gArr K 95 rw NF, gArr K 60 (am 3) A0, gArrZ K 60 (am 4) A1, gArr K 60 (am 5) A2, gArr K 60 (am 6) A3, gArr K 60 (am 7) A4, gArr K 60 (am 8) A5, gArr K 60 (am 9) A6])) S C hG [] (c_X9_isEnd l K z hz) rfl rfl (va_cwS 1 S.2.2.2.2 gX9_slants_X9_isEnd rfl rfl rfl (by decide +kernel) ⟨Nat.le_of_ble_eq_true rfl, Nat.le_of_ble_eq_true rfl⟩) rfl hl.1 rfl (Nat.le_of_ble_eq_true rfl) dX9_slants_7 ⟨Nat.le_of_ble_eq_true rfl, Nat.le_of_ble_eq_true rfl⟩ (fun _ => Nat.le_of_ble_eq_true rfl) (fun _ => rfl) (fun v u H locs hp hG => ?_)
  subst hp
  refine g_invV (As := [.int (iI (bI (0 ≤ y ∧ y < NF 0))), .int (iI (bI (0 ≤ z ∧ z ≤ 3)))]) (rest := []) (gs' := (fun u : Unit => [gMdl K am (thr (bI (0 ≤ y ∧ y < NF 0)) (bI (0 ≤ z ∧ z ≤ 3)) 1) rw lg mr en pw sl ly dn iz tz nx st tk vl ef ep hO hB ol rm oz, gArr K 95 rw NF, gArr K 60 (am 3) A0, gArrZ K 60 (am 4) A1, gArr K 60 (am 5) A2, gArr K 60 (am 6) A3, gArr K 60 (am 7) A4, gArr K 60 (am 8) A5, gArr K 60 (am 9) A6])) S C hG [0] (c_X9_passes2 l K am th rw lg mr en pw sl ly dn iz tz nx st tk vl ef ep hO hB ol rm oz (bI (0 ≤ y ∧ y < NF 0)) (bI (0 ≤ z ∧ z ≤ 3)) (bI_01 _) (bI_01 _)) rfl rfl 0 rfl rfl (cwV 2 S.2.2.2.2 gX9_slants_X9_passes2 rfl rfl rfl (by decide +kernel) ⟨Nat.le_of_ble_eq_true rfl, Nat.le_of_ble_eq_true rfl⟩) rfl hl.1 rfl (Nat.le_of_ble_eq_true rfl) dX9_slants_10 ⟨Nat.le_of_ble_eq_true rfl, Nat.le_of_ble_eq_true rfl⟩ (fun _ => Nat.le_of_ble_eq_true rfl) (fun _ => rfl) (fun v u H locs hp hG => ?_)
  subst hp
  refine g_ifeq_b (B := ((bI (0 ≤ y ∧ y < NF 0)) = 1 ∧ (bI (0 ≤ z ∧ z ≤ 3)) = 1)) (tgt := 26) S dX9_slants_13 (by decide) (fun q13 => ?_) (fun q13 => ?_)
  · skip
    refine g_iconst S dX9_slants_26 ?_
    have hG : gW K A s.heap [gMdl K am (thr (bI (0 ≤ y ∧ y < NF 0)) (bI (0 ≤ z ∧ z ≤ 3)) 1) rw lg mr en pw sl ly dn iz tz nx st tk vl ef ep hO hB ol rm oz, gArr K 95 rw NF, gArr K 60 (am 3) A0, gArrZ K 60 (am 4) A1, gArr K 60 (am 5) A2, gArr K 60 (am 6) A3, gArr K 60 (am 7) A4, gArr K 60 (am 8) A5, gArr K 60 (am 9) A6] _ _ := hG
    exact g_iret S hr hlk hQ dX9_slants_27 (Nat.le_of_ble_eq_true rfl) (Nat.le_of_ble_eq_true rfl) ((0, lg, mr, en, pw, sl, ly, dn, A0, A1, A2, A3, A4, A5, A6) : Int × Int × Int × Int × Int × Int × Int × Int × (Int → Int) × (Int → Int) × (Int → Int) × (Int → Int) × (Int → Int) × (Int → Int) × (Int → Int)) ⟨rfl, (fun h => absurd ⟨bI_t h.1, bI_t h.2⟩ q13)⟩ hG
  · skip
    have qa := bI1 q13.1
    have qb := bI1 q13.2
    refine lv_aload_n S.1 S.2.1 dX9_slants_16 rfl (lv_at hl 0 rfl) ?_
    refine lv_iload_n S.1 S.2.1 dX9_slants_17 rfl (lv_at hl 1 rfl) ?_
    refine lv_iload_n S.1 S.2.1 dX9_slants_18 rfl (lv_at hl 2 rfl) ?_
    refine lv_iload_n S.1 S.2.1 dX9_slants_19 rfl (lv_at hl 3 rfl) ?_
    refine g_invV (As := [.int (iI y), .int (iI x), .int (iI z)]) (rest := []) (gs' := (fun u : Int × Int × Int × Int × Int × Int × Int × (Int → Int) × (Int → Int) × (Int → Int) × (Int → Int) × (Int → Int) × (Int → Int) × (Int → Int) => [gMdl K am (thr (bI (0 ≤ y ∧ y < NF 0)) (bI (0 ≤ z ∧ z ≤ 3)) 1) rw u.1 u.2.1 u.2.2.1 u.2.2.2.1 u.2.2.2.2.1 u.2.2.2.2.2.1 u.2.2.2.2.2.2.1 iz tz nx st tk vl ef ep hO hB ol rm oz, gArr K 95 rw NF, gArr K 60 (am 3) u.2.2.2.2.2.2.2.1, gArrZ K 60 (am 4) u.2.2.2.2.2.2.2.2.1, gArr K 60 (am 5) u.2.2.2.2.2.2.2.2.2.1, gArr K 60 (am 6) u.2.2.2.2.2.2.2.2.2.2.1, gArr K 60 (am 7) u.2.2.2.2.2.2.2.2.2.2.2.1, gArr K 60 (am 8) u.2.2.2.2.2.2.2.2.2.2.2.2.1, gArr K 60 (am 9) u.2.2.2.2.2.2.2.2.2.2.2.2.2])) S C hG [0, 1, 2, 3, 4, 5, 6, 7, 8] (c_X9_slantsOf l K am (thr (bI (0 ≤ y ∧ y < NF 0)) (bI (0 ≤ z ∧ z ≤ 3)) 1) rw lg mr en pw sl ly dn iz tz nx st tk vl ef ep hO hB ol rm oz NF A0 A1 A2 A3 A4 A5 A6 y x z hN hv hx hz qa) rfl rfl 0 rfl rfl (cwV 3 S.2.2.2.2 gX9_slants_X9_slantsOf rfl rfl rfl (by decide +kernel) ⟨Nat.le_of_ble_eq_true rfl, Nat.le_of_ble_eq_true rfl⟩) rfl hl.1 rfl (Nat.le_of_ble_eq_true rfl) dX9_slants_20 ⟨Nat.le_of_ble_eq_true rfl, Nat.le_of_ble_eq_true rfl⟩ (fun _ => Nat.le_of_ble_eq_true rfl) (fun _ => rfl) (fun v u H locs hp hG => ?_)
    obtain ⟨lg2_20, mr2_20, en2_20, pw2_20, sl2_20, ly2_20, dn2_20, B0_20, B1_20, B2_20, B3_20, B4_20, B5_20, B6_20⟩ := u
    subst hp
    have hG : gW K A s.heap [gMdl K am (thr (bI (0 ≤ y ∧ y < NF 0)) (bI (0 ≤ z ∧ z ≤ 3)) 1) rw lg2_20 mr2_20 en2_20 pw2_20 sl2_20 ly2_20 dn2_20 iz tz nx st tk vl ef ep hO hB ol rm oz, gArr K 95 rw NF, gArr K 60 (am 3) B0_20, gArrZ K 60 (am 4) B1_20, gArr K 60 (am 5) B2_20, gArr K 60 (am 6) B3_20, gArr K 60 (am 7) B4_20, gArr K 60 (am 8) B5_20, gArr K 60 (am 9) B6_20] _ _ := hG
    refine lv_goto (tgt := 27) S.1 S.2.1 dX9_slants_23 (by decide) ?_
    have hG : gW K A s.heap [gMdl K am (thr (bI (0 ≤ y ∧ y < NF 0)) (bI (0 ≤ z ∧ z ≤ 3)) 1) rw lg2_20 mr2_20 en2_20 pw2_20 sl2_20 ly2_20 dn2_20 iz tz nx st tk vl ef ep hO hB ol rm oz, gArr K 95 rw NF, gArr K 60 (am 3) B0_20, gArrZ K 60 (am 4) B1_20, gArr K 60 (am 5) B2_20, gArr K 60 (am 6) B3_20, gArr K 60 (am 7) B4_20, gArr K 60 (am 8) B5_20, gArr K 60 (am 9) B6_20] _ _ := hG
    exact g_iret S hr hlk hQ dX9_slants_27 (Nat.le_of_ble_eq_true rfl) (Nat.le_of_ble_eq_true rfl) ((cntS NF y x z (nX NF y).toNat, lg2_20, mr2_20, en2_20, pw2_20, sl2_20, ly2_20, dn2_20, B0_20, B1_20, B2_20, B3_20, B4_20, B5_20, B6_20) : Int × Int × Int × Int × Int × Int × Int × Int × (Int → Int) × (Int → Int) × (Int → Int) × (Int → Int) × (Int → Int) × (Int → Int) × (Int → Int)) ⟨rfl, (fun _ => rfl)⟩ hG

set_option maxHeartbeats 1000000 in
set_option maxRecDepth 100000 in
theorem c_X9_leastSlant (l : Launch) (K : KC) (am : Nat → Nat) (th : Int) (rw : Nat) (lg : Int) (mr : Int) (en : Int) (pw : Int) (sl : Int) (ly : Int) (dn : Int) (iz : Int) (tz : Int) (nx : Int) (st : Int) (tk : Int) (vl : Int) (ef : Int) (ep : Int) (hO : Int) (hB : Int) (ol : Int) (rm : Int) (oz : Int) (NF : Int → Int) (A0 : Int → Int) (A1 : Int → Int) (A2 : Int → Int) (A3 : Int → Int) (A4 : Int → Int) (A5 : Int → Int) (A6 : Int → Int) (y : Int) (x : Int) (z : Int) (hN : NOk0 NF) (hv : -2147483648 ≤ y ∧ y < 2147483648) (hx : x = 0 ∨ x = 1) (hz : -2147483648 ≤ z ∧ z < 2147483648) : mG l yX9_leastSlant wsX9_leastSlant 5 114 K [.ref (am 0), .int (iI y), .int (iI x), .int (iI z)] [gMdl K am th rw lg mr en pw sl ly dn iz tz nx st tk vl ef ep hO hB ol rm oz, gArr K 95 rw NF, gArr K 60 (am 3) A0, gArrZ K 60 (am 4) A1, gArr K 60 (am 5) A2, gArr K 60 (am 6) A3, gArr K 60 (am 7) A4, gArr K 60 (am 8) A5, gArr K 60 (am 9) A6] (fun (v : Value) (u : Int × Int × Int × Int × Int × Int × Int × Int × (Int → Int) × (Int → Int) × (Int → Int) × (Int → Int) × (Int → Int) × (Int → Int) × (Int → Int)) => (v = .int (iI u.1)) ∧ ((0 ≤ y ∧ y < NF 0) ∧ (0 ≤ z ∧ z ≤ 3) → LowR NF y x z u.1)) (fun (u : Int × Int × Int × Int × Int × Int × Int × Int × (Int → Int) × (Int → Int) × (Int → Int) × (Int → Int) × (Int → Int) × (Int → Int) × (Int → Int)) => [gMdl K am (thr (bI (0 ≤ y ∧ y < NF 0)) (bI (0 ≤ z ∧ z ≤ 3)) 1) rw u.2.1 u.2.2.1 u.2.2.2.1 u.2.2.2.2.1 u.2.2.2.2.2.1 u.2.2.2.2.2.2.1 u.2.2.2.2.2.2.2.1 iz tz nx st tk vl ef ep hO hB ol rm oz, gArr K 95 rw NF, gArr K 60 (am 3) u.2.2.2.2.2.2.2.2.1, gArrZ K 60 (am 4) u.2.2.2.2.2.2.2.2.2.1, gArr K 60 (am 5) u.2.2.2.2.2.2.2.2.2.2.1, gArr K 60 (am 6) u.2.2.2.2.2.2.2.2.2.2.2.1, gArr K 60 (am 7) u.2.2.2.2.2.2.2.2.2.2.2.2.1, gArr K 60 (am 8) u.2.2.2.2.2.2.2.2.2.2.2.2.2.1, gArr K 60 (am 9) u.2.2.2.2.2.2.2.2.2.2.2.2.2.2]) 0 0 := by
  refine mG_of cX9_leastSlant 5 (by decide) rfl (Nat.le_of_ble_eq_true rfl) ?_
  intro p e s m below meth c A ls Q S C hG hl hr hlk hin hQ
  have S : CallFix p m c cX9_leastSlant 5 s ([.ref (am 0), .int (iI y), .int (iI x), .int (iI z)] : List Value).toArray wsX9_leastSlant RX9 := S
  have iX90 : ∀ w ∈ wsX90, w ∈ wsX9_leastSlant := fun _ h => List.mem_cons_of_mem _ (List.mem_append_right _ (h))
  have hl : lv_has ls 5 [(0, .ref (am 0)), (1, .int (iI y)), (2, .int (iI x)), (3, .int (iI z))] := hl
  have hG : gW K A s.heap [gMdl K am th rw lg mr en pw sl ly dn iz tz nx st tk vl ef ep hO hB ol rm oz, gArr K 95 rw NF, gArr K 60 (am 3) A0, gArrZ K 60 (am 4) A1, gArr K 60 (am 5) A2, gArr K 60 (am 6) A3, gArr K 60 (am 7) A4, gArr K 60 (am 8) A5, gArr K 60 (am 9) A6] s.heap [] := hG
  have n0 := hN.1
  have n3 := hN.2.2.2.1
  refine lv_aload_n S.1 S.2.1 dX9_leastSlant_0 rfl (lv_at hl 0 rfl) ?_
  refine lv_aload_n S.1 S.2.1 dX9_leastSlant_1 rfl (lv_at hl 0 rfl) ?_
  refine lv_iload_n S.1 S.2.1 dX9_leastSlant_2 rfl (lv_at hl 1 rfl) ?_
  refine g_invV (As := [.int (iI y)]) (rest := [.ref (am 0)]) (gs' := (fun u : Unit => [gMdl K am th rw lg mr en pw sl ly dn iz tz nx st tk vl ef ep hO hB ol rm oz, gArr K 95 rw NF, gArr K 60 (am 3) A0, gArrZ K 60 (am 4) A1, gArr K 60 (am 5) A2, gArr K 60 (am 6) A3, gArr K 60 (am 7) A4, gArr K 60 (am 8) A5, gArr K 60 (am 9) A6])) S C hG [0, 1] (c_X9_isLayer l K am th rw lg mr en pw sl ly dn iz tz nx st tk vl ef ep hO hB ol rm oz NF y hN hv) rfl rfl 0 rfl rfl (cwV 1 S.2.2.2.2 gX9_leastSlant_X9_isLayer rfl rfl rfl (by decide +kernel) ⟨Nat.le_of_ble_eq_true rfl, Nat.le_of_ble_eq_true rfl⟩) rfl hl.1 rfl (Nat.le_of_ble_eq_true rfl) dX9_leastSlant_3 ⟨Nat.le_of_ble_eq_true rfl, Nat.le_of_ble_eq_true rfl⟩ (fun _ => Nat.le_of_ble_eq_true rfl) (fun _ => rfl) (fun v u H locs hp hG => ?_)
  subst hp
  refine lv_iload_n S.1 S.2.1 dX9_leastSlant_6 rfl (lv_at hl 3 rfl) ?_
  refine g_invS (As := [.int (iI z)]) (rest := [.int (iI (bI (0 ≤ y ∧ y < NF 0))), .ref (am 0)]) (gs' := (fun u : Unit => [gMdl K am th rw lg mr en pw sl ly dn iz tz nx st tk vl ef ep hO hB ol rm oz, gArr K 95 rw NF, gArr K 60 (am 3) A0, gArrZ K 60 (am 4) A1, gArr K 60 (am 5) A2, gArr K 60 (am 6) A3, gArr K 60 (am 7) A4, gArr K 60 (am 8) A5, gArr K 60 (am 9) A6])) S C hG [] (c_X9_isEnd l K z hz) rfl rfl (va_cwS 1 S.2.2.2.2 gX9_leastSlant_X9_isEnd rfl rfl rfl (by decide +kernel) ⟨Nat.le_of_ble_eq_true rfl, Nat.le_of_ble_eq_true rfl⟩) rfl hl.1 rfl (Nat.le_of_ble_eq_true rfl) dX9_leastSlant_7 ⟨Nat.le_of_ble_eq_true rfl, Nat.le_of_ble_eq_true rfl⟩ (fun _ => Nat.le_of_ble_eq_true rfl) (fun _ => rfl) (fun v u H locs hp hG => ?_)
  subst hp
  refine g_invV (As := [.int (iI (bI (0 ≤ y ∧ y < NF 0))), .int (iI (bI (0 ≤ z ∧ z ≤ 3)))]) (rest := []) (gs' := (fun u : Unit => [gMdl K am (thr (bI (0 ≤ y ∧ y < NF 0)) (bI (0 ≤ z ∧ z ≤ 3)) 1) rw lg mr en pw sl ly dn iz tz nx st tk vl ef ep hO hB ol rm oz, gArr K 95 rw NF, gArr K 60 (am 3) A0, gArrZ K 60 (am 4) A1, gArr K 60 (am 5) A2, gArr K 60 (am 6) A3, gArr K 60 (am 7) A4, gArr K 60 (am 8) A5, gArr K 60 (am 9) A6])) S C hG [0] (c_X9_passes2 l K am th rw lg mr en pw sl ly dn iz tz nx st tk vl ef ep hO hB ol rm oz (bI (0 ≤ y ∧ y < NF 0)) (bI (0 ≤ z ∧ z ≤ 3)) (bI_01 _) (bI_01 _)) rfl rfl 0 rfl rfl (cwV 2 S.2.2.2.2 gX9_leastSlant_X9_passes2 rfl rfl rfl (by decide +kernel) ⟨Nat.le_of_ble_eq_true rfl, Nat.le_of_ble_eq_true rfl⟩) rfl hl.1 rfl (Nat.le_of_ble_eq_true rfl) dX9_leastSlant_10 ⟨Nat.le_of_ble_eq_true rfl, Nat.le_of_ble_eq_true rfl⟩ (fun _ => Nat.le_of_ble_eq_true rfl) (fun _ => rfl) (fun v u H locs hp hG => ?_)
  subst hp
  refine g_ifne_b (B := ((bI (0 ≤ y ∧ y < NF 0)) = 1 ∧ (bI (0 ≤ z ∧ z ≤ 3)) = 1)) (tgt := 18) S dX9_leastSlant_13 (by decide) (fun q13 => ?_) (fun q13 => ?_)
  · skip
    have qa := bI1 q13.1
    have qb := bI1 q13.2
    have lb9 := (lay_bd hN qa.1 qa.2).1
    refine g_iconst S dX9_leastSlant_18 ?_
    refine lv_istore (lv' := [(4, .int (iI 0)), (0, .ref (am 0)), (1, .int (iI y)), (2, .int (iI x)), (3, .int (iI z))]) S.1 S.2.1 dX9_leastSlant_19 hl (by decide) rfl (fun ls hl => ?_)
    have L21 : ∀ (fu : Nat) (w : Int) (lg1 : Int) (mr1 : Int) (en1 : Int) (pw1 : Int) (sl1 : Int) (ly1 : Int) (dn1 : Int) (E0 : Int → Int) (E1 : Int → Int) (E2 : Int → Int) (E3 : Int → Int) (E4 : Int → Int) (E5 : Int → Int) (E6 : Int → Int) (H : Heap) (locs : List Loc) (ls : Array Slot), ((nX NF y - w).toNat) < fu → (0 ≤ w ∧ w ≤ nX NF y) → (∀ p : Int, 0 ≤ p → p < w → enF NF p y x ≠ z) → lv_has ls 5 [(0, .ref (am 0)), (1, .int (iI y)), (2, .int (iI x)), (3, .int (iI z)), (4, .int (iI w))] → gW K A s.heap [gMdl K am (thr (bI (0 ≤ y ∧ y < NF 0)) (bI (0 ≤ z ∧ z ≤ 3)) 1) rw lg1 mr1 en1 pw1 sl1 ly1 dn1 iz tz nx st tk vl ef ep hO hB ol rm oz, gArr K 95 rw NF, gArr K 60 (am 3) E0, gArrZ K 60 (am 4) E1, gArr K 60 (am 5) E2, gArr K 60 (am 6) E3, gArr K 60 (am 7) E4, gArr K 60 (am 8) E5, gArr K 60 (am 9) E6] H locs → W p l e { frames := 5, cells := 0, slots := 0, locals := 114 } s m ([.ref (am 0), .int (iI y), .int (iI x), .int (iI z)] : List Value).toArray below meth c H locs 0 0 Q (F0 m 21 ls []) := by
      intro fu
      induction fu with
      | zero => intro w lg1 mr1 en1 pw1 sl1 ly1 dn1 E0 E1 E2 E3 E4 E5 E6 H locs ls hfu; exact absurd hfu (Nat.not_lt_zero _)
      | succ fu ih =>
        intro w lg1 mr1 en1 pw1 sl1 ly1 dn1 E0 E1 E2 E3 E4 E5 E6 H locs ls hfu hw ho hl hG
        refine lv_iload S.1 S.2.1 dX9_leastSlant_21 (lv_at hl 4 rfl) ?_
        refine lv_aload_n S.1 S.2.1 dX9_leastSlant_23 rfl (lv_at hl 0 rfl) ?_
        refine lv_iload_n S.1 S.2.1 dX9_leastSlant_24 rfl (lv_at hl 1 rfl) ?_
        refine g_iconst S dX9_leastSlant_25 ?_
        refine g_invV (As := [.int (iI y), .int (iI 0)]) (rest := [.int (iI w)]) (gs' := (fun u : Unit => [gMdl K am (thr (bI (0 ≤ y ∧ y < NF 0)) (bI (0 ≤ z ∧ z ≤ 3)) 1) rw lg1 mr1 en1 pw1 sl1 ly1 dn1 iz tz nx st tk vl ef ep hO hB ol rm oz, gArr K 95 rw NF, gArr K 60 (am 3) E0, gArrZ K 60 (am 4) E1, gArr K 60 (am 5) E2, gArr K 60 (am 6) E3, gArr K 60 (am 7) E4, gArr K 60 (am 8) E5, gArr K 60 (am 9) E6])) S C hG [0, 1] (c_X9_ofLayer l K am (thr (bI (0 ≤ y ∧ y < NF 0)) (bI (0 ≤ z ∧ z ≤ 3)) 1) rw lg1 mr1 en1 pw1 sl1 ly1 dn1 iz tz nx st tk vl ef ep hO hB ol rm oz NF y 0 (by omega) (by decide)) rfl rfl 0 rfl rfl (cwV 2 S.2.2.2.2 gX9_leastSlant_X9_ofLayer rfl rfl rfl (by decide +kernel) ⟨Nat.le_of_ble_eq_true rfl, Nat.le_of_ble_eq_true rfl⟩) rfl hl.1 rfl (Nat.le_of_ble_eq_true rfl) dX9_leastSlant_26 ⟨Nat.le_of_ble_eq_true rfl, Nat.le_of_ble_eq_true rfl⟩ (fun _ => Nat.le_of_ble_eq_true rfl) (fun _ => rfl) (fun v u H locs hp hG => ?_)
        subst hp
        refine g_top (w := .int (iI (nX NF y))) (congrArg (fun z : Int => Value.int (iI z)) (rfl)) ?_
        refine g_icmp_ge (tgt := 57) S dX9_leastSlant_29 (by decide) (by omega) (by omega) (fun q29 => ?_) (fun q29 => ?_)
        · skip
          refine g_iconst S dX9_leastSlant_57 ?_
          have hG : gW K A s.heap [gMdl K am (thr (bI (0 ≤ y ∧ y < NF 0)) (bI (0 ≤ z ∧ z ≤ 3)) 1) rw lg1 mr1 en1 pw1 sl1 ly1 dn1 iz tz nx st tk vl ef ep hO hB ol rm oz, gArr K 95 rw NF, gArr K 60 (am 3) E0, gArrZ K 60 (am 4) E1, gArr K 60 (am 5) E2, gArr K 60 (am 6) E3, gArr K 60 (am 7) E4, gArr K 60 (am 8) E5, gArr K 60 (am 9) E6] _ _ := hG
          exact g_iret S hr hlk hQ dX9_leastSlant_58 (Nat.le_of_ble_eq_true rfl) (Nat.le_of_ble_eq_true rfl) (((-1), lg1, mr1, en1, pw1, sl1, ly1, dn1, E0, E1, E2, E3, E4, E5, E6) : Int × Int × Int × Int × Int × Int × Int × Int × (Int → Int) × (Int → Int) × (Int → Int) × (Int → Int) × (Int → Int) × (Int → Int) × (Int → Int)) ⟨rfl, (fun _ => Or.inl ⟨rfl, fun p a b => ho p a (by omega)⟩)⟩ hG
        · skip
          refine lv_aload_n S.1 S.2.1 dX9_leastSlant_32 rfl (lv_at hl 0 rfl) ?_
          refine lv_iload_n S.1 S.2.1 dX9_leastSlant_33 rfl (lv_at hl 1 rfl) ?_
          refine lv_iload_n S.1 S.2.1 dX9_leastSlant_34 rfl (lv_at hl 2 rfl) ?_
          refine lv_iload S.1 S.2.1 dX9_leastSlant_35 (lv_at hl 4 rfl) ?_
          refine g_invVv (As := [.int (iI y), .int (iI x), .int (iI w)]) (rest := []) (gs' := (fun u : Int × Int × Int × Int × Int × Int × Int × (Int → Int) × (Int → Int) × (Int → Int) × (Int → Int) × (Int → Int) × (Int → Int) × (Int → Int) => [gMdl K am (thr (bI (0 ≤ y ∧ y < NF 0)) (bI (0 ≤ z ∧ z ≤ 3)) 1) rw u.1 u.2.1 u.2.2.1 u.2.2.2.1 u.2.2.2.2.1 u.2.2.2.2.2.1 u.2.2.2.2.2.2.1 iz tz nx st tk vl ef ep hO hB ol rm oz, gArr K 95 rw NF, gArr K 60 (am 3) u.2.2.2.2.2.2.2.1, gArrZ K 60 (am 4) u.2.2.2.2.2.2.2.2.1, gArr K 60 (am 5) u.2.2.2.2.2.2.2.2.2.1, gArr K 60 (am 6) u.2.2.2.2.2.2.2.2.2.2.1, gArr K 60 (am 7) u.2.2.2.2.2.2.2.2.2.2.2.1, gArr K 60 (am 8) u.2.2.2.2.2.2.2.2.2.2.2.2.1, gArr K 60 (am 9) u.2.2.2.2.2.2.2.2.2.2.2.2.2])) S C hG [0, 1, 2, 3, 4, 5, 6, 7, 8] (c_X9_follow l K am (thr (bI (0 ≤ y ∧ y < NF 0)) (bI (0 ≤ z ∧ z ≤ 3)) 1) rw lg1 mr1 en1 pw1 sl1 ly1 dn1 iz tz nx st tk vl ef ep hO hB ol rm oz NF E0 E1 E2 E3 E4 E5 E6 y x w hN hv (by omega) hx) rfl rfl 0 rfl rfl (cwV 3 S.2.2.2.2 gX9_leastSlant_X9_follow rfl rfl rfl (by decide +kernel) ⟨Nat.le_of_ble_eq_true rfl, Nat.le_of_ble_eq_true rfl⟩) rfl hl.1 rfl (Nat.le_of_ble_eq_true rfl) dX9_leastSlant_37 ⟨Nat.le_of_ble_eq_true rfl, Nat.le_of_ble_eq_true rfl⟩ (fun _ => Nat.le_of_ble_eq_true rfl) (fun _ => rfl) (fun u H locs hp hG => ?_)
          obtain ⟨lg2_37, mr2_37, en2_37, pw2_37, sl2_37, ly2_37, dn2_37, B0_37, B1_37, B2_37, B3_37, B4_37, B5_37, B6_37⟩ := u
          have hf_37 := hp
          have hf_37 : FolR NF w y x lg2_37 mr2_37 en2_37 pw2_37 B0_37 B1_37 B2_37 B3_37 B4_37 B5_37 B6_37 := hf_37
          have hG : gW K A s.heap [gMdl K am (thr (bI (0 ≤ y ∧ y < NF 0)) (bI (0 ≤ z ∧ z ≤ 3)) 1) rw lg2_37 mr2_37 en2_37 pw2_37 sl2_37 ly2_37 dn2_37 iz tz nx st tk vl ef ep hO hB ol rm oz, gArr K 95 rw NF, gArr K 60 (am 3) B0_37, gArrZ K 60 (am 4) B1_37, gArr K 60 (am 5) B2_37, gArr K 60 (am 6) B3_37, gArr K 60 (am 7) B4_37, gArr K 60 (am 8) B5_37, gArr K 60 (am 9) B6_37] _ _ := hG
          have fb := hf_37.bd hN hw.1 hx
          have f3 := hf_37.2.2.1
          have sb9 := shF_bd hN hw.1 hx (y := y)
          refine lv_aload_n S.1 S.2.1 dX9_leastSlant_40 rfl (lv_at hl 0 rfl) ?_
          refine g_get S C hG iX90 0 rfl rfl 13 (by decide) (List.mem_of_getElem? (i := 1) rfl) rfl dX9_leastSlant_41 ?_
          refine lv_iload_n S.1 S.2.1 dX9_leastSlant_44 rfl (lv_at hl 3 rfl) ?_
          refine g_icmp_ne (tgt := 51) S dX9_leastSlant_45 (by decide) (by omega) (by omega) (fun q45 => ?_) (fun q45 => ?_)
          · skip
            refine lv_iinc (v := iI (w + 1)) (lv' := [(4, .int (iI (w + 1))), (0, .ref (am 0)), (1, .int (iI y)), (2, .int (iI x)), (3, .int (iI z))]) S.1 S.2.1 dX9_leastSlant_51 hl (k := 4) rfl (g_iinc rfl) (by decide) rfl (fun ls hl => ?_)
            refine lv_goto (tgt := 21) S.1 S.2.1 dX9_leastSlant_54 (by decide) ?_
            exact ih (w + 1) lg2_37 mr2_37 en2_37 pw2_37 sl2_37 ly2_37 dn2_37 B0_37 B1_37 B2_37 B3_37 B4_37 B5_37 B6_37 _ _ _ (by omega) (by omega) (fun p a b => if g : p < w then ho p a g else by rw [show p = w by omega, ← f3] <;> exact q45) (lv_sub hl [1, 2, 3, 4, 0] rfl) hG
          · skip
            refine lv_iload S.1 S.2.1 dX9_leastSlant_48 (lv_at hl 4 rfl) ?_
            have hG : gW K A s.heap [gMdl K am (thr (bI (0 ≤ y ∧ y < NF 0)) (bI (0 ≤ z ∧ z ≤ 3)) 1) rw lg2_37 mr2_37 en2_37 pw2_37 sl2_37 ly2_37 dn2_37 iz tz nx st tk vl ef ep hO hB ol rm oz, gArr K 95 rw NF, gArr K 60 (am 3) B0_37, gArrZ K 60 (am 4) B1_37, gArr K 60 (am 5) B2_37, gArr K 60 (am 6) B3_37, gArr K 60 (am 7) B4_37, gArr K 60 (am 8) B5_37, gArr K 60 (am 9) B6_37] _ _ := hG
            exact g_iret S hr hlk hQ dX9_leastSlant_50 (Nat.le_of_ble_eq_true rfl) (Nat.le_of_ble_eq_true rfl) ((w, lg2_37, mr2_37, en2_37, pw2_37, sl2_37, ly2_37, dn2_37, B0_37, B1_37, B2_37, B3_37, B4_37, B5_37, B6_37) : Int × Int × Int × Int × Int × Int × Int × Int × (Int → Int) × (Int → Int) × (Int → Int) × (Int → Int) × (Int → Int) × (Int → Int) × (Int → Int)) ⟨rfl, (fun _ => Or.inr ⟨by omega, by rw [← f3] <;> omega, ho⟩)⟩ hG
    exact L21 (Nat.succ ((nX NF y - 0).toNat)) 0 lg mr en pw sl ly dn A0 A1 A2 A3 A4 A5 A6 _ _ _ (Nat.lt_succ_self _) ⟨by omega, by omega⟩ (fun p a b => by omega) (lv_sub hl [1, 2, 3, 4, 0] rfl) hG
  · skip
    refine g_iconst S dX9_leastSlant_16 ?_
    have hG : gW K A s.heap [gMdl K am (thr (bI (0 ≤ y ∧ y < NF 0)) (bI (0 ≤ z ∧ z ≤ 3)) 1) rw lg mr en pw sl ly dn iz tz nx st tk vl ef ep hO hB ol rm oz, gArr K 95 rw NF, gArr K 60 (am 3) A0, gArrZ K 60 (am 4) A1, gArr K 60 (am 5) A2, gArr K 60 (am 6) A3, gArr K 60 (am 7) A4, gArr K 60 (am 8) A5, gArr K 60 (am 9) A6] _ _ := hG
    exact g_iret S hr hlk hQ dX9_leastSlant_17 (Nat.le_of_ble_eq_true rfl) (Nat.le_of_ble_eq_true rfl) ((0, lg, mr, en, pw, sl, ly, dn, A0, A1, A2, A3, A4, A5, A6) : Int × Int × Int × Int × Int × Int × Int × Int × (Int → Int) × (Int → Int) × (Int → Int) × (Int → Int) × (Int → Int) × (Int → Int) × (Int → Int)) ⟨rfl, (fun h => absurd ⟨bI_t h.1, bI_t h.2⟩ q13)⟩ hG

set_option maxHeartbeats 1000000 in
set_option maxRecDepth 100000 in
theorem c_X9_slantFor (l : Launch) (K : KC) (am : Nat → Nat) (th : Int) (rw : Nat) (lg : Int) (mr : Int) (en : Int) (pw : Int) (sl : Int) (ly : Int) (dn : Int) (iz : Int) (tz : Int) (nx : Int) (st : Int) (tk : Int) (vl : Int) (ef : Int) (ep : Int) (hO : Int) (hB : Int) (ol : Int) (rm : Int) (oz : Int) (NF : Int → Int) (A0 : Int → Int) (A1 : Int → Int) (A2 : Int → Int) (A3 : Int → Int) (A4 : Int → Int) (A5 : Int → Int) (A6 : Int → Int) (y : Int) (x : Int) (z : Int) (hN : NOk0 NF) (hv : -2147483648 ≤ y ∧ y < 2147483648) (hx : x = 0 ∨ x = 1) (hz : -2147483648 ≤ z ∧ z < 2147483648) : mG l yX9_slantFor wsX9_slantFor 5 114 K [.ref (am 0), .int (iI y), .int (iI x), .int (iI z)] [gMdl K am th rw lg mr en pw sl ly dn iz tz nx st tk vl ef ep hO hB ol rm oz, gArr K 95 rw NF, gArr K 60 (am 3) A0, gArrZ K 60 (am 4) A1, gArr K 60 (am 5) A2, gArr K 60 (am 6) A3, gArr K 60 (am 7) A4, gArr K 60 (am 8) A5, gArr K 60 (am 9) A6] (fun (v : Value) (u : Int × Int × Int × Int × Int × Int × Int × Int × (Int → Int) × (Int → Int) × (Int → Int) × (Int → Int) × (Int → Int) × (Int → Int) × (Int → Int)) => (v = .int (iI u.1)) ∧ ((0 ≤ y ∧ y < NF 0) ∧ (0 ≤ z) → ∃ vw, BestI NF y x 0 (nsG NF y x z) True (nX NF y) u.1 vw)) (fun (u : Int × Int × Int × Int × Int × Int × Int × Int × (Int → Int) × (Int → Int) × (Int → Int) × (Int → Int) × (Int → Int) × (Int → Int) × (Int → Int)) => [gMdl K am (thr (bI (0 ≤ y ∧ y < NF 0)) (bI (0 ≤ z)) 1) rw u.2.1 u.2.2.1 u.2.2.2.1 u.2.2.2.2.1 u.2.2.2.2.2.1 u.2.2.2.2.2.2.1 u.2.2.2.2.2.2.2.1 iz tz nx st tk vl ef ep hO hB ol rm oz, gArr K 95 rw NF, gArr K 60 (am 3) u.2.2.2.2.2.2.2.2.1, gArrZ K 60 (am 4) u.2.2.2.2.2.2.2.2.2.1, gArr K 60 (am 5) u.2.2.2.2.2.2.2.2.2.2.1, gArr K 60 (am 6) u.2.2.2.2.2.2.2.2.2.2.2.1, gArr K 60 (am 7) u.2.2.2.2.2.2.2.2.2.2.2.2.1, gArr K 60 (am 8) u.2.2.2.2.2.2.2.2.2.2.2.2.2.1, gArr K 60 (am 9) u.2.2.2.2.2.2.2.2.2.2.2.2.2.2]) 0 0 := by
  refine mG_of cX9_slantFor 8 (by decide) rfl (Nat.le_of_ble_eq_true rfl) ?_
  intro p e s m below meth c A ls Q S C hG hl hr hlk hin hQ
  have S : CallFix p m c cX9_slantFor 8 s ([.ref (am 0), .int (iI y), .int (iI x), .int (iI z)] : List Value).toArray wsX9_slantFor RX9 := S
  have iX90 : ∀ w ∈ wsX90, w ∈ wsX9_slantFor := fun _ h => List.mem_cons_of_mem _ (List.mem_append_right _ (h))
  have hl : lv_has ls 8 [(0, .ref (am 0)), (1, .int (iI y)), (2, .int (iI x)), (3, .int (iI z))] := hl
  have hG : gW K A s.heap [gMdl K am th rw lg mr en pw sl ly dn iz tz nx st tk vl ef ep hO hB ol rm oz, gArr K 95 rw NF, gArr K 60 (am 3) A0, gArrZ K 60 (am 4) A1, gArr K 60 (am 5) A2, gArr K 60 (am 6) A3, gArr K 60 (am 7) A4, gArr K 60 (am 8) A5, gArr K 60 (am 9) A6] s.heap [] := hG
  have n0 := hN.1
  have n3 := hN.2.2.2.1
  refine lv_aload_n S.1 S.2.1 dX9_slantFor_0 rfl (lv_at hl 0 rfl) ?_
  refine lv_aload_n S.1 S.2.1 dX9_slantFor_1 rfl (lv_at hl 0 rfl) ?_
  refine lv_iload_n S.1 S.2.1 dX9_slantFor_2 rfl (lv_at hl 1 rfl) ?_
  refine g_invV (As := [.int (iI y)]) (rest := [.ref (am 0)]) (gs' := (fun u : Unit => [gMdl K am th rw lg mr en pw sl ly dn iz tz nx st tk vl ef ep hO hB ol rm oz, gArr K 95 rw NF, gArr K 60 (am 3) A0, gArrZ K 60 (am 4) A1, gArr K 60 (am 5) A2, gArr K 60 (am 6) A3, gArr K 60 (am 7) A4, gArr K 60 (am 8) A5, gArr K 60 (am 9) A6])) S C hG [0, 1] (c_X9_isLayer l K am th rw lg mr en pw sl ly dn iz tz nx st tk vl ef ep hO hB ol rm oz NF y hN hv) rfl rfl 0 rfl rfl (cwV 1 S.2.2.2.2 gX9_slantFor_X9_isLayer rfl rfl rfl (by decide +kernel) ⟨Nat.le_of_ble_eq_true rfl, Nat.le_of_ble_eq_true rfl⟩) rfl hl.1 rfl (Nat.le_of_ble_eq_true rfl) dX9_slantFor_3 ⟨Nat.le_of_ble_eq_true rfl, Nat.le_of_ble_eq_true rfl⟩ (fun _ => Nat.le_of_ble_eq_true rfl) (fun _ => rfl) (fun v u H locs hp hG => ?_)
  subst hp
  refine lv_iload_n S.1 S.2.1 dX9_slantFor_6 rfl (lv_at hl 3 rfl) ?_
  refine g_if_lt (tgt := 14) S dX9_slantFor_7 (by decide) (by omega) (fun q7 => ?_) (fun q7 => ?_)
  · skip
    refine g_iconst S dX9_slantFor_14 ?_
    refine g_top (w := .int (iI (bI (0 ≤ z)))) (congrArg (fun z : Int => Value.int (iI z)) ((bI_f (by omega)).symm)) ?_
    refine g_invV (As := [.int (iI (bI (0 ≤ y ∧ y < NF 0))), .int (iI (bI (0 ≤ z)))]) (rest := []) (gs' := (fun u : Unit => [gMdl K am (thr (bI (0 ≤ y ∧ y < NF 0)) (bI (0 ≤ z)) 1) rw lg mr en pw sl ly dn iz tz nx st tk vl ef ep hO hB ol rm oz, gArr K 95 rw NF, gArr K 60 (am 3) A0, gArrZ K 60 (am 4) A1, gArr K 60 (am 5) A2, gArr K 60 (am 6) A3, gArr K 60 (am 7) A4, gArr K 60 (am 8) A5, gArr K 60 (am 9) A6])) S C hG [0] (c_X9_passes2 l K am th rw lg mr en pw sl ly dn iz tz nx st tk vl ef ep hO hB ol rm oz (bI (0 ≤ y ∧ y < NF 0)) (bI (0 ≤ z)) (bI_01 _) (bI_01 _)) rfl rfl 0 rfl rfl (cwV 2 S.2.2.2.2 gX9_slantFor_X9_passes2 rfl rfl rfl (by decide +kernel) ⟨Nat.le_of_ble_eq_true rfl, Nat.le_of_ble_eq_true rfl⟩) rfl hl.1 rfl (Nat.le_of_ble_eq_true rfl) dX9_slantFor_15 ⟨Nat.le_of_ble_eq_true rfl, Nat.le_of_ble_eq_true rfl⟩ (fun _ => Nat.le_of_ble_eq_true rfl) (fun _ => rfl) (fun v u H locs hp hG => ?_)
    subst hp
    refine g_ifne_b (B := ((bI (0 ≤ y ∧ y < NF 0)) = 1 ∧ (bI (0 ≤ z)) = 1)) (tgt := 23) S dX9_slantFor_18 (by decide) (fun q18 => ?_) (fun q18 => ?_)
    · skip
      have qa := bI1 q18.1
      have qb := bI1 q18.2
      have lb9 := (lay_bd hN qa.1 qa.2).1
      refine g_iconst S dX9_slantFor_23 ?_
      refine lv_istore (lv' := [(4, .int (iI (-1))), (0, .ref (am 0)), (1, .int (iI y)), (2, .int (iI x)), (3, .int (iI z))]) S.1 S.2.1 dX9_slantFor_24 hl (by decide) rfl (fun ls hl => ?_)
      refine lv_ldcw (v := iI 2147483647) S.1 S.2.1 S.2.2.2.1 (S.2.2.2.2 _ (List.mem_of_getElem? (i := 1) rfl)) dX9_slantFor_26 ?_
      refine lv_istore (lv' := [(5, .int (iI 2147483647)), (4, .int (iI (-1))), (0, .ref (am 0)), (1, .int (iI y)), (2, .int (iI x)), (3, .int (iI z))]) S.1 S.2.1 dX9_slantFor_29 hl (by decide) rfl (fun ls hl => ?_)
      refine g_iconst S dX9_slantFor_31 ?_
      refine lv_istore (lv' := [(6, .int (iI 0)), (5, .int (iI 2147483647)), (4, .int (iI (-1))), (0, .ref (am 0)), (1, .int (iI y)), (2, .int (iI x)), (3, .int (iI z))]) S.1 S.2.1 dX9_slantFor_32 hl (by decide) rfl (fun ls hl => ?_)
      have L34 : ∀ (fu : Nat) (w : Int) (bb : Int) (mm : Int) (vv : Int) (lg1 : Int) (mr1 : Int) (en1 : Int) (pw1 : Int) (sl1 : Int) (ly1 : Int) (dn1 : Int) (E0 : Int → Int) (E1 : Int → Int) (E2 : Int → Int) (E3 : Int → Int) (E4 : Int → Int) (E5 : Int → Int) (E6 : Int → Int) (H : Heap) (locs : List Loc) (ls : Array Slot), ((nX NF y - w).toNat) < fu → (0 ≤ w ∧ w ≤ nX NF y) → (BestI NF y x 0 (nsG NF y x z) True w bb vv) → (0 ≤ mm ∧ mm ≤ 2147483647 ∧ -1 ≤ bb ∧ bb ≤ 4000 ∧ (bb = -1 ∨ mm = -vv)) → lv_has ls 8 [(0, .ref (am 0)), (1, .int (iI y)), (2, .int (iI x)), (3, .int (iI z)), (4, .int (iI bb)), (5, .int (iI mm)), (6, .int (iI w))] → gW K A s.heap [gMdl K am (thr (bI (0 ≤ y ∧ y < NF 0)) (bI (0 ≤ z)) 1) rw lg1 mr1 en1 pw1 sl1 ly1 dn1 iz tz nx st tk vl ef ep hO hB ol rm oz, gArr K 95 rw NF, gArr K 60 (am 3) E0, gArrZ K 60 (am 4) E1, gArr K 60 (am 5) E2, gArr K 60 (am 6) E3, gArr K 60 (am 7) E4, gArr K 60 (am 8) E5, gArr K 60 (am 9) E6] H locs → W p l e { frames := 5, cells := 0, slots := 0, locals := 114 } s m ([.ref (am 0), .int (iI y), .int (iI x), .int (iI z)] : List Value).toArray below meth c H locs 0 0 Q (F0 m 34 ls []) := by
        intro fu
        induction fu with
        | zero => intro w bb mm vv lg1 mr1 en1 pw1 sl1 ly1 dn1 E0 E1 E2 E3 E4 E5 E6 H locs ls hfu; exact absurd hfu (Nat.not_lt_zero _)
        | succ fu ih =>
          intro w bb mm vv lg1 mr1 en1 pw1 sl1 ly1 dn1 E0 E1 E2 E3 E4 E5 E6 H locs ls hfu hw hBe hm hl hG
          refine lv_iload S.1 S.2.1 dX9_slantFor_34 (lv_at hl 6 rfl) ?_
          refine lv_aload_n S.1 S.2.1 dX9_slantFor_36 rfl (lv_at hl 0 rfl) ?_
          refine lv_iload_n S.1 S.2.1 dX9_slantFor_37 rfl (lv_at hl 1 rfl) ?_
          refine g_iconst S dX9_slantFor_38 ?_
          refine g_invV (As := [.int (iI y), .int (iI 0)]) (rest := [.int (iI w)]) (gs' := (fun u : Unit => [gMdl K am (thr (bI (0 ≤ y ∧ y < NF 0)) (bI (0 ≤ z)) 1) rw lg1 mr1 en1 pw1 sl1 ly1 dn1 iz tz nx st tk vl ef ep hO hB ol rm oz, gArr K 95 rw NF, gArr K 60 (am 3) E0, gArrZ K 60 (am 4) E1, gArr K 60 (am 5) E2, gArr K 60 (am 6) E3, gArr K 60 (am 7) E4, gArr K 60 (am 8) E5, gArr K 60 (am 9) E6])) S C hG [0, 1] (c_X9_ofLayer l K am (thr (bI (0 ≤ y ∧ y < NF 0)) (bI (0 ≤ z)) 1) rw lg1 mr1 en1 pw1 sl1 ly1 dn1 iz tz nx st tk vl ef ep hO hB ol rm oz NF y 0 (by omega) (by decide)) rfl rfl 0 rfl rfl (cwV 2 S.2.2.2.2 gX9_slantFor_X9_ofLayer rfl rfl rfl (by decide +kernel) ⟨Nat.le_of_ble_eq_true rfl, Nat.le_of_ble_eq_true rfl⟩) rfl hl.1 rfl (Nat.le_of_ble_eq_true rfl) dX9_slantFor_39 ⟨Nat.le_of_ble_eq_true rfl, Nat.le_of_ble_eq_true rfl⟩ (fun _ => Nat.le_of_ble_eq_true rfl) (fun _ => rfl) (fun v u H locs hp hG => ?_)
          subst hp
          refine g_top (w := .int (iI (nX NF y))) (congrArg (fun z : Int => Value.int (iI z)) (rfl)) ?_
          refine g_icmp_ge (tgt := 105) S dX9_slantFor_42 (by decide) (by omega) (by omega) (fun q42 => ?_) (fun q42 => ?_)
          · skip
            refine lv_iload S.1 S.2.1 dX9_slantFor_105 (lv_at hl 4 rfl) ?_
            have hG : gW K A s.heap [gMdl K am (thr (bI (0 ≤ y ∧ y < NF 0)) (bI (0 ≤ z)) 1) rw lg1 mr1 en1 pw1 sl1 ly1 dn1 iz tz nx st tk vl ef ep hO hB ol rm oz, gArr K 95 rw NF, gArr K 60 (am 3) E0, gArrZ K 60 (am 4) E1, gArr K 60 (am 5) E2, gArr K 60 (am 6) E3, gArr K 60 (am 7) E4, gArr K 60 (am 8) E5, gArr K 60 (am 9) E6] _ _ := hG
            exact g_iret S hr hlk hQ dX9_slantFor_107 (Nat.le_of_ble_eq_true rfl) (Nat.le_of_ble_eq_true rfl) ((bb, lg1, mr1, en1, pw1, sl1, ly1, dn1, E0, E1, E2, E3, E4, E5, E6) : Int × Int × Int × Int × Int × Int × Int × Int × (Int → Int) × (Int → Int) × (Int → Int) × (Int → Int) × (Int → Int) × (Int → Int) × (Int → Int)) ⟨rfl, (fun _ => ⟨vv, (show w = nX NF y by omega) ▸ hBe⟩)⟩ hG
          · skip
            refine lv_aload_n S.1 S.2.1 dX9_slantFor_45 rfl (lv_at hl 0 rfl) ?_
            refine lv_iload_n S.1 S.2.1 dX9_slantFor_46 rfl (lv_at hl 1 rfl) ?_
            refine lv_iload_n S.1 S.2.1 dX9_slantFor_47 rfl (lv_at hl 2 rfl) ?_
            refine lv_iload S.1 S.2.1 dX9_slantFor_48 (lv_at hl 6 rfl) ?_
            refine g_invVv (As := [.int (iI y), .int (iI x), .int (iI w)]) (rest := []) (gs' := (fun u : Int × Int × Int × Int × Int × Int × Int × (Int → Int) × (Int → Int) × (Int → Int) × (Int → Int) × (Int → Int) × (Int → Int) × (Int → Int) => [gMdl K am (thr (bI (0 ≤ y ∧ y < NF 0)) (bI (0 ≤ z)) 1) rw u.1 u.2.1 u.2.2.1 u.2.2.2.1 u.2.2.2.2.1 u.2.2.2.2.2.1 u.2.2.2.2.2.2.1 iz tz nx st tk vl ef ep hO hB ol rm oz, gArr K 95 rw NF, gArr K 60 (am 3) u.2.2.2.2.2.2.2.1, gArrZ K 60 (am 4) u.2.2.2.2.2.2.2.2.1, gArr K 60 (am 5) u.2.2.2.2.2.2.2.2.2.1, gArr K 60 (am 6) u.2.2.2.2.2.2.2.2.2.2.1, gArr K 60 (am 7) u.2.2.2.2.2.2.2.2.2.2.2.1, gArr K 60 (am 8) u.2.2.2.2.2.2.2.2.2.2.2.2.1, gArr K 60 (am 9) u.2.2.2.2.2.2.2.2.2.2.2.2.2])) S C hG [0, 1, 2, 3, 4, 5, 6, 7, 8] (c_X9_follow l K am (thr (bI (0 ≤ y ∧ y < NF 0)) (bI (0 ≤ z)) 1) rw lg1 mr1 en1 pw1 sl1 ly1 dn1 iz tz nx st tk vl ef ep hO hB ol rm oz NF E0 E1 E2 E3 E4 E5 E6 y x w hN hv (by omega) hx) rfl rfl 0 rfl rfl (cwV 3 S.2.2.2.2 gX9_slantFor_X9_follow rfl rfl rfl (by decide +kernel) ⟨Nat.le_of_ble_eq_true rfl, Nat.le_of_ble_eq_true rfl⟩) rfl hl.1 rfl (Nat.le_of_ble_eq_true rfl) dX9_slantFor_50 ⟨Nat.le_of_ble_eq_true rfl, Nat.le_of_ble_eq_true rfl⟩ (fun _ => Nat.le_of_ble_eq_true rfl) (fun _ => rfl) (fun u H locs hp hG => ?_)
            obtain ⟨lg2_50, mr2_50, en2_50, pw2_50, sl2_50, ly2_50, dn2_50, B0_50, B1_50, B2_50, B3_50, B4_50, B5_50, B6_50⟩ := u
            have hf_50 := hp
            have hf_50 : FolR NF w y x lg2_50 mr2_50 en2_50 pw2_50 B0_50 B1_50 B2_50 B3_50 B4_50 B5_50 B6_50 := hf_50
            have hG : gW K A s.heap [gMdl K am (thr (bI (0 ≤ y ∧ y < NF 0)) (bI (0 ≤ z)) 1) rw lg2_50 mr2_50 en2_50 pw2_50 sl2_50 ly2_50 dn2_50 iz tz nx st tk vl ef ep hO hB ol rm oz, gArr K 95 rw NF, gArr K 60 (am 3) B0_50, gArrZ K 60 (am 4) B1_50, gArr K 60 (am 5) B2_50, gArr K 60 (am 6) B3_50, gArr K 60 (am 7) B4_50, gArr K 60 (am 8) B5_50, gArr K 60 (am 9) B6_50] _ _ := hG
            have fb := hf_50.bd hN hw.1 hx
            have f3 := hf_50.2.2.1
            have sb9 := shF_bd hN hw.1 hx (y := y)
            refine lv_aload_n S.1 S.2.1 dX9_slantFor_53 rfl (lv_at hl 0 rfl) ?_
            refine g_get S C hG iX90 0 rfl rfl 6 (by decide) (List.mem_of_getElem? (i := 2) rfl) rfl dX9_slantFor_54 ?_
            refine lv_aload_n S.1 S.2.1 dX9_slantFor_57 rfl (lv_at hl 0 rfl) ?_
            refine g_get S C hG iX90 0 rfl rfl 11 (by decide) (List.mem_of_getElem? (i := 3) rfl) rfl dX9_slantFor_58 ?_
            refine g_invS (As := [.ref (am 5), .int (iI lg2_50)]) (rest := []) (gs' := (fun u : Unit => [gMdl K am (thr (bI (0 ≤ y ∧ y < NF 0)) (bI (0 ≤ z)) 1) rw lg2_50 mr2_50 en2_50 pw2_50 sl2_50 ly2_50 dn2_50 iz tz nx st tk vl ef ep hO hB ol rm oz, gArr K 95 rw NF, gArr K 60 (am 3) B0_50, gArrZ K 60 (am 4) B1_50, gArr K 60 (am 5) B2_50, gArr K 60 (am 6) B3_50, gArr K 60 (am 7) B4_50, gArr K 60 (am 8) B5_50, gArr K 60 (am 9) B6_50])) S C hG [4] (c_X9_sumUp l K (am 5) B2_50 lg2_50 fb.1) rfl rfl (va_cwS 2 S.2.2.2.2 gX9_slantFor_X9_sumUp rfl rfl rfl (by decide +kernel) ⟨Nat.le_of_ble_eq_true rfl, Nat.le_of_ble_eq_true rfl⟩) rfl hl.1 rfl (Nat.le_of_ble_eq_true rfl) dX9_slantFor_61 ⟨Nat.le_of_ble_eq_true rfl, Nat.le_of_ble_eq_true rfl⟩ (fun _ => Nat.le_of_ble_eq_true rfl) (fun _ => rfl) (fun v u H locs hp hG => ?_)
            subst hp
            refine g_top (w := .int (iI (shF NF w y x))) (congrArg (fun z : Int => Value.int (iI z)) (hf_50.s2)) ?_
            refine lv_iload_n S.1 S.2.1 dX9_slantFor_64 rfl (lv_at hl 3 rfl) ?_
            refine g_isub S dX9_slantFor_65 rfl ?_
            refine va_mabs S.1 S.2.1 (by rw [S.2.2.1]; exact hl.1.symm) S.2.2.2.1 (S.2.2.2.2 _ (List.mem_of_getElem? (i := 4) rfl)) (S.2.2.2.2 _ (List.mem_of_getElem? (i := 5) rfl)) (S.2.2.2.2 _ (List.mem_of_getElem? (i := 6) rfl)) (S.2.2.2.2 _ (List.mem_of_getElem? (i := 7) rfl)) (Nat.le_of_ble_eq_true rfl) (Nat.le_of_ble_eq_true rfl) (Nat.le_of_ble_eq_true rfl) (Nat.le_of_ble_eq_true rfl) dX9_slantFor_66 ?_
            refine g_top (w := .int (iI (iabs ((shF NF w y x) - z)))) (iabs_eq (by omega)) ?_
            have ia9 := iabs_bd (shF NF w y x - z)
            refine lv_istore (lv' := [(7, .int (iI (iabs ((shF NF w y x) - z)))), (0, .ref (am 0)), (1, .int (iI y)), (2, .int (iI x)), (3, .int (iI z)), (4, .int (iI bb)), (5, .int (iI mm)), (6, .int (iI w))]) S.1 S.2.1 dX9_slantFor_69 hl (by decide) rfl (fun ls hl => ?_)
            refine lv_aload_n S.1 S.2.1 dX9_slantFor_71 rfl (lv_at hl 1 rfl) ?_
            refine g_get S C hG iX90 0 rfl rfl 13 (by decide) (List.mem_of_getElem? (i := 8) rfl) rfl dX9_slantFor_72 ?_
            refine g_if_ne (tgt := 99) S dX9_slantFor_75 (by decide) (by omega) (fun q75 => ?_) (fun q75 => ?_)
            · skip
              refine lv_iinc (v := iI (w + 1)) (lv' := [(6, .int (iI (w + 1))), (7, .int (iI (iabs ((shF NF w y x) - z)))), (0, .ref (am 0)), (1, .int (iI y)), (2, .int (iI x)), (3, .int (iI z)), (4, .int (iI bb)), (5, .int (iI mm))]) S.1 S.2.1 dX9_slantFor_99 hl (k := 7) rfl (g_iinc rfl) (by decide) rfl (fun ls hl => ?_)
              refine lv_goto (tgt := 34) S.1 S.2.1 dX9_slantFor_102 (by decide) ?_
              exact ih (w + 1) bb mm vv lg2_50 mr2_50 en2_50 pw2_50 sl2_50 ly2_50 dn2_50 B0_50 B1_50 B2_50 B3_50 B4_50 B5_50 B6_50 _ _ _ (by omega) (by omega) (hBe.pass (by rw [← f3] <;> exact q75)) hm (lv_sub hl [2, 3, 4, 5, 6, 7, 0] rfl) hG
            · skip
              refine lv_iload S.1 S.2.1 dX9_slantFor_78 (lv_at hl 5 rfl) ?_
              refine g_iconst S dX9_slantFor_80 ?_
              refine g_icmp_eq (tgt := 91) S dX9_slantFor_81 (by decide) (by omega) (by omega) (fun q81 => ?_) (fun q81 => ?_)
              · skip
                refine lv_iload S.1 S.2.1 dX9_slantFor_91 (lv_at hl 7 rfl) ?_
                refine lv_istore (lv' := [(4, .int (iI w)), (7, .int (iI (iabs ((shF NF w y x) - z)))), (0, .ref (am 0)), (1, .int (iI y)), (2, .int (iI x)), (3, .int (iI z)), (5, .int (iI mm)), (6, .int (iI w))]) S.1 S.2.1 dX9_slantFor_93 hl (by decide) rfl (fun ls hl => ?_)
                refine lv_iload S.1 S.2.1 dX9_slantFor_95 (lv_at hl 1 rfl) ?_
                refine lv_istore (lv' := [(5, .int (iI (iabs ((shF NF w y x) - z)))), (4, .int (iI w)), (7, .int (iI (iabs ((shF NF w y x) - z)))), (0, .ref (am 0)), (1, .int (iI y)), (2, .int (iI x)), (3, .int (iI z)), (6, .int (iI w))]) S.1 S.2.1 dX9_slantFor_97 hl (by decide) rfl (fun ls hl => ?_)
                refine lv_iinc (v := iI (w + 1)) (lv' := [(6, .int (iI (w + 1))), (5, .int (iI (iabs ((shF NF w y x) - z)))), (4, .int (iI w)), (7, .int (iI (iabs ((shF NF w y x) - z)))), (0, .ref (am 0)), (1, .int (iI y)), (2, .int (iI x)), (3, .int (iI z))]) S.1 S.2.1 dX9_slantFor_99 hl (k := 7) rfl (g_iinc rfl) (by decide) rfl (fun ls hl => ?_)
                refine lv_goto (tgt := 34) S.1 S.2.1 dX9_slantFor_102 (by decide) ?_
                exact ih (w + 1) w (iabs ((shF NF w y x) - z)) (-(iabs (shF NF w y x - z))) lg2_50 mr2_50 en2_50 pw2_50 sl2_50 ly2_50 dn2_50 B0_50 B1_50 B2_50 B3_50 B4_50 B5_50 B6_50 _ _ _ (by omega) (by omega) (hBe.tk1 hw.1 (by rw [← f3] <;> omega) (Or.inl (by omega))) (by omega) (lv_sub hl [4, 5, 6, 7, 2, 1, 0] rfl) hG
              · skip
                refine lv_iload S.1 S.2.1 dX9_slantFor_84 (lv_at hl 0 rfl) ?_
                refine lv_iload S.1 S.2.1 dX9_slantFor_86 (lv_at hl 6 rfl) ?_
                refine g_icmp_ge (tgt := 99) S dX9_slantFor_88 (by decide) (by omega) (by omega) (fun q88 => ?_) (fun q88 => ?_)
                · skip
                  refine lv_iinc (v := iI (w + 1)) (lv' := [(6, .int (iI (w + 1))), (7, .int (iI (iabs ((shF NF w y x) - z)))), (0, .ref (am 0)), (1, .int (iI y)), (2, .int (iI x)), (3, .int (iI z)), (4, .int (iI bb)), (5, .int (iI mm))]) S.1 S.2.1 dX9_slantFor_99 hl (k := 7) rfl (g_iinc rfl) (by decide) rfl (fun ls hl => ?_)
                  refine lv_goto (tgt := 34) S.1 S.2.1 dX9_slantFor_102 (by decide) ?_
                  exact ih (w + 1) bb mm vv lg2_50 mr2_50 en2_50 pw2_50 sl2_50 ly2_50 dn2_50 B0_50 B1_50 B2_50 B3_50 B4_50 B5_50 B6_50 _ _ _ (by omega) (by omega) (hBe.stay q81 (by show ¬ vv < -(iabs (shF NF w y x - z)) <;> omega)) hm (lv_sub hl [2, 3, 4, 5, 6, 7, 0] rfl) hG
                · skip
                  refine lv_iload S.1 S.2.1 dX9_slantFor_91 (lv_at hl 7 rfl) ?_
                  refine lv_istore (lv' := [(4, .int (iI w)), (7, .int (iI (iabs ((shF NF w y x) - z)))), (0, .ref (am 0)), (1, .int (iI y)), (2, .int (iI x)), (3, .int (iI z)), (5, .int (iI mm)), (6, .int (iI w))]) S.1 S.2.1 dX9_slantFor_93 hl (by decide) rfl (fun ls hl => ?_)
                  refine lv_iload S.1 S.2.1 dX9_slantFor_95 (lv_at hl 1 rfl) ?_
                  refine lv_istore (lv' := [(5, .int (iI (iabs ((shF NF w y x) - z)))), (4, .int (iI w)), (7, .int (iI (iabs ((shF NF w y x) - z)))), (0, .ref (am 0)), (1, .int (iI y)), (2, .int (iI x)), (3, .int (iI z)), (6, .int (iI w))]) S.1 S.2.1 dX9_slantFor_97 hl (by decide) rfl (fun ls hl => ?_)
                  refine lv_iinc (v := iI (w + 1)) (lv' := [(6, .int (iI (w + 1))), (5, .int (iI (iabs ((shF NF w y x) - z)))), (4, .int (iI w)), (7, .int (iI (iabs ((shF NF w y x) - z)))), (0, .ref (am 0)), (1, .int (iI y)), (2, .int (iI x)), (3, .int (iI z))]) S.1 S.2.1 dX9_slantFor_99 hl (k := 7) rfl (g_iinc rfl) (by decide) rfl (fun ls hl => ?_)
                  refine lv_goto (tgt := 34) S.1 S.2.1 dX9_slantFor_102 (by decide) ?_
                  exact ih (w + 1) w (iabs ((shF NF w y x) - z)) (-(iabs (shF NF w y x - z))) lg2_50 mr2_50 en2_50 pw2_50 sl2_50 ly2_50 dn2_50 B0_50 B1_50 B2_50 B3_50 B4_50 B5_50 B6_50 _ _ _ (by omega) (by omega) (hBe.tk1 hw.1 (by rw [← f3] <;> omega) (Or.inr (by show vv < -(iabs (shF NF w y x - z)) <;> omega))) (by omega) (lv_sub hl [4, 5, 6, 7, 2, 1, 0] rfl) hG
      exact L34 (Nat.succ ((nX NF y - 0).toNat)) 0 (-1) 2147483647 0 lg mr en pw sl ly dn A0 A1 A2 A3 A4 A5 A6 _ _ _ (Nat.lt_succ_self _) ⟨by omega, by omega⟩ (Or.inl ⟨rfl, fun p a b => by omega⟩) (by omega) (lv_sub hl [3, 4, 5, 6, 2, 1, 0] rfl) hG
    · skip
      refine g_iconst S dX9_slantFor_21 ?_
      have hG : gW K A s.heap [gMdl K am (thr (bI (0 ≤ y ∧ y < NF 0)) (bI (0 ≤ z)) 1) rw lg mr en pw sl ly dn iz tz nx st tk vl ef ep hO hB ol rm oz, gArr K 95 rw NF, gArr K 60 (am 3) A0, gArrZ K 60 (am 4) A1, gArr K 60 (am 5) A2, gArr K 60 (am 6) A3, gArr K 60 (am 7) A4, gArr K 60 (am 8) A5, gArr K 60 (am 9) A6] _ _ := hG
      exact g_iret S hr hlk hQ dX9_slantFor_22 (Nat.le_of_ble_eq_true rfl) (Nat.le_of_ble_eq_true rfl) ((0, lg, mr, en, pw, sl, ly, dn, A0, A1, A2, A3, A4, A5, A6) : Int × Int × Int × Int × Int × Int × Int × Int × (Int → Int) × (Int → Int) × (Int → Int) × (Int → Int) × (Int → Int) × (Int → Int) × (Int → Int)) ⟨rfl, (fun h => absurd ⟨bI_t h.1, bI_t h.2⟩ q18)⟩ hG
  · skip
    refine g_iconst S dX9_slantFor_10 ?_
    refine g_top (w := .int (iI (bI (0 ≤ z)))) (congrArg (fun z : Int => Value.int (iI z)) ((bI_t (by omega)).symm)) ?_
    refine lv_goto (tgt := 15) S.1 S.2.1 dX9_slantFor_11 (by decide) ?_
    refine g_invV (As := [.int (iI (bI (0 ≤ y ∧ y < NF 0))), .int (iI (bI (0 ≤ z)))]) (rest := []) (gs' := (fun u : Unit => [gMdl K am (thr (bI (0 ≤ y ∧ y < NF 0)) (bI (0 ≤ z)) 1) rw lg mr en pw sl ly dn iz tz nx st tk vl ef ep hO hB ol rm oz, gArr K 95 rw NF, gArr K 60 (am 3) A0, gArrZ K 60 (am 4) A1, gArr K 60 (am 5) A2, gArr K 60 (am 6) A3, gArr K 60 (am 7) A4, gArr K 60 (am 8) A5, gArr K 60 (am 9) A6])) S C hG [0] (c_X9_passes2 l K am th rw lg mr en pw sl ly dn iz tz nx st tk vl ef ep hO hB ol rm oz (bI (0 ≤ y ∧ y < NF 0)) (bI (0 ≤ z)) (bI_01 _) (bI_01 _)) rfl rfl 0 rfl rfl (cwV 2 S.2.2.2.2 gX9_slantFor_X9_passes2 rfl rfl rfl (by decide +kernel) ⟨Nat.le_of_ble_eq_true rfl, Nat.le_of_ble_eq_true rfl⟩) rfl hl.1 rfl (Nat.le_of_ble_eq_true rfl) dX9_slantFor_15 ⟨Nat.le_of_ble_eq_true rfl, Nat.le_of_ble_eq_true rfl⟩ (fun _ => Nat.le_of_ble_eq_true rfl) (fun _ => rfl) (fun v u H locs hp hG => ?_)
    subst hp
    refine g_ifne_b (B := ((bI (0 ≤ y ∧ y < NF 0)) = 1 ∧ (bI (0 ≤ z)) = 1)) (tgt := 23) S dX9_slantFor_18 (by decide) (fun q18 => ?_) (fun q18 => ?_)
    · skip
      have qa := bI1 q18.1
      have qb := bI1 q18.2
      have lb9 := (lay_bd hN qa.1 qa.2).1
      refine g_iconst S dX9_slantFor_23 ?_
      refine lv_istore (lv' := [(4, .int (iI (-1))), (0, .ref (am 0)), (1, .int (iI y)), (2, .int (iI x)), (3, .int (iI z))]) S.1 S.2.1 dX9_slantFor_24 hl (by decide) rfl (fun ls hl => ?_)
      refine lv_ldcw (v := iI 2147483647) S.1 S.2.1 S.2.2.2.1 (S.2.2.2.2 _ (List.mem_of_getElem? (i := 1) rfl)) dX9_slantFor_26 ?_
      refine lv_istore (lv' := [(5, .int (iI 2147483647)), (4, .int (iI (-1))), (0, .ref (am 0)), (1, .int (iI y)), (2, .int (iI x)), (3, .int (iI z))]) S.1 S.2.1 dX9_slantFor_29 hl (by decide) rfl (fun ls hl => ?_)
      refine g_iconst S dX9_slantFor_31 ?_
      refine lv_istore (lv' := [(6, .int (iI 0)), (5, .int (iI 2147483647)), (4, .int (iI (-1))), (0, .ref (am 0)), (1, .int (iI y)), (2, .int (iI x)), (3, .int (iI z))]) S.1 S.2.1 dX9_slantFor_32 hl (by decide) rfl (fun ls hl => ?_)
      have L34 : ∀ (fu : Nat) (w : Int) (bb : Int) (mm : Int) (vv : Int) (lg1 : Int) (mr1 : Int) (en1 : Int) (pw1 : Int) (sl1 : Int) (ly1 : Int) (dn1 : Int) (E0 : Int → Int) (E1 : Int → Int) (E2 : Int → Int) (E3 : Int → Int) (E4 : Int → Int) (E5 : Int → Int) (E6 : Int → Int) (H : Heap) (locs : List Loc) (ls : Array Slot), ((nX NF y - w).toNat) < fu → (0 ≤ w ∧ w ≤ nX NF y) → (BestI NF y x 0 (nsG NF y x z) True w bb vv) → (0 ≤ mm ∧ mm ≤ 2147483647 ∧ -1 ≤ bb ∧ bb ≤ 4000 ∧ (bb = -1 ∨ mm = -vv)) → lv_has ls 8 [(0, .ref (am 0)), (1, .int (iI y)), (2, .int (iI x)), (3, .int (iI z)), (4, .int (iI bb)), (5, .int (iI mm)), (6, .int (iI w))] → gW K A s.heap [gMdl K am (thr (bI (0 ≤ y ∧ y < NF 0)) (bI (0 ≤ z)) 1) rw lg1 mr1 en1 pw1 sl1 ly1 dn1 iz tz nx st tk vl ef ep hO hB ol rm oz, gArr K 95 rw NF, gArr K 60 (am 3) E0, gArrZ K 60 (am 4) E1, gArr K 60 (am 5) E2, gArr K 60 (am 6) E3, gArr K 60 (am 7) E4, gArr K 60 (am 8) E5, gArr K 60 (am 9) E6] H locs → W p l e { frames := 5, cells := 0, slots := 0, locals := 114 } s m ([.ref (am 0), .int (iI y), .int (iI x), .int (iI z)] : List Value).toArray below meth c H locs 0 0 Q (F0 m 34 ls []) := by
        intro fu
        induction fu with
        | zero => intro w bb mm vv lg1 mr1 en1 pw1 sl1 ly1 dn1 E0 E1 E2 E3 E4 E5 E6 H locs ls hfu; exact absurd hfu (Nat.not_lt_zero _)
        | succ fu ih =>
          intro w bb mm vv lg1 mr1 en1 pw1 sl1 ly1 dn1 E0 E1 E2 E3 E4 E5 E6 H locs ls hfu hw hBe hm hl hG
          refine lv_iload S.1 S.2.1 dX9_slantFor_34 (lv_at hl 6 rfl) ?_
          refine lv_aload_n S.1 S.2.1 dX9_slantFor_36 rfl (lv_at hl 0 rfl) ?_
          refine lv_iload_n S.1 S.2.1 dX9_slantFor_37 rfl (lv_at hl 1 rfl) ?_
          refine g_iconst S dX9_slantFor_38 ?_
          refine g_invV (As := [.int (iI y), .int (iI 0)]) (rest := [.int (iI w)]) (gs' := (fun u : Unit => [gMdl K am (thr (bI (0 ≤ y ∧ y < NF 0)) (bI (0 ≤ z)) 1) rw lg1 mr1 en1 pw1 sl1 ly1 dn1 iz tz nx st tk vl ef ep hO hB ol rm oz, gArr K 95 rw NF, gArr K 60 (am 3) E0, gArrZ K 60 (am 4) E1, gArr K 60 (am 5) E2, gArr K 60 (am 6) E3, gArr K 60 (am 7) E4, gArr K 60 (am 8) E5, gArr K 60 (am 9) E6])) S C hG [0, 1] (c_X9_ofLayer l K am (thr (bI (0 ≤ y ∧ y < NF 0)) (bI (0 ≤ z)) 1) rw lg1 mr1 en1 pw1 sl1 ly1 dn1 iz tz nx st tk vl ef ep hO hB ol rm oz NF y 0 (by omega) (by decide)) rfl rfl 0 rfl rfl (cwV 2 S.2.2.2.2 gX9_slantFor_X9_ofLayer rfl rfl rfl (by decide +kernel) ⟨Nat.le_of_ble_eq_true rfl, Nat.le_of_ble_eq_true rfl⟩) rfl hl.1 rfl (Nat.le_of_ble_eq_true rfl) dX9_slantFor_39 ⟨Nat.le_of_ble_eq_true rfl, Nat.le_of_ble_eq_true rfl⟩ (fun _ => Nat.le_of_ble_eq_true rfl) (fun _ => rfl) (fun v u H locs hp hG => ?_)
          subst hp
          refine g_top (w := .int (iI (nX NF y))) (congrArg (fun z : Int => Value.int (iI z)) (rfl)) ?_
          refine g_icmp_ge (tgt := 105) S dX9_slantFor_42 (by decide) (by omega) (by omega) (fun q42 => ?_) (fun q42 => ?_)
          · skip
            refine lv_iload S.1 S.2.1 dX9_slantFor_105 (lv_at hl 4 rfl) ?_
            have hG : gW K A s.heap [gMdl K am (thr (bI (0 ≤ y ∧ y < NF 0)) (bI (0 ≤ z)) 1) rw lg1 mr1 en1 pw1 sl1 ly1 dn1 iz tz nx st tk vl ef ep hO hB ol rm oz, gArr K 95 rw NF, gArr K 60 (am 3) E0, gArrZ K 60 (am 4) E1, gArr K 60 (am 5) E2, gArr K 60 (am 6) E3, gArr K 60 (am 7) E4, gArr K 60 (am 8) E5, gArr K 60 (am 9) E6] _ _ := hG
            exact g_iret S hr hlk hQ dX9_slantFor_107 (Nat.le_of_ble_eq_true rfl) (Nat.le_of_ble_eq_true rfl) ((bb, lg1, mr1, en1, pw1, sl1, ly1, dn1, E0, E1, E2, E3, E4, E5, E6) : Int × Int × Int × Int × Int × Int × Int × Int × (Int → Int) × (Int → Int) × (Int → Int) × (Int → Int) × (Int → Int) × (Int → Int) × (Int → Int)) ⟨rfl, (fun _ => ⟨vv, (show w = nX NF y by omega) ▸ hBe⟩)⟩ hG
          · skip
            refine lv_aload_n S.1 S.2.1 dX9_slantFor_45 rfl (lv_at hl 0 rfl) ?_
            refine lv_iload_n S.1 S.2.1 dX9_slantFor_46 rfl (lv_at hl 1 rfl) ?_
            refine lv_iload_n S.1 S.2.1 dX9_slantFor_47 rfl (lv_at hl 2 rfl) ?_
            refine lv_iload S.1 S.2.1 dX9_slantFor_48 (lv_at hl 6 rfl) ?_
            refine g_invVv (As := [.int (iI y), .int (iI x), .int (iI w)]) (rest := []) (gs' := (fun u : Int × Int × Int × Int × Int × Int × Int × (Int → Int) × (Int → Int) × (Int → Int) × (Int → Int) × (Int → Int) × (Int → Int) × (Int → Int) => [gMdl K am (thr (bI (0 ≤ y ∧ y < NF 0)) (bI (0 ≤ z)) 1) rw u.1 u.2.1 u.2.2.1 u.2.2.2.1 u.2.2.2.2.1 u.2.2.2.2.2.1 u.2.2.2.2.2.2.1 iz tz nx st tk vl ef ep hO hB ol rm oz, gArr K 95 rw NF, gArr K 60 (am 3) u.2.2.2.2.2.2.2.1, gArrZ K 60 (am 4) u.2.2.2.2.2.2.2.2.1, gArr K 60 (am 5) u.2.2.2.2.2.2.2.2.2.1, gArr K 60 (am 6) u.2.2.2.2.2.2.2.2.2.2.1, gArr K 60 (am 7) u.2.2.2.2.2.2.2.2.2.2.2.1, gArr K 60 (am 8) u.2.2.2.2.2.2.2.2.2.2.2.2.1, gArr K 60 (am 9) u.2.2.2.2.2.2.2.2.2.2.2.2.2])) S C hG [0, 1, 2, 3, 4, 5, 6, 7, 8] (c_X9_follow l K am (thr (bI (0 ≤ y ∧ y < NF 0)) (bI (0 ≤ z)) 1) rw lg1 mr1 en1 pw1 sl1 ly1 dn1 iz tz nx st tk vl ef ep hO hB ol rm oz NF E0 E1 E2 E3 E4 E5 E6 y x w hN hv (by omega) hx) rfl rfl 0 rfl rfl (cwV 3 S.2.2.2.2 gX9_slantFor_X9_follow rfl rfl rfl (by decide +kernel) ⟨Nat.le_of_ble_eq_true rfl, Nat.le_of_ble_eq_true rfl⟩) rfl hl.1 rfl (Nat.le_of_ble_eq_true rfl) dX9_slantFor_50 ⟨Nat.le_of_ble_eq_true rfl, Nat.le_of_ble_eq_true rfl⟩ (fun _ => Nat.le_of_ble_eq_true rfl) (fun _ => rfl) (fun u H locs hp hG => ?_)
            obtain ⟨lg2_50, mr2_50, en2_50, pw2_50, sl2_50, ly2_50, dn2_50, B0_50, B1_50, B2_50, B3_50, B4_50, B5_50, B6_50⟩ := u
            have hf_50 := hp
            have hf_50 : FolR NF w y x lg2_50 mr2_50 en2_50 pw2_50 B0_50 B1_50 B2_50 B3_50 B4_50 B5_50 B6_50 := hf_50
            have hG : gW K A s.heap [gMdl K am (thr (bI (0 ≤ y ∧ y < NF 0)) (bI (0 ≤ z)) 1) rw lg2_50 mr2_50 en2_50 pw2_50 sl2_50 ly2_50 dn2_50 iz tz nx st tk vl ef ep hO hB ol rm oz, gArr K 95 rw NF, gArr K 60 (am 3) B0_50, gArrZ K 60 (am 4) B1_50, gArr K 60 (am 5) B2_50, gArr K 60 (am 6) B3_50, gArr K 60 (am 7) B4_50, gArr K 60 (am 8) B5_50, gArr K 60 (am 9) B6_50] _ _ := hG
            have fb := hf_50.bd hN hw.1 hx
            have f3 := hf_50.2.2.1
            have sb9 := shF_bd hN hw.1 hx (y := y)
            refine lv_aload_n S.1 S.2.1 dX9_slantFor_53 rfl (lv_at hl 0 rfl) ?_
            refine g_get S C hG iX90 0 rfl rfl 6 (by decide) (List.mem_of_getElem? (i := 2) rfl) rfl dX9_slantFor_54 ?_
            refine lv_aload_n S.1 S.2.1 dX9_slantFor_57 rfl (lv_at hl 0 rfl) ?_
            refine g_get S C hG iX90 0 rfl rfl 11 (by decide) (List.mem_of_getElem? (i := 3) rfl) rfl dX9_slantFor_58 ?_
            refine g_invS (As := [.ref (am 5), .int (iI lg2_50)]) (rest := []) (gs' := (fun u : Unit => [gMdl K am (thr (bI (0 ≤ y ∧ y < NF 0)) (bI (0 ≤ z)) 1) rw lg2_50 mr2_50 en2_50 pw2_50 sl2_50 ly2_50 dn2_50 iz tz nx st tk vl ef ep hO hB ol rm oz, gArr K 95 rw NF, gArr K 60 (am 3) B0_50, gArrZ K 60 (am 4) B1_50, gArr K 60 (am 5) B2_50, gArr K 60 (am 6) B3_50, gArr K 60 (am 7) B4_50, gArr K 60 (am 8) B5_50, gArr K 60 (am 9) B6_50])) S C hG [4] (c_X9_sumUp l K (am 5) B2_50 lg2_50 fb.1) rfl rfl (va_cwS 2 S.2.2.2.2 gX9_slantFor_X9_sumUp rfl rfl rfl (by decide +kernel) ⟨Nat.le_of_ble_eq_true rfl, Nat.le_of_ble_eq_true rfl⟩) rfl hl.1 rfl (Nat.le_of_ble_eq_true rfl) dX9_slantFor_61 ⟨Nat.le_of_ble_eq_true rfl, Nat.le_of_ble_eq_true rfl⟩ (fun _ => Nat.le_of_ble_eq_true rfl) (fun _ => rfl) (fun v u H locs hp hG => ?_)
            subst hp
            refine g_top (w := .int (iI (shF NF w y x))) (congrArg (fun z : Int => Value.int (iI z)) (hf_50.s2)) ?_
            refine lv_iload_n S.1 S.2.1 dX9_slantFor_64 rfl (lv_at hl 3 rfl) ?_
            refine g_isub S dX9_slantFor_65 rfl ?_
            refine va_mabs S.1 S.2.1 (by rw [S.2.2.1]; exact hl.1.symm) S.2.2.2.1 (S.2.2.2.2 _ (List.mem_of_getElem? (i := 4) rfl)) (S.2.2.2.2 _ (List.mem_of_getElem? (i := 5) rfl)) (S.2.2.2.2 _ (List.mem_of_getElem? (i := 6) rfl)) (S.2.2.2.2 _ (List.mem_of_getElem? (i := 7) rfl)) (Nat.le_of_ble_eq_true rfl) (Nat.le_of_ble_eq_true rfl) (Nat.le_of_ble_eq_true rfl) (Nat.le_of_ble_eq_true rfl) dX9_slantFor_66 ?_
            refine g_top (w := .int (iI (iabs ((shF NF w y x) - z)))) (iabs_eq (by omega)) ?_
            have ia9 := iabs_bd (shF NF w y x - z)
            refine lv_istore (lv' := [(7, .int (iI (iabs ((shF NF w y x) - z)))), (0, .ref (am 0)), (1, .int (iI y)), (2, .int (iI x)), (3, .int (iI z)), (4, .int (iI bb)), (5, .int (iI mm)), (6, .int (iI w))]) S.1 S.2.1 dX9_slantFor_69 hl (by decide) rfl (fun ls hl => ?_)
            refine lv_aload_n S.1 S.2.1 dX9_slantFor_71 rfl (lv_at hl 1 rfl) ?_
            refine g_get S C hG iX90 0 rfl rfl 13 (by decide) (List.mem_of_getElem? (i := 8) rfl) rfl dX9_slantFor_72 ?_
            refine g_if_ne (tgt := 99) S dX9_slantFor_75 (by decide) (by omega) (fun q75 => ?_) (fun q75 => ?_)
            · skip
              refine lv_iinc (v := iI (w + 1)) (lv' := [(6, .int (iI (w + 1))), (7, .int (iI (iabs ((shF NF w y x) - z)))), (0, .ref (am 0)), (1, .int (iI y)), (2, .int (iI x)), (3, .int (iI z)), (4, .int (iI bb)), (5, .int (iI mm))]) S.1 S.2.1 dX9_slantFor_99 hl (k := 7) rfl (g_iinc rfl) (by decide) rfl (fun ls hl => ?_)
              refine lv_goto (tgt := 34) S.1 S.2.1 dX9_slantFor_102 (by decide) ?_
              exact ih (w + 1) bb mm vv lg2_50 mr2_50 en2_50 pw2_50 sl2_50 ly2_50 dn2_50 B0_50 B1_50 B2_50 B3_50 B4_50 B5_50 B6_50 _ _ _ (by omega) (by omega) (hBe.pass (by rw [← f3] <;> exact q75)) hm (lv_sub hl [2, 3, 4, 5, 6, 7, 0] rfl) hG
            · skip
              refine lv_iload S.1 S.2.1 dX9_slantFor_78 (lv_at hl 5 rfl) ?_
              refine g_iconst S dX9_slantFor_80 ?_
              refine g_icmp_eq (tgt := 91) S dX9_slantFor_81 (by decide) (by omega) (by omega) (fun q81 => ?_) (fun q81 => ?_)
              · skip
                refine lv_iload S.1 S.2.1 dX9_slantFor_91 (lv_at hl 7 rfl) ?_
                refine lv_istore (lv' := [(4, .int (iI w)), (7, .int (iI (iabs ((shF NF w y x) - z)))), (0, .ref (am 0)), (1, .int (iI y)), (2, .int (iI x)), (3, .int (iI z)), (5, .int (iI mm)), (6, .int (iI w))]) S.1 S.2.1 dX9_slantFor_93 hl (by decide) rfl (fun ls hl => ?_)
                refine lv_iload S.1 S.2.1 dX9_slantFor_95 (lv_at hl 1 rfl) ?_
                refine lv_istore (lv' := [(5, .int (iI (iabs ((shF NF w y x) - z)))), (4, .int (iI w)), (7, .int (iI (iabs ((shF NF w y x) - z)))), (0, .ref (am 0)), (1, .int (iI y)), (2, .int (iI x)), (3, .int (iI z)), (6, .int (iI w))]) S.1 S.2.1 dX9_slantFor_97 hl (by decide) rfl (fun ls hl => ?_)
                refine lv_iinc (v := iI (w + 1)) (lv' := [(6, .int (iI (w + 1))), (5, .int (iI (iabs ((shF NF w y x) - z)))), (4, .int (iI w)), (7, .int (iI (iabs ((shF NF w y x) - z)))), (0, .ref (am 0)), (1, .int (iI y)), (2, .int (iI x)), (3, .int (iI z))]) S.1 S.2.1 dX9_slantFor_99 hl (k := 7) rfl (g_iinc rfl) (by decide) rfl (fun ls hl => ?_)
                refine lv_goto (tgt := 34) S.1 S.2.1 dX9_slantFor_102 (by decide) ?_
                exact ih (w + 1) w (iabs ((shF NF w y x) - z)) (-(iabs (shF NF w y x - z))) lg2_50 mr2_50 en2_50 pw2_50 sl2_50 ly2_50 dn2_50 B0_50 B1_50 B2_50 B3_50 B4_50 B5_50 B6_50 _ _ _ (by omega) (by omega) (hBe.tk1 hw.1 (by rw [← f3] <;> omega) (Or.inl (by omega))) (by omega) (lv_sub hl [4, 5, 6, 7, 2, 1, 0] rfl) hG
              · skip
                refine lv_iload S.1 S.2.1 dX9_slantFor_84 (lv_at hl 0 rfl) ?_
                refine lv_iload S.1 S.2.1 dX9_slantFor_86 (lv_at hl 6 rfl) ?_
                refine g_icmp_ge (tgt := 99) S dX9_slantFor_88 (by decide) (by omega) (by omega) (fun q88 => ?_) (fun q88 => ?_)
                · skip
                  refine lv_iinc (v := iI (w + 1)) (lv' := [(6, .int (iI (w + 1))), (7, .int (iI (iabs ((shF NF w y x) - z)))), (0, .ref (am 0)), (1, .int (iI y)), (2, .int (iI x)), (3, .int (iI z)), (4, .int (iI bb)), (5, .int (iI mm))]) S.1 S.2.1 dX9_slantFor_99 hl (k := 7) rfl (g_iinc rfl) (by decide) rfl (fun ls hl => ?_)
                  refine lv_goto (tgt := 34) S.1 S.2.1 dX9_slantFor_102 (by decide) ?_
                  exact ih (w + 1) bb mm vv lg2_50 mr2_50 en2_50 pw2_50 sl2_50 ly2_50 dn2_50 B0_50 B1_50 B2_50 B3_50 B4_50 B5_50 B6_50 _ _ _ (by omega) (by omega) (hBe.stay q81 (by show ¬ vv < -(iabs (shF NF w y x - z)) <;> omega)) hm (lv_sub hl [2, 3, 4, 5, 6, 7, 0] rfl) hG
                · skip
                  refine lv_iload S.1 S.2.1 dX9_slantFor_91 (lv_at hl 7 rfl) ?_
                  refine lv_istore (lv' := [(4, .int (iI w)), (7, .int (iI (iabs ((shF NF w y x) - z)))), (0, .ref (am 0)), (1, .int (iI y)), (2, .int (iI x)), (3, .int (iI z)), (5, .int (iI mm)), (6, .int (iI w))]) S.1 S.2.1 dX9_slantFor_93 hl (by decide) rfl (fun ls hl => ?_)
                  refine lv_iload S.1 S.2.1 dX9_slantFor_95 (lv_at hl 1 rfl) ?_
                  refine lv_istore (lv' := [(5, .int (iI (iabs ((shF NF w y x) - z)))), (4, .int (iI w)), (7, .int (iI (iabs ((shF NF w y x) - z)))), (0, .ref (am 0)), (1, .int (iI y)), (2, .int (iI x)), (3, .int (iI z)), (6, .int (iI w))]) S.1 S.2.1 dX9_slantFor_97 hl (by decide) rfl (fun ls hl => ?_)
                  refine lv_iinc (v := iI (w + 1)) (lv' := [(6, .int (iI (w + 1))), (5, .int (iI (iabs ((shF NF w y x) - z)))), (4, .int (iI w)), (7, .int (iI (iabs ((shF NF w y x) - z)))), (0, .ref (am 0)), (1, .int (iI y)), (2, .int (iI x)), (3, .int (iI z))]) S.1 S.2.1 dX9_slantFor_99 hl (k := 7) rfl (g_iinc rfl) (by decide) rfl (fun ls hl => ?_)
                  refine lv_goto (tgt := 34) S.1 S.2.1 dX9_slantFor_102 (by decide) ?_
                  exact ih (w + 1) w (iabs ((shF NF w y x) - z)) (-(iabs (shF NF w y x - z))) lg2_50 mr2_50 en2_50 pw2_50 sl2_50 ly2_50 dn2_50 B0_50 B1_50 B2_50 B3_50 B4_50 B5_50 B6_50 _ _ _ (by omega) (by omega) (hBe.tk1 hw.1 (by rw [← f3] <;> omega) (Or.inr (by show vv < -(iabs (shF NF w y x - z)) <;> omega))) (by omega) (lv_sub hl [4, 5, 6, 7, 2, 1, 0] rfl) hG
      exact L34 (Nat.succ ((nX NF y - 0).toNat)) 0 (-1) 2147483647 0 lg mr en pw sl ly dn A0 A1 A2 A3 A4 A5 A6 _ _ _ (Nat.lt_succ_self _) ⟨by omega, by omega⟩ (Or.inl ⟨rfl, fun p a b => by omega⟩) (by omega) (lv_sub hl [3, 4, 5, 6, 2, 1, 0] rfl) hG
    · skip
      refine g_iconst S dX9_slantFor_21 ?_
      have hG : gW K A s.heap [gMdl K am (thr (bI (0 ≤ y ∧ y < NF 0)) (bI (0 ≤ z)) 1) rw lg mr en pw sl ly dn iz tz nx st tk vl ef ep hO hB ol rm oz, gArr K 95 rw NF, gArr K 60 (am 3) A0, gArrZ K 60 (am 4) A1, gArr K 60 (am 5) A2, gArr K 60 (am 6) A3, gArr K 60 (am 7) A4, gArr K 60 (am 8) A5, gArr K 60 (am 9) A6] _ _ := hG
      exact g_iret S hr hlk hQ dX9_slantFor_22 (Nat.le_of_ble_eq_true rfl) (Nat.le_of_ble_eq_true rfl) ((0, lg, mr, en, pw, sl, ly, dn, A0, A1, A2, A3, A4, A5, A6) : Int × Int × Int × Int × Int × Int × Int × Int × (Int → Int) × (Int → Int) × (Int → Int) × (Int → Int) × (Int → Int) × (Int → Int) × (Int → Int)) ⟨rfl, (fun h => absurd ⟨bI_t h.1, bI_t h.2⟩ q18)⟩ hG

set_option maxHeartbeats 1000000 in
set_option maxRecDepth 100000 in
theorem c_X9_fastest (l : Launch) (K : KC) (am : Nat → Nat) (th : Int) (rw : Nat) (lg : Int) (mr : Int) (en : Int) (pw : Int) (sl : Int) (ly : Int) (dn : Int) (iz : Int) (tz : Int) (nx : Int) (st : Int) (tk : Int) (vl : Int) (ef : Int) (ep : Int) (hO : Int) (hB : Int) (ol : Int) (rm : Int) (oz : Int) (NF : Int → Int) (A0 : Int → Int) (A1 : Int → Int) (A2 : Int → Int) (A3 : Int → Int) (A4 : Int → Int) (A5 : Int → Int) (A6 : Int → Int) (y : Int) (x : Int) (z : Int) (hN : NOk0 NF) (hv : -2147483648 ≤ y ∧ y < 2147483648) (hx : x = 0 ∨ x = 1) (hz : -2147483648 ≤ z ∧ z < 2147483648) : mG l yX9_fastest wsX9_fastest 5 114 K [.ref (am 0), .int (iI y), .int (iI x), .int (iI z)] [gMdl K am th rw lg mr en pw sl ly dn iz tz nx st tk vl ef ep hO hB ol rm oz, gArr K 95 rw NF, gArr K 60 (am 3) A0, gArrZ K 60 (am 4) A1, gArr K 60 (am 5) A2, gArr K 60 (am 6) A3, gArr K 60 (am 7) A4, gArr K 60 (am 8) A5, gArr K 60 (am 9) A6] (fun (v : Value) (u : Int × Int × Int × Int × Int × Int × Int × Int × (Int → Int) × (Int → Int) × (Int → Int) × (Int → Int) × (Int → Int) × (Int → Int) × (Int → Int)) => (v = .int (iI u.1)) ∧ ((0 ≤ y ∧ y < NF 0) ∧ (0 ≤ z ∧ z ≤ 3) → ∃ vw, BestI NF y x z (scG NF y x 0) True (nX NF y) u.1 vw)) (fun (u : Int × Int × Int × Int × Int × Int × Int × Int × (Int → Int) × (Int → Int) × (Int → Int) × (Int → Int) × (Int → Int) × (Int → Int) × (Int → Int)) => [gMdl K am (thr (bI (0 ≤ y ∧ y < NF 0)) (bI (0 ≤ z ∧ z ≤ 3)) 1) rw u.2.1 u.2.2.1 u.2.2.2.1 u.2.2.2.2.1 u.2.2.2.2.2.1 u.2.2.2.2.2.2.1 u.2.2.2.2.2.2.2.1 iz tz nx st tk vl ef ep hO hB ol rm oz, gArr K 95 rw NF, gArr K 60 (am 3) u.2.2.2.2.2.2.2.2.1, gArrZ K 60 (am 4) u.2.2.2.2.2.2.2.2.2.1, gArr K 60 (am 5) u.2.2.2.2.2.2.2.2.2.2.1, gArr K 60 (am 6) u.2.2.2.2.2.2.2.2.2.2.2.1, gArr K 60 (am 7) u.2.2.2.2.2.2.2.2.2.2.2.2.1, gArr K 60 (am 8) u.2.2.2.2.2.2.2.2.2.2.2.2.2.1, gArr K 60 (am 9) u.2.2.2.2.2.2.2.2.2.2.2.2.2.2]) 0 0 := by
  refine mG_of cX9_fastest 8 (by decide) rfl (Nat.le_of_ble_eq_true rfl) ?_
  intro p e s m below meth c A ls Q S C hG hl hr hlk hin hQ
  have S : CallFix p m c cX9_fastest 8 s ([.ref (am 0), .int (iI y), .int (iI x), .int (iI z)] : List Value).toArray wsX9_fastest RX9 := S
  have iX90 : ∀ w ∈ wsX90, w ∈ wsX9_fastest := fun _ h => List.mem_cons_of_mem _ (List.mem_append_right _ (h))
  have hl : lv_has ls 8 [(0, .ref (am 0)), (1, .int (iI y)), (2, .int (iI x)), (3, .int (iI z))] := hl
  have hG : gW K A s.heap [gMdl K am th rw lg mr en pw sl ly dn iz tz nx st tk vl ef ep hO hB ol rm oz, gArr K 95 rw NF, gArr K 60 (am 3) A0, gArrZ K 60 (am 4) A1, gArr K 60 (am 5) A2, gArr K 60 (am 6) A3, gArr K 60 (am 7) A4, gArr K 60 (am 8) A5, gArr K 60 (am 9) A6] s.heap [] := hG
  have n0 := hN.1
  have n3 := hN.2.2.2.1
  refine lv_aload_n S.1 S.2.1 dX9_fastest_0 rfl (lv_at hl 0 rfl) ?_
  refine lv_aload_n S.1 S.2.1 dX9_fastest_1 rfl (lv_at hl 0 rfl) ?_
  refine lv_iload_n S.1 S.2.1 dX9_fastest_2 rfl (lv_at hl 1 rfl) ?_
  refine g_invV (As := [.int (iI y)]) (rest := [.ref (am 0)]) (gs' := (fun u : Unit => [gMdl K am th rw lg mr en pw sl ly dn iz tz nx st tk vl ef ep hO hB ol rm oz, gArr K 95 rw NF, gArr K 60 (am 3) A0, gArrZ K 60 (am 4) A1, gArr K 60 (am 5) A2, gArr K 60 (am 6) A3, gArr K 60 (am 7) A4, gArr K 60 (am 8) A5, gArr K 60 (am 9) A6])) S C hG [0, 1] (c_X9_isLayer l K am th rw lg mr en pw sl ly dn iz tz nx st tk vl ef ep hO hB ol rm oz NF y hN hv) rfl rfl 0 rfl rfl (cwV 1 S.2.2.2.2 gX9_fastest_X9_isLayer rfl rfl rfl (by decide +kernel) ⟨Nat.le_of_ble_eq_true rfl, Nat.le_of_ble_eq_true rfl⟩) rfl hl.1 rfl (Nat.le_of_ble_eq_true rfl) dX9_fastest_3 ⟨Nat.le_of_ble_eq_true rfl, Nat.le_of_ble_eq_true rfl⟩ (fun _ => Nat.le_of_ble_eq_true rfl) (fun _ => rfl) (fun v u H locs hp hG => ?_)
  subst hp
  refine lv_iload_n S.1 S.2.1 dX9_fastest_6 rfl (lv_at hl 3 rfl) ?_
  refine g_invS (As := [.int (iI z)]) (rest := [.int (iI (bI (0 ≤ y ∧ y < NF 0))), .ref (am 0)]) (gs' := (fun u : Unit => [gMdl K am th rw lg mr en pw sl ly dn iz tz nx st tk vl ef ep hO hB ol rm oz, gArr K 95 rw NF, gArr K 60 (am 3) A0, gArrZ K 60 (am 4) A1, gArr K 60 (am 5) A2, gArr K 60 (am 6) A3, gArr K 60 (am 7) A4, gArr K 60 (am 8) A5, gArr K 60 (am 9) A6])) S C hG [] (c_X9_isEnd l K z hz) rfl rfl (va_cwS 1 S.2.2.2.2 gX9_fastest_X9_isEnd rfl rfl rfl (by decide +kernel) ⟨Nat.le_of_ble_eq_true rfl, Nat.le_of_ble_eq_true rfl⟩) rfl hl.1 rfl (Nat.le_of_ble_eq_true rfl) dX9_fastest_7 ⟨Nat.le_of_ble_eq_true rfl, Nat.le_of_ble_eq_true rfl⟩ (fun _ => Nat.le_of_ble_eq_true rfl) (fun _ => rfl) (fun v u H locs hp hG => ?_)
  subst hp
  refine g_invV (As := [.int (iI (bI (0 ≤ y ∧ y < NF 0))), .int (iI (bI (0 ≤ z ∧ z ≤ 3)))]) (rest := []) (gs' := (fun u : Unit => [gMdl K am (thr (bI (0 ≤ y ∧ y < NF 0)) (bI (0 ≤ z ∧ z ≤ 3)) 1) rw lg mr en pw sl ly dn iz tz nx st tk vl ef ep hO hB ol rm oz, gArr K 95 rw NF, gArr K 60 (am 3) A0, gArrZ K 60 (am 4) A1, gArr K 60 (am 5) A2, gArr K 60 (am 6) A3, gArr K 60 (am 7) A4, gArr K 60 (am 8) A5, gArr K 60 (am 9) A6])) S C hG [0] (c_X9_passes2 l K am th rw lg mr en pw sl ly dn iz tz nx st tk vl ef ep hO hB ol rm oz (bI (0 ≤ y ∧ y < NF 0)) (bI (0 ≤ z ∧ z ≤ 3)) (bI_01 _) (bI_01 _)) rfl rfl 0 rfl rfl (cwV 2 S.2.2.2.2 gX9_fastest_X9_passes2 rfl rfl rfl (by decide +kernel) ⟨Nat.le_of_ble_eq_true rfl, Nat.le_of_ble_eq_true rfl⟩) rfl hl.1 rfl (Nat.le_of_ble_eq_true rfl) dX9_fastest_10 ⟨Nat.le_of_ble_eq_true rfl, Nat.le_of_ble_eq_true rfl⟩ (fun _ => Nat.le_of_ble_eq_true rfl) (fun _ => rfl) (fun v u H locs hp hG => ?_)
  subst hp
  refine g_ifne_b (B := ((bI (0 ≤ y ∧ y < NF 0)) = 1 ∧ (bI (0 ≤ z ∧ z ≤ 3)) = 1)) (tgt := 18) S dX9_fastest_13 (by decide) (fun q13 => ?_) (fun q13 => ?_)
  · skip
    have qa := bI1 q13.1
    have qb := bI1 q13.2
    have lb9 := (lay_bd hN qa.1 qa.2).1
    refine g_iconst S dX9_fastest_18 ?_
    refine lv_istore (lv' := [(4, .int (iI (-1))), (0, .ref (am 0)), (1, .int (iI y)), (2, .int (iI x)), (3, .int (iI z))]) S.1 S.2.1 dX9_fastest_19 hl (by decide) rfl (fun ls hl => ?_)
    refine g_iconst S dX9_fastest_21 ?_
    refine lv_istore (lv' := [(5, .int (iI 0)), (4, .int (iI (-1))), (0, .ref (am 0)), (1, .int (iI y)), (2, .int (iI x)), (3, .int (iI z))]) S.1 S.2.1 dX9_fastest_22 hl (by decide) rfl (fun ls hl => ?_)
    refine g_iconst S dX9_fastest_24 ?_
    refine lv_istore (lv' := [(6, .int (iI 0)), (5, .int (iI 0)), (4, .int (iI (-1))), (0, .ref (am 0)), (1, .int (iI y)), (2, .int (iI x)), (3, .int (iI z))]) S.1 S.2.1 dX9_fastest_25 hl (by decide) rfl (fun ls hl => ?_)
    have L27 : ∀ (fu : Nat) (w : Int) (bb : Int) (mm : Int) (vv : Int) (lg1 : Int) (mr1 : Int) (en1 : Int) (pw1 : Int) (sl1 : Int) (ly1 : Int) (dn1 : Int) (E0 : Int → Int) (E1 : Int → Int) (E2 : Int → Int) (E3 : Int → Int) (E4 : Int → Int) (E5 : Int → Int) (E6 : Int → Int) (H : Heap) (locs : List Loc) (ls : Array Slot), ((nX NF y - w).toNat) < fu → (0 ≤ w ∧ w ≤ nX NF y) → (BestI NF y x z (scG NF y x 0) True w bb vv) → (0 ≤ mm ∧ mm ≤ 200000000 ∧ -1 ≤ bb ∧ bb ≤ 4000 ∧ (bb = -1 ∨ mm = -vv)) → lv_has ls 8 [(0, .ref (am 0)), (1, .int (iI y)), (2, .int (iI x)), (3, .int (iI z)), (4, .int (iI bb)), (5, .int (iI mm)), (6, .int (iI w))] → gW K A s.heap [gMdl K am (thr (bI (0 ≤ y ∧ y < NF 0)) (bI (0 ≤ z ∧ z ≤ 3)) 1) rw lg1 mr1 en1 pw1 sl1 ly1 dn1 iz tz nx st tk vl ef ep hO hB ol rm oz, gArr K 95 rw NF, gArr K 60 (am 3) E0, gArrZ K 60 (am 4) E1, gArr K 60 (am 5) E2, gArr K 60 (am 6) E3, gArr K 60 (am 7) E4, gArr K 60 (am 8) E5, gArr K 60 (am 9) E6] H locs → W p l e { frames := 5, cells := 0, slots := 0, locals := 114 } s m ([.ref (am 0), .int (iI y), .int (iI x), .int (iI z)] : List Value).toArray below meth c H locs 0 0 Q (F0 m 27 ls []) := by
      intro fu
      induction fu with
      | zero => intro w bb mm vv lg1 mr1 en1 pw1 sl1 ly1 dn1 E0 E1 E2 E3 E4 E5 E6 H locs ls hfu; exact absurd hfu (Nat.not_lt_zero _)
      | succ fu ih =>
        intro w bb mm vv lg1 mr1 en1 pw1 sl1 ly1 dn1 E0 E1 E2 E3 E4 E5 E6 H locs ls hfu hw hBe hm hl hG
        refine lv_iload S.1 S.2.1 dX9_fastest_27 (lv_at hl 6 rfl) ?_
        refine lv_aload_n S.1 S.2.1 dX9_fastest_29 rfl (lv_at hl 0 rfl) ?_
        refine lv_iload_n S.1 S.2.1 dX9_fastest_30 rfl (lv_at hl 1 rfl) ?_
        refine g_iconst S dX9_fastest_31 ?_
        refine g_invV (As := [.int (iI y), .int (iI 0)]) (rest := [.int (iI w)]) (gs' := (fun u : Unit => [gMdl K am (thr (bI (0 ≤ y ∧ y < NF 0)) (bI (0 ≤ z ∧ z ≤ 3)) 1) rw lg1 mr1 en1 pw1 sl1 ly1 dn1 iz tz nx st tk vl ef ep hO hB ol rm oz, gArr K 95 rw NF, gArr K 60 (am 3) E0, gArrZ K 60 (am 4) E1, gArr K 60 (am 5) E2, gArr K 60 (am 6) E3, gArr K 60 (am 7) E4, gArr K 60 (am 8) E5, gArr K 60 (am 9) E6])) S C hG [0, 1] (c_X9_ofLayer l K am (thr (bI (0 ≤ y ∧ y < NF 0)) (bI (0 ≤ z ∧ z ≤ 3)) 1) rw lg1 mr1 en1 pw1 sl1 ly1 dn1 iz tz nx st tk vl ef ep hO hB ol rm oz NF y 0 (by omega) (by decide)) rfl rfl 0 rfl rfl (cwV 2 S.2.2.2.2 gX9_fastest_X9_ofLayer rfl rfl rfl (by decide +kernel) ⟨Nat.le_of_ble_eq_true rfl, Nat.le_of_ble_eq_true rfl⟩) rfl hl.1 rfl (Nat.le_of_ble_eq_true rfl) dX9_fastest_32 ⟨Nat.le_of_ble_eq_true rfl, Nat.le_of_ble_eq_true rfl⟩ (fun _ => Nat.le_of_ble_eq_true rfl) (fun _ => rfl) (fun v u H locs hp hG => ?_)
        subst hp
        refine g_top (w := .int (iI (nX NF y))) (congrArg (fun z : Int => Value.int (iI z)) (rfl)) ?_
        refine g_icmp_ge (tgt := 94) S dX9_fastest_35 (by decide) (by omega) (by omega) (fun q35 => ?_) (fun q35 => ?_)
        · skip
          refine lv_iload S.1 S.2.1 dX9_fastest_94 (lv_at hl 4 rfl) ?_
          have hG : gW K A s.heap [gMdl K am (thr (bI (0 ≤ y ∧ y < NF 0)) (bI (0 ≤ z ∧ z ≤ 3)) 1) rw lg1 mr1 en1 pw1 sl1 ly1 dn1 iz tz nx st tk vl ef ep hO hB ol rm oz, gArr K 95 rw NF, gArr K 60 (am 3) E0, gArrZ K 60 (am 4) E1, gArr K 60 (am 5) E2, gArr K 60 (am 6) E3, gArr K 60 (am 7) E4, gArr K 60 (am 8) E5, gArr K 60 (am 9) E6] _ _ := hG
          exact g_iret S hr hlk hQ dX9_fastest_96 (Nat.le_of_ble_eq_true rfl) (Nat.le_of_ble_eq_true rfl) ((bb, lg1, mr1, en1, pw1, sl1, ly1, dn1, E0, E1, E2, E3, E4, E5, E6) : Int × Int × Int × Int × Int × Int × Int × Int × (Int → Int) × (Int → Int) × (Int → Int) × (Int → Int) × (Int → Int) × (Int → Int) × (Int → Int)) ⟨rfl, (fun _ => ⟨vv, (show w = nX NF y by omega) ▸ hBe⟩)⟩ hG
        · skip
          refine lv_aload_n S.1 S.2.1 dX9_fastest_38 rfl (lv_at hl 0 rfl) ?_
          refine lv_iload_n S.1 S.2.1 dX9_fastest_39 rfl (lv_at hl 1 rfl) ?_
          refine lv_iload_n S.1 S.2.1 dX9_fastest_40 rfl (lv_at hl 2 rfl) ?_
          refine lv_iload S.1 S.2.1 dX9_fastest_41 (lv_at hl 6 rfl) ?_
          refine g_invVv (As := [.int (iI y), .int (iI x), .int (iI w)]) (rest := []) (gs' := (fun u : Int × Int × Int × Int × Int × Int × Int × (Int → Int) × (Int → Int) × (Int → Int) × (Int → Int) × (Int → Int) × (Int → Int) × (Int → Int) => [gMdl K am (thr (bI (0 ≤ y ∧ y < NF 0)) (bI (0 ≤ z ∧ z ≤ 3)) 1) rw u.1 u.2.1 u.2.2.1 u.2.2.2.1 u.2.2.2.2.1 u.2.2.2.2.2.1 u.2.2.2.2.2.2.1 iz tz nx st tk vl ef ep hO hB ol rm oz, gArr K 95 rw NF, gArr K 60 (am 3) u.2.2.2.2.2.2.2.1, gArrZ K 60 (am 4) u.2.2.2.2.2.2.2.2.1, gArr K 60 (am 5) u.2.2.2.2.2.2.2.2.2.1, gArr K 60 (am 6) u.2.2.2.2.2.2.2.2.2.2.1, gArr K 60 (am 7) u.2.2.2.2.2.2.2.2.2.2.2.1, gArr K 60 (am 8) u.2.2.2.2.2.2.2.2.2.2.2.2.1, gArr K 60 (am 9) u.2.2.2.2.2.2.2.2.2.2.2.2.2])) S C hG [0, 1, 2, 3, 4, 5, 6, 7, 8] (c_X9_follow l K am (thr (bI (0 ≤ y ∧ y < NF 0)) (bI (0 ≤ z ∧ z ≤ 3)) 1) rw lg1 mr1 en1 pw1 sl1 ly1 dn1 iz tz nx st tk vl ef ep hO hB ol rm oz NF E0 E1 E2 E3 E4 E5 E6 y x w hN hv (by omega) hx) rfl rfl 0 rfl rfl (cwV 3 S.2.2.2.2 gX9_fastest_X9_follow rfl rfl rfl (by decide +kernel) ⟨Nat.le_of_ble_eq_true rfl, Nat.le_of_ble_eq_true rfl⟩) rfl hl.1 rfl (Nat.le_of_ble_eq_true rfl) dX9_fastest_43 ⟨Nat.le_of_ble_eq_true rfl, Nat.le_of_ble_eq_true rfl⟩ (fun _ => Nat.le_of_ble_eq_true rfl) (fun _ => rfl) (fun u H locs hp hG => ?_)
          obtain ⟨lg2_43, mr2_43, en2_43, pw2_43, sl2_43, ly2_43, dn2_43, B0_43, B1_43, B2_43, B3_43, B4_43, B5_43, B6_43⟩ := u
          have hf_43 := hp
          have hf_43 : FolR NF w y x lg2_43 mr2_43 en2_43 pw2_43 B0_43 B1_43 B2_43 B3_43 B4_43 B5_43 B6_43 := hf_43
          have hG : gW K A s.heap [gMdl K am (thr (bI (0 ≤ y ∧ y < NF 0)) (bI (0 ≤ z ∧ z ≤ 3)) 1) rw lg2_43 mr2_43 en2_43 pw2_43 sl2_43 ly2_43 dn2_43 iz tz nx st tk vl ef ep hO hB ol rm oz, gArr K 95 rw NF, gArr K 60 (am 3) B0_43, gArrZ K 60 (am 4) B1_43, gArr K 60 (am 5) B2_43, gArr K 60 (am 6) B3_43, gArr K 60 (am 7) B4_43, gArr K 60 (am 8) B5_43, gArr K 60 (am 9) B6_43] _ _ := hG
          have fb := hf_43.bd hN hw.1 hx
          have f3 := hf_43.2.2.1
          have sb9 := shF_bd hN hw.1 hx (y := y)
          refine lv_aload_n S.1 S.2.1 dX9_fastest_46 rfl (lv_at hl 0 rfl) ?_
          refine g_get S C hG iX90 0 rfl rfl 8 (by decide) (List.mem_of_getElem? (i := 1) rfl) rfl dX9_fastest_47 ?_
          refine lv_aload_n S.1 S.2.1 dX9_fastest_50 rfl (lv_at hl 0 rfl) ?_
          refine g_get S C hG iX90 0 rfl rfl 11 (by decide) (List.mem_of_getElem? (i := 2) rfl) rfl dX9_fastest_51 ?_
          refine g_invS (As := [.ref (am 7), .int (iI lg2_43)]) (rest := []) (gs' := (fun u : Unit => [gMdl K am (thr (bI (0 ≤ y ∧ y < NF 0)) (bI (0 ≤ z ∧ z ≤ 3)) 1) rw lg2_43 mr2_43 en2_43 pw2_43 sl2_43 ly2_43 dn2_43 iz tz nx st tk vl ef ep hO hB ol rm oz, gArr K 95 rw NF, gArr K 60 (am 3) B0_43, gArrZ K 60 (am 4) B1_43, gArr K 60 (am 5) B2_43, gArr K 60 (am 6) B3_43, gArr K 60 (am 7) B4_43, gArr K 60 (am 8) B5_43, gArr K 60 (am 9) B6_43])) S C hG [6] (c_X9_sumUp l K (am 7) B4_43 lg2_43 fb.1) rfl rfl (va_cwS 2 S.2.2.2.2 gX9_fastest_X9_sumUp rfl rfl rfl (by decide +kernel) ⟨Nat.le_of_ble_eq_true rfl, Nat.le_of_ble_eq_true rfl⟩) rfl hl.1 rfl (Nat.le_of_ble_eq_true rfl) dX9_fastest_54 ⟨Nat.le_of_ble_eq_true rfl, Nat.le_of_ble_eq_true rfl⟩ (fun _ => Nat.le_of_ble_eq_true rfl) (fun _ => rfl) (fun v u H locs hp hG => ?_)
          subst hp
          refine g_top (w := .int (iI (tmF NF w y x))) (congrArg (fun z : Int => Value.int (iI z)) (hf_43.s4)) ?_
          refine lv_istore (lv' := [(7, .int (iI (tmF NF w y x))), (0, .ref (am 0)), (1, .int (iI y)), (2, .int (iI x)), (3, .int (iI z)), (4, .int (iI bb)), (5, .int (iI mm)), (6, .int (iI w))]) S.1 S.2.1 dX9_fastest_57 hl (by decide) rfl (fun ls hl => ?_)
          refine lv_aload_n S.1 S.2.1 dX9_fastest_59 rfl (lv_at hl 1 rfl) ?_
          refine g_get S C hG iX90 0 rfl rfl 13 (by decide) (List.mem_of_getElem? (i := 3) rfl) rfl dX9_fastest_60 ?_
          refine lv_iload_n S.1 S.2.1 dX9_fastest_63 rfl (lv_at hl 4 rfl) ?_
          refine g_icmp_ne (tgt := 88) S dX9_fastest_64 (by decide) (by omega) (by omega) (fun q64 => ?_) (fun q64 => ?_)
          · skip
            refine lv_iinc (v := iI (w + 1)) (lv' := [(6, .int (iI (w + 1))), (7, .int (iI (tmF NF w y x))), (0, .ref (am 0)), (1, .int (iI y)), (2, .int (iI x)), (3, .int (iI z)), (4, .int (iI bb)), (5, .int (iI mm))]) S.1 S.2.1 dX9_fastest_88 hl (k := 7) rfl (g_iinc rfl) (by decide) rfl (fun ls hl => ?_)
            refine lv_goto (tgt := 27) S.1 S.2.1 dX9_fastest_91 (by decide) ?_
            exact ih (w + 1) bb mm vv lg2_43 mr2_43 en2_43 pw2_43 sl2_43 ly2_43 dn2_43 B0_43 B1_43 B2_43 B3_43 B4_43 B5_43 B6_43 _ _ _ (by omega) (by omega) (hBe.pass (by rw [← f3] <;> exact q64)) hm (lv_sub hl [2, 3, 4, 5, 6, 7, 0] rfl) hG
          · skip
            refine lv_iload S.1 S.2.1 dX9_fastest_67 (lv_at hl 5 rfl) ?_
            refine g_iconst S dX9_fastest_69 ?_
            refine g_icmp_eq (tgt := 80) S dX9_fastest_70 (by decide) (by omega) (by omega) (fun q70 => ?_) (fun q70 => ?_)
            · skip
              refine lv_iload S.1 S.2.1 dX9_fastest_80 (lv_at hl 7 rfl) ?_
              refine lv_istore (lv' := [(4, .int (iI w)), (7, .int (iI (tmF NF w y x))), (0, .ref (am 0)), (1, .int (iI y)), (2, .int (iI x)), (3, .int (iI z)), (5, .int (iI mm)), (6, .int (iI w))]) S.1 S.2.1 dX9_fastest_82 hl (by decide) rfl (fun ls hl => ?_)
              refine lv_iload S.1 S.2.1 dX9_fastest_84 (lv_at hl 1 rfl) ?_
              refine lv_istore (lv' := [(5, .int (iI (tmF NF w y x))), (4, .int (iI w)), (7, .int (iI (tmF NF w y x))), (0, .ref (am 0)), (1, .int (iI y)), (2, .int (iI x)), (3, .int (iI z)), (6, .int (iI w))]) S.1 S.2.1 dX9_fastest_86 hl (by decide) rfl (fun ls hl => ?_)
              refine lv_iinc (v := iI (w + 1)) (lv' := [(6, .int (iI (w + 1))), (5, .int (iI (tmF NF w y x))), (4, .int (iI w)), (7, .int (iI (tmF NF w y x))), (0, .ref (am 0)), (1, .int (iI y)), (2, .int (iI x)), (3, .int (iI z))]) S.1 S.2.1 dX9_fastest_88 hl (k := 7) rfl (g_iinc rfl) (by decide) rfl (fun ls hl => ?_)
              refine lv_goto (tgt := 27) S.1 S.2.1 dX9_fastest_91 (by decide) ?_
              exact ih (w + 1) w (tmF NF w y x) (-(tmF NF w y x)) lg2_43 mr2_43 en2_43 pw2_43 sl2_43 ly2_43 dn2_43 B0_43 B1_43 B2_43 B3_43 B4_43 B5_43 B6_43 _ _ _ (by omega) (by omega) (hBe.tk1 hw.1 (by rw [← f3] <;> omega) (Or.inl (by omega))) (by omega) (lv_sub hl [4, 5, 6, 7, 2, 1, 0] rfl) hG
            · skip
              refine lv_iload S.1 S.2.1 dX9_fastest_73 (lv_at hl 0 rfl) ?_
              refine lv_iload S.1 S.2.1 dX9_fastest_75 (lv_at hl 6 rfl) ?_
              refine g_icmp_ge (tgt := 88) S dX9_fastest_77 (by decide) (by omega) (by omega) (fun q77 => ?_) (fun q77 => ?_)
              · skip
                refine lv_iinc (v := iI (w + 1)) (lv' := [(6, .int (iI (w + 1))), (7, .int (iI (tmF NF w y x))), (0, .ref (am 0)), (1, .int (iI y)), (2, .int (iI x)), (3, .int (iI z)), (4, .int (iI bb)), (5, .int (iI mm))]) S.1 S.2.1 dX9_fastest_88 hl (k := 7) rfl (g_iinc rfl) (by decide) rfl (fun ls hl => ?_)
                refine lv_goto (tgt := 27) S.1 S.2.1 dX9_fastest_91 (by decide) ?_
                exact ih (w + 1) bb mm vv lg2_43 mr2_43 en2_43 pw2_43 sl2_43 ly2_43 dn2_43 B0_43 B1_43 B2_43 B3_43 B4_43 B5_43 B6_43 _ _ _ (by omega) (by omega) (hBe.stay q70 (by show ¬ vv < -(tmF NF w y x) <;> omega)) hm (lv_sub hl [2, 3, 4, 5, 6, 7, 0] rfl) hG
              · skip
                refine lv_iload S.1 S.2.1 dX9_fastest_80 (lv_at hl 7 rfl) ?_
                refine lv_istore (lv' := [(4, .int (iI w)), (7, .int (iI (tmF NF w y x))), (0, .ref (am 0)), (1, .int (iI y)), (2, .int (iI x)), (3, .int (iI z)), (5, .int (iI mm)), (6, .int (iI w))]) S.1 S.2.1 dX9_fastest_82 hl (by decide) rfl (fun ls hl => ?_)
                refine lv_iload S.1 S.2.1 dX9_fastest_84 (lv_at hl 1 rfl) ?_
                refine lv_istore (lv' := [(5, .int (iI (tmF NF w y x))), (4, .int (iI w)), (7, .int (iI (tmF NF w y x))), (0, .ref (am 0)), (1, .int (iI y)), (2, .int (iI x)), (3, .int (iI z)), (6, .int (iI w))]) S.1 S.2.1 dX9_fastest_86 hl (by decide) rfl (fun ls hl => ?_)
                refine lv_iinc (v := iI (w + 1)) (lv' := [(6, .int (iI (w + 1))), (5, .int (iI (tmF NF w y x))), (4, .int (iI w)), (7, .int (iI (tmF NF w y x))), (0, .ref (am 0)), (1, .int (iI y)), (2, .int (iI x)), (3, .int (iI z))]) S.1 S.2.1 dX9_fastest_88 hl (k := 7) rfl (g_iinc rfl) (by decide) rfl (fun ls hl => ?_)
                refine lv_goto (tgt := 27) S.1 S.2.1 dX9_fastest_91 (by decide) ?_
                exact ih (w + 1) w (tmF NF w y x) (-(tmF NF w y x)) lg2_43 mr2_43 en2_43 pw2_43 sl2_43 ly2_43 dn2_43 B0_43 B1_43 B2_43 B3_43 B4_43 B5_43 B6_43 _ _ _ (by omega) (by omega) (hBe.tk1 hw.1 (by rw [← f3] <;> omega) (Or.inr (by show vv < -(tmF NF w y x) <;> omega))) (by omega) (lv_sub hl [4, 5, 6, 7, 2, 1, 0] rfl) hG
    exact L27 (Nat.succ ((nX NF y - 0).toNat)) 0 (-1) 0 0 lg mr en pw sl ly dn A0 A1 A2 A3 A4 A5 A6 _ _ _ (Nat.lt_succ_self _) ⟨by omega, by omega⟩ (Or.inl ⟨rfl, fun p a b => by omega⟩) (by omega) (lv_sub hl [3, 4, 5, 6, 2, 1, 0] rfl) hG
  · skip
    refine g_iconst S dX9_fastest_16 ?_
    have hG : gW K A s.heap [gMdl K am (thr (bI (0 ≤ y ∧ y < NF 0)) (bI (0 ≤ z ∧ z ≤ 3)) 1) rw lg mr en pw sl ly dn iz tz nx st tk vl ef ep hO hB ol rm oz, gArr K 95 rw NF, gArr K 60 (am 3) A0, gArrZ K 60 (am 4) A1, gArr K 60 (am 5) A2, gArr K 60 (am 6) A3, gArr K 60 (am 7) A4, gArr K 60 (am 8) A5, gArr K 60 (am 9) A6] _ _ := hG
    exact g_iret S hr hlk hQ dX9_fastest_17 (Nat.le_of_ble_eq_true rfl) (Nat.le_of_ble_eq_true rfl) ((0, lg, mr, en, pw, sl, ly, dn, A0, A1, A2, A3, A4, A5, A6) : Int × Int × Int × Int × Int × Int × Int × Int × (Int → Int) × (Int → Int) × (Int → Int) × (Int → Int) × (Int → Int) × (Int → Int) × (Int → Int)) ⟨rfl, (fun h => absurd ⟨bI_t h.1, bI_t h.2⟩ q13)⟩ hG

set_option maxHeartbeats 1000000 in
set_option maxRecDepth 100000 in
theorem c_X9_brightest (l : Launch) (K : KC) (am : Nat → Nat) (th : Int) (rw : Nat) (lg : Int) (mr : Int) (en : Int) (pw : Int) (sl : Int) (ly : Int) (dn : Int) (iz : Int) (tz : Int) (nx : Int) (st : Int) (tk : Int) (vl : Int) (ef : Int) (ep : Int) (hO : Int) (hB : Int) (ol : Int) (rm : Int) (oz : Int) (NF : Int → Int) (A0 : Int → Int) (A1 : Int → Int) (A2 : Int → Int) (A3 : Int → Int) (A4 : Int → Int) (A5 : Int → Int) (A6 : Int → Int) (y : Int) (x : Int) (z : Int) (hN : NOk0 NF) (hv : -2147483648 ≤ y ∧ y < 2147483648) (hx : x = 0 ∨ x = 1) (hz : -2147483648 ≤ z ∧ z < 2147483648) : mG l yX9_brightest wsX9_brightest 5 114 K [.ref (am 0), .int (iI y), .int (iI x), .int (iI z)] [gMdl K am th rw lg mr en pw sl ly dn iz tz nx st tk vl ef ep hO hB ol rm oz, gArr K 95 rw NF, gArr K 60 (am 3) A0, gArrZ K 60 (am 4) A1, gArr K 60 (am 5) A2, gArr K 60 (am 6) A3, gArr K 60 (am 7) A4, gArr K 60 (am 8) A5, gArr K 60 (am 9) A6] (fun (v : Value) (u : Int × Int × Int × Int × Int × Int × Int × Int × (Int → Int) × (Int → Int) × (Int → Int) × (Int → Int) × (Int → Int) × (Int → Int) × (Int → Int)) => (v = .int (iI u.1)) ∧ ((0 ≤ y ∧ y < NF 0) ∧ (0 ≤ z ∧ z ≤ 3) → ∃ vw, BestI NF y x z (scG NF y x 1) True (nX NF y) u.1 vw)) (fun (u : Int × Int × Int × Int × Int × Int × Int × Int × (Int → Int) × (Int → Int) × (Int → Int) × (Int → Int) × (Int → Int) × (Int → Int) × (Int → Int)) => [gMdl K am (thr (bI (0 ≤ y ∧ y < NF 0)) (bI (0 ≤ z ∧ z ≤ 3)) 1) rw u.2.1 u.2.2.1 u.2.2.2.1 u.2.2.2.2.1 u.2.2.2.2.2.1 u.2.2.2.2.2.2.1 u.2.2.2.2.2.2.2.1 iz tz nx st tk vl ef ep hO hB ol rm oz, gArr K 95 rw NF, gArr K 60 (am 3) u.2.2.2.2.2.2.2.2.1, gArrZ K 60 (am 4) u.2.2.2.2.2.2.2.2.2.1, gArr K 60 (am 5) u.2.2.2.2.2.2.2.2.2.2.1, gArr K 60 (am 6) u.2.2.2.2.2.2.2.2.2.2.2.1, gArr K 60 (am 7) u.2.2.2.2.2.2.2.2.2.2.2.2.1, gArr K 60 (am 8) u.2.2.2.2.2.2.2.2.2.2.2.2.2.1, gArr K 60 (am 9) u.2.2.2.2.2.2.2.2.2.2.2.2.2.2]) 0 0 := by
  refine mG_of cX9_brightest 8 (by decide) rfl (Nat.le_of_ble_eq_true rfl) ?_
  intro p e s m below meth c A ls Q S C hG hl hr hlk hin hQ
  have S : CallFix p m c cX9_brightest 8 s ([.ref (am 0), .int (iI y), .int (iI x), .int (iI z)] : List Value).toArray wsX9_brightest RX9 := S
  have iX90 : ∀ w ∈ wsX90, w ∈ wsX9_brightest := fun _ h => List.mem_cons_of_mem _ (List.mem_append_right _ (h))
  have hl : lv_has ls 8 [(0, .ref (am 0)), (1, .int (iI y)), (2, .int (iI x)), (3, .int (iI z))] := hl
  have hG : gW K A s.heap [gMdl K am th rw lg mr en pw sl ly dn iz tz nx st tk vl ef ep hO hB ol rm oz, gArr K 95 rw NF, gArr K 60 (am 3) A0, gArrZ K 60 (am 4) A1, gArr K 60 (am 5) A2, gArr K 60 (am 6) A3, gArr K 60 (am 7) A4, gArr K 60 (am 8) A5, gArr K 60 (am 9) A6] s.heap [] := hG
  have n0 := hN.1
  have n3 := hN.2.2.2.1
  refine lv_aload_n S.1 S.2.1 dX9_brightest_0 rfl (lv_at hl 0 rfl) ?_
  refine lv_aload_n S.1 S.2.1 dX9_brightest_1 rfl (lv_at hl 0 rfl) ?_
  refine lv_iload_n S.1 S.2.1 dX9_brightest_2 rfl (lv_at hl 1 rfl) ?_
  refine g_invV (As := [.int (iI y)]) (rest := [.ref (am 0)]) (gs' := (fun u : Unit => [gMdl K am th rw lg mr en pw sl ly dn iz tz nx st tk vl ef ep hO hB ol rm oz, gArr K 95 rw NF, gArr K 60 (am 3) A0, gArrZ K 60 (am 4) A1, gArr K 60 (am 5) A2, gArr K 60 (am 6) A3, gArr K 60 (am 7) A4, gArr K 60 (am 8) A5, gArr K 60 (am 9) A6])) S C hG [0, 1] (c_X9_isLayer l K am th rw lg mr en pw sl ly dn iz tz nx st tk vl ef ep hO hB ol rm oz NF y hN hv) rfl rfl 0 rfl rfl (cwV 1 S.2.2.2.2 gX9_brightest_X9_isLayer rfl rfl rfl (by decide +kernel) ⟨Nat.le_of_ble_eq_true rfl, Nat.le_of_ble_eq_true rfl⟩) rfl hl.1 rfl (Nat.le_of_ble_eq_true rfl) dX9_brightest_3 ⟨Nat.le_of_ble_eq_true rfl, Nat.le_of_ble_eq_true rfl⟩ (fun _ => Nat.le_of_ble_eq_true rfl) (fun _ => rfl) (fun v u H locs hp hG => ?_)
  subst hp
  refine lv_iload_n S.1 S.2.1 dX9_brightest_6 rfl (lv_at hl 3 rfl) ?_
  refine g_invS (As := [.int (iI z)]) (rest := [.int (iI (bI (0 ≤ y ∧ y < NF 0))), .ref (am 0)]) (gs' := (fun u : Unit => [gMdl K am th rw lg mr en pw sl ly dn iz tz nx st tk vl ef ep hO hB ol rm oz, gArr K 95 rw NF, gArr K 60 (am 3) A0, gArrZ K 60 (am 4) A1, gArr K 60 (am 5) A2, gArr K 60 (am 6) A3, gArr K 60 (am 7) A4, gArr K 60 (am 8) A5, gArr K 60 (am 9) A6])) S C hG [] (c_X9_isEnd l K z hz) rfl rfl (va_cwS 1 S.2.2.2.2 gX9_brightest_X9_isEnd rfl rfl rfl (by decide +kernel) ⟨Nat.le_of_ble_eq_true rfl, Nat.le_of_ble_eq_true rfl⟩) rfl hl.1 rfl (Nat.le_of_ble_eq_true rfl) dX9_brightest_7 ⟨Nat.le_of_ble_eq_true rfl, Nat.le_of_ble_eq_true rfl⟩ (fun _ => Nat.le_of_ble_eq_true rfl) (fun _ => rfl) (fun v u H locs hp hG => ?_)
  subst hp
  refine g_invV (As := [.int (iI (bI (0 ≤ y ∧ y < NF 0))), .int (iI (bI (0 ≤ z ∧ z ≤ 3)))]) (rest := []) (gs' := (fun u : Unit => [gMdl K am (thr (bI (0 ≤ y ∧ y < NF 0)) (bI (0 ≤ z ∧ z ≤ 3)) 1) rw lg mr en pw sl ly dn iz tz nx st tk vl ef ep hO hB ol rm oz, gArr K 95 rw NF, gArr K 60 (am 3) A0, gArrZ K 60 (am 4) A1, gArr K 60 (am 5) A2, gArr K 60 (am 6) A3, gArr K 60 (am 7) A4, gArr K 60 (am 8) A5, gArr K 60 (am 9) A6])) S C hG [0] (c_X9_passes2 l K am th rw lg mr en pw sl ly dn iz tz nx st tk vl ef ep hO hB ol rm oz (bI (0 ≤ y ∧ y < NF 0)) (bI (0 ≤ z ∧ z ≤ 3)) (bI_01 _) (bI_01 _)) rfl rfl 0 rfl rfl (cwV 2 S.2.2.2.2 gX9_brightest_X9_passes2 rfl rfl rfl (by decide +kernel) ⟨Nat.le_of_ble_eq_true rfl, Nat.le_of_ble_eq_true rfl⟩) rfl hl.1 rfl (Nat.le_of_ble_eq_true rfl) dX9_brightest_10 ⟨Nat.le_of_ble_eq_true rfl, Nat.le_of_ble_eq_true rfl⟩ (fun _ => Nat.le_of_ble_eq_true rfl) (fun _ => rfl) (fun v u H locs hp hG => ?_)
  subst hp
  refine g_ifne_b (B := ((bI (0 ≤ y ∧ y < NF 0)) = 1 ∧ (bI (0 ≤ z ∧ z ≤ 3)) = 1)) (tgt := 18) S dX9_brightest_13 (by decide) (fun q13 => ?_) (fun q13 => ?_)
  · skip
    have qa := bI1 q13.1
    have qb := bI1 q13.2
    have lb9 := (lay_bd hN qa.1 qa.2).1
    refine g_iconst S dX9_brightest_18 ?_
    refine lv_istore (lv' := [(4, .int (iI (-1))), (0, .ref (am 0)), (1, .int (iI y)), (2, .int (iI x)), (3, .int (iI z))]) S.1 S.2.1 dX9_brightest_19 hl (by decide) rfl (fun ls hl => ?_)
    refine g_ldc2 (z := (-1)) S dX9_brightest_21 (List.mem_of_getElem? (i := 1) rfl) rfl ?_
    refine lv_lstore (lv' := [(5, .long (iL (-1))), (4, .int (iI (-1))), (0, .ref (am 0)), (1, .int (iI y)), (2, .int (iI x)), (3, .int (iI z))]) S.1 S.2.1 dX9_brightest_24 hl (by decide) rfl (fun ls hl => ?_)
    refine g_iconst S dX9_brightest_26 ?_
    refine lv_istore (lv' := [(7, .int (iI 0)), (5, .long (iL (-1))), (4, .int (iI (-1))), (0, .ref (am 0)), (1, .int (iI y)), (2, .int (iI x)), (3, .int (iI z))]) S.1 S.2.1 dX9_brightest_27 hl (by decide) rfl (fun ls hl => ?_)
    have L29 : ∀ (fu : Nat) (w : Int) (bb : Int) (mm : Int) (vv : Int) (lg1 : Int) (mr1 : Int) (en1 : Int) (pw1 : Int) (sl1 : Int) (ly1 : Int) (dn1 : Int) (E0 : Int → Int) (E1 : Int → Int) (E2 : Int → Int) (E3 : Int → Int) (E4 : Int → Int) (E5 : Int → Int) (E6 : Int → Int) (H : Heap) (locs : List Loc) (ls : Array Slot), ((nX NF y - w).toNat) < fu → (0 ≤ w ∧ w ≤ nX NF y) → (BestI NF y x z (scG NF y x 1) True w bb vv) → (-1 ≤ mm ∧ mm ≤ 200000000 ∧ -1 ≤ bb ∧ bb ≤ 4000 ∧ (bb = -1 ∧ mm = -1 ∨ ¬ bb = -1 ∧ mm = vv)) → lv_has ls 8 [(0, .ref (am 0)), (1, .int (iI y)), (2, .int (iI x)), (3, .int (iI z)), (4, .int (iI bb)), (5, .long (iL mm)), (7, .int (iI w))] → gW K A s.heap [gMdl K am (thr (bI (0 ≤ y ∧ y < NF 0)) (bI (0 ≤ z ∧ z ≤ 3)) 1) rw lg1 mr1 en1 pw1 sl1 ly1 dn1 iz tz nx st tk vl ef ep hO hB ol rm oz, gArr K 95 rw NF, gArr K 60 (am 3) E0, gArrZ K 60 (am 4) E1, gArr K 60 (am 5) E2, gArr K 60 (am 6) E3, gArr K 60 (am 7) E4, gArr K 60 (am 8) E5, gArr K 60 (am 9) E6] H locs → W p l e { frames := 5, cells := 0, slots := 0, locals := 114 } s m ([.ref (am 0), .int (iI y), .int (iI x), .int (iI z)] : List Value).toArray below meth c H locs 0 0 Q (F0 m 29 ls []) := by
      intro fu
      induction fu with
      | zero => intro w bb mm vv lg1 mr1 en1 pw1 sl1 ly1 dn1 E0 E1 E2 E3 E4 E5 E6 H locs ls hfu; exact absurd hfu (Nat.not_lt_zero _)
      | succ fu ih =>
        intro w bb mm vv lg1 mr1 en1 pw1 sl1 ly1 dn1 E0 E1 E2 E3 E4 E5 E6 H locs ls hfu hw hBe hm hl hG
        refine lv_iload S.1 S.2.1 dX9_brightest_29 (lv_at hl 6 rfl) ?_
        refine lv_aload_n S.1 S.2.1 dX9_brightest_31 rfl (lv_at hl 0 rfl) ?_
        refine lv_iload_n S.1 S.2.1 dX9_brightest_32 rfl (lv_at hl 1 rfl) ?_
        refine g_iconst S dX9_brightest_33 ?_
        refine g_invV (As := [.int (iI y), .int (iI 0)]) (rest := [.int (iI w)]) (gs' := (fun u : Unit => [gMdl K am (thr (bI (0 ≤ y ∧ y < NF 0)) (bI (0 ≤ z ∧ z ≤ 3)) 1) rw lg1 mr1 en1 pw1 sl1 ly1 dn1 iz tz nx st tk vl ef ep hO hB ol rm oz, gArr K 95 rw NF, gArr K 60 (am 3) E0, gArrZ K 60 (am 4) E1, gArr K 60 (am 5) E2, gArr K 60 (am 6) E3, gArr K 60 (am 7) E4, gArr K 60 (am 8) E5, gArr K 60 (am 9) E6])) S C hG [0, 1] (c_X9_ofLayer l K am (thr (bI (0 ≤ y ∧ y < NF 0)) (bI (0 ≤ z ∧ z ≤ 3)) 1) rw lg1 mr1 en1 pw1 sl1 ly1 dn1 iz tz nx st tk vl ef ep hO hB ol rm oz NF y 0 (by omega) (by decide)) rfl rfl 0 rfl rfl (cwV 2 S.2.2.2.2 gX9_brightest_X9_ofLayer rfl rfl rfl (by decide +kernel) ⟨Nat.le_of_ble_eq_true rfl, Nat.le_of_ble_eq_true rfl⟩) rfl hl.1 rfl (Nat.le_of_ble_eq_true rfl) dX9_brightest_34 ⟨Nat.le_of_ble_eq_true rfl, Nat.le_of_ble_eq_true rfl⟩ (fun _ => Nat.le_of_ble_eq_true rfl) (fun _ => rfl) (fun v u H locs hp hG => ?_)
        subst hp
        refine g_top (w := .int (iI (nX NF y))) (congrArg (fun z : Int => Value.int (iI z)) (rfl)) ?_
        refine g_icmp_ge (tgt := 82) S dX9_brightest_37 (by decide) (by omega) (by omega) (fun q37 => ?_) (fun q37 => ?_)
        · skip
          refine lv_iload S.1 S.2.1 dX9_brightest_82 (lv_at hl 4 rfl) ?_
          have hG : gW K A s.heap [gMdl K am (thr (bI (0 ≤ y ∧ y < NF 0)) (bI (0 ≤ z ∧ z ≤ 3)) 1) rw lg1 mr1 en1 pw1 sl1 ly1 dn1 iz tz nx st tk vl ef ep hO hB ol rm oz, gArr K 95 rw NF, gArr K 60 (am 3) E0, gArrZ K 60 (am 4) E1, gArr K 60 (am 5) E2, gArr K 60 (am 6) E3, gArr K 60 (am 7) E4, gArr K 60 (am 8) E5, gArr K 60 (am 9) E6] _ _ := hG
          exact g_iret S hr hlk hQ dX9_brightest_84 (Nat.le_of_ble_eq_true rfl) (Nat.le_of_ble_eq_true rfl) ((bb, lg1, mr1, en1, pw1, sl1, ly1, dn1, E0, E1, E2, E3, E4, E5, E6) : Int × Int × Int × Int × Int × Int × Int × Int × (Int → Int) × (Int → Int) × (Int → Int) × (Int → Int) × (Int → Int) × (Int → Int) × (Int → Int)) ⟨rfl, (fun _ => ⟨vv, (show w = nX NF y by omega) ▸ hBe⟩)⟩ hG
        · skip
          refine lv_aload_n S.1 S.2.1 dX9_brightest_40 rfl (lv_at hl 0 rfl) ?_
          refine lv_iload_n S.1 S.2.1 dX9_brightest_41 rfl (lv_at hl 1 rfl) ?_
          refine lv_iload_n S.1 S.2.1 dX9_brightest_42 rfl (lv_at hl 2 rfl) ?_
          refine lv_iload S.1 S.2.1 dX9_brightest_43 (lv_at hl 6 rfl) ?_
          refine g_invVv (As := [.int (iI y), .int (iI x), .int (iI w)]) (rest := []) (gs' := (fun u : Int × Int × Int × Int × Int × Int × Int × (Int → Int) × (Int → Int) × (Int → Int) × (Int → Int) × (Int → Int) × (Int → Int) × (Int → Int) => [gMdl K am (thr (bI (0 ≤ y ∧ y < NF 0)) (bI (0 ≤ z ∧ z ≤ 3)) 1) rw u.1 u.2.1 u.2.2.1 u.2.2.2.1 u.2.2.2.2.1 u.2.2.2.2.2.1 u.2.2.2.2.2.2.1 iz tz nx st tk vl ef ep hO hB ol rm oz, gArr K 95 rw NF, gArr K 60 (am 3) u.2.2.2.2.2.2.2.1, gArrZ K 60 (am 4) u.2.2.2.2.2.2.2.2.1, gArr K 60 (am 5) u.2.2.2.2.2.2.2.2.2.1, gArr K 60 (am 6) u.2.2.2.2.2.2.2.2.2.2.1, gArr K 60 (am 7) u.2.2.2.2.2.2.2.2.2.2.2.1, gArr K 60 (am 8) u.2.2.2.2.2.2.2.2.2.2.2.2.1, gArr K 60 (am 9) u.2.2.2.2.2.2.2.2.2.2.2.2.2])) S C hG [0, 1, 2, 3, 4, 5, 6, 7, 8] (c_X9_follow l K am (thr (bI (0 ≤ y ∧ y < NF 0)) (bI (0 ≤ z ∧ z ≤ 3)) 1) rw lg1 mr1 en1 pw1 sl1 ly1 dn1 iz tz nx st tk vl ef ep hO hB ol rm oz NF E0 E1 E2 E3 E4 E5 E6 y x w hN hv (by omega) hx) rfl rfl 0 rfl rfl (cwV 3 S.2.2.2.2 gX9_brightest_X9_follow rfl rfl rfl (by decide +kernel) ⟨Nat.le_of_ble_eq_true rfl, Nat.le_of_ble_eq_true rfl⟩) rfl hl.1 rfl (Nat.le_of_ble_eq_true rfl) dX9_brightest_45 ⟨Nat.le_of_ble_eq_true rfl, Nat.le_of_ble_eq_true rfl⟩ (fun _ => Nat.le_of_ble_eq_true rfl) (fun _ => rfl) (fun u H locs hp hG => ?_)
          obtain ⟨lg2_45, mr2_45, en2_45, pw2_45, sl2_45, ly2_45, dn2_45, B0_45, B1_45, B2_45, B3_45, B4_45, B5_45, B6_45⟩ := u
          have hf_45 := hp
          have hf_45 : FolR NF w y x lg2_45 mr2_45 en2_45 pw2_45 B0_45 B1_45 B2_45 B3_45 B4_45 B5_45 B6_45 := hf_45
          have hG : gW K A s.heap [gMdl K am (thr (bI (0 ≤ y ∧ y < NF 0)) (bI (0 ≤ z ∧ z ≤ 3)) 1) rw lg2_45 mr2_45 en2_45 pw2_45 sl2_45 ly2_45 dn2_45 iz tz nx st tk vl ef ep hO hB ol rm oz, gArr K 95 rw NF, gArr K 60 (am 3) B0_45, gArrZ K 60 (am 4) B1_45, gArr K 60 (am 5) B2_45, gArr K 60 (am 6) B3_45, gArr K 60 (am 7) B4_45, gArr K 60 (am 8) B5_45, gArr K 60 (am 9) B6_45] _ _ := hG
          have fb := hf_45.bd hN hw.1 hx
          have f3 := hf_45.2.2.1
          have sb9 := shF_bd hN hw.1 hx (y := y)
          have f4 := hf_45.2.2.2.1
          refine lv_aload_n S.1 S.2.1 dX9_brightest_48 rfl (lv_at hl 0 rfl) ?_
          refine g_get S C hG iX90 0 rfl rfl 13 (by decide) (List.mem_of_getElem? (i := 2) rfl) rfl dX9_brightest_49 ?_
          refine lv_iload_n S.1 S.2.1 dX9_brightest_52 rfl (lv_at hl 3 rfl) ?_
          refine g_icmp_ne (tgt := 76) S dX9_brightest_53 (by decide) (by omega) (by omega) (fun q53 => ?_) (fun q53 => ?_)
          · skip
            refine lv_iinc (v := iI (w + 1)) (lv' := [(7, .int (iI (w + 1))), (0, .ref (am 0)), (1, .int (iI y)), (2, .int (iI x)), (3, .int (iI z)), (4, .int (iI bb)), (5, .long (iL mm))]) S.1 S.2.1 dX9_brightest_76 hl (k := 6) rfl (g_iinc rfl) (by decide) rfl (fun ls hl => ?_)
            refine lv_goto (tgt := 29) S.1 S.2.1 dX9_brightest_79 (by decide) ?_
            exact ih (w + 1) bb mm vv lg2_45 mr2_45 en2_45 pw2_45 sl2_45 ly2_45 dn2_45 B0_45 B1_45 B2_45 B3_45 B4_45 B5_45 B6_45 _ _ _ (by omega) (by omega) (hBe.pass (by rw [← f3] <;> exact q53)) hm (lv_sub hl [1, 2, 3, 4, 5, 6, 0] rfl) hG
          · skip
            refine lv_aload_n S.1 S.2.1 dX9_brightest_56 rfl (lv_at hl 0 rfl) ?_
            refine g_get S C hG iX90 0 rfl rfl 14 (by decide) (List.mem_of_getElem? (i := 3) rfl) rfl dX9_brightest_57 ?_
            refine lv_lload S.1 S.2.1 dX9_brightest_60 (lv_at hl 5 rfl) ?_
            refine g_lcmp S dX9_brightest_62 (by omega) (by omega) ?_
            refine g_if_le (tgt := 76) S dX9_brightest_63 (by decide) (by omega) (fun q63 => ?_) (fun q63 => ?_)
            · skip
              refine lv_iinc (v := iI (w + 1)) (lv' := [(7, .int (iI (w + 1))), (0, .ref (am 0)), (1, .int (iI y)), (2, .int (iI x)), (3, .int (iI z)), (4, .int (iI bb)), (5, .long (iL mm))]) S.1 S.2.1 dX9_brightest_76 hl (k := 6) rfl (g_iinc rfl) (by decide) rfl (fun ls hl => ?_)
              refine lv_goto (tgt := 29) S.1 S.2.1 dX9_brightest_79 (by decide) ?_
              exact ih (w + 1) bb mm vv lg2_45 mr2_45 en2_45 pw2_45 sl2_45 ly2_45 dn2_45 B0_45 B1_45 B2_45 B3_45 B4_45 B5_45 B6_45 _ _ _ (by omega) (by omega) (hBe.stay (fun z9 => by omega) (by show ¬ vv < pwF NF w y x <;> omega)) hm (lv_sub hl [1, 2, 3, 4, 5, 6, 0] rfl) hG
            · skip
              refine lv_iload S.1 S.2.1 dX9_brightest_66 (lv_at hl 6 rfl) ?_
              refine lv_istore (lv' := [(4, .int (iI w)), (0, .ref (am 0)), (1, .int (iI y)), (2, .int (iI x)), (3, .int (iI z)), (5, .long (iL mm)), (7, .int (iI w))]) S.1 S.2.1 dX9_brightest_68 hl (by decide) rfl (fun ls hl => ?_)
              refine lv_aload_n S.1 S.2.1 dX9_brightest_70 rfl (lv_at hl 1 rfl) ?_
              refine g_get S C hG iX90 0 rfl rfl 14 (by decide) (List.mem_of_getElem? (i := 3) rfl) rfl dX9_brightest_71 ?_
              refine lv_lstore (lv' := [(5, .long (iL pw2_45)), (4, .int (iI w)), (0, .ref (am 0)), (1, .int (iI y)), (2, .int (iI x)), (3, .int (iI z)), (7, .int (iI w))]) S.1 S.2.1 dX9_brightest_74 hl (by decide) rfl (fun ls hl => ?_)
              refine lv_iinc (v := iI (w + 1)) (lv' := [(7, .int (iI (w + 1))), (5, .long (iL pw2_45)), (4, .int (iI w)), (0, .ref (am 0)), (1, .int (iI y)), (2, .int (iI x)), (3, .int (iI z))]) S.1 S.2.1 dX9_brightest_76 hl (k := 6) rfl (g_iinc rfl) (by decide) rfl (fun ls hl => ?_)
              refine lv_goto (tgt := 29) S.1 S.2.1 dX9_brightest_79 (by decide) ?_
              exact ih (w + 1) w pw2_45 (pwF NF w y x) lg2_45 mr2_45 en2_45 pw2_45 sl2_45 ly2_45 dn2_45 B0_45 B1_45 B2_45 B3_45 B4_45 B5_45 B6_45 _ _ _ (by omega) (by omega) (hBe.tk1 hw.1 (by rw [← f3] <;> omega) (by show bb = -1 ∨ vv < pwF NF w y x <;> omega)) (by omega) (lv_sub hl [3, 4, 5, 6, 2, 1, 0] rfl) hG
    exact L29 (Nat.succ ((nX NF y - 0).toNat)) 0 (-1) (-1) 0 lg mr en pw sl ly dn A0 A1 A2 A3 A4 A5 A6 _ _ _ (Nat.lt_succ_self _) ⟨by omega, by omega⟩ (Or.inl ⟨rfl, fun p a b => by omega⟩) (by omega) (lv_sub hl [3, 4, 5, 6, 2, 1, 0] rfl) hG
  · skip
    refine g_iconst S dX9_brightest_16 ?_
    have hG : gW K A s.heap [gMdl K am (thr (bI (0 ≤ y ∧ y < NF 0)) (bI (0 ≤ z ∧ z ≤ 3)) 1) rw lg mr en pw sl ly dn iz tz nx st tk vl ef ep hO hB ol rm oz, gArr K 95 rw NF, gArr K 60 (am 3) A0, gArrZ K 60 (am 4) A1, gArr K 60 (am 5) A2, gArr K 60 (am 6) A3, gArr K 60 (am 7) A4, gArr K 60 (am 8) A5, gArr K 60 (am 9) A6] _ _ := hG
    exact g_iret S hr hlk hQ dX9_brightest_17 (Nat.le_of_ble_eq_true rfl) (Nat.le_of_ble_eq_true rfl) ((0, lg, mr, en, pw, sl, ly, dn, A0, A1, A2, A3, A4, A5, A6) : Int × Int × Int × Int × Int × Int × Int × Int × (Int → Int) × (Int → Int) × (Int → Int) × (Int → Int) × (Int → Int) × (Int → Int) × (Int → Int)) ⟨rfl, (fun h => absurd ⟨bI_t h.1, bI_t h.2⟩ q13)⟩ hG

set_option maxHeartbeats 1000000 in
set_option maxRecDepth 100000 in
theorem c_X9_farthest (l : Launch) (K : KC) (am : Nat → Nat) (th : Int) (rw : Nat) (lg : Int) (mr : Int) (en : Int) (pw : Int) (sl : Int) (ly : Int) (dn : Int) (iz : Int) (tz : Int) (nx : Int) (st : Int) (tk : Int) (vl : Int) (ef : Int) (ep : Int) (hO : Int) (hB : Int) (ol : Int) (rm : Int) (oz : Int) (NF : Int → Int) (A0 : Int → Int) (A1 : Int → Int) (A2 : Int → Int) (A3 : Int → Int) (A4 : Int → Int) (A5 : Int → Int) (A6 : Int → Int) (y : Int) (x : Int) (z : Int) (hN : NOk0 NF) (hv : -2147483648 ≤ y ∧ y < 2147483648) (hx : x = 0 ∨ x = 1) (hz : -2147483648 ≤ z ∧ z < 2147483648) : mG l yX9_farthest wsX9_farthest 5 114 K [.ref (am 0), .int (iI y), .int (iI x), .int (iI z)] [gMdl K am th rw lg mr en pw sl ly dn iz tz nx st tk vl ef ep hO hB ol rm oz, gArr K 95 rw NF, gArr K 60 (am 3) A0, gArrZ K 60 (am 4) A1, gArr K 60 (am 5) A2, gArr K 60 (am 6) A3, gArr K 60 (am 7) A4, gArr K 60 (am 8) A5, gArr K 60 (am 9) A6] (fun (v : Value) (u : Int × Int × Int × Int × Int × Int × Int × Int × (Int → Int) × (Int → Int) × (Int → Int) × (Int → Int) × (Int → Int) × (Int → Int) × (Int → Int)) => (v = .int (iI u.1)) ∧ ((0 ≤ y ∧ y < NF 0) ∧ (0 ≤ z ∧ z ≤ 3) → FarR NF y x z (nX NF y) u.1)) (fun (u : Int × Int × Int × Int × Int × Int × Int × Int × (Int → Int) × (Int → Int) × (Int → Int) × (Int → Int) × (Int → Int) × (Int → Int) × (Int → Int)) => [gMdl K am (thr (bI (0 ≤ y ∧ y < NF 0)) (bI (0 ≤ z ∧ z ≤ 3)) 1) rw u.2.1 u.2.2.1 u.2.2.2.1 u.2.2.2.2.1 u.2.2.2.2.2.1 u.2.2.2.2.2.2.1 u.2.2.2.2.2.2.2.1 iz tz nx st tk vl ef ep hO hB ol rm oz, gArr K 95 rw NF, gArr K 60 (am 3) u.2.2.2.2.2.2.2.2.1, gArrZ K 60 (am 4) u.2.2.2.2.2.2.2.2.2.1, gArr K 60 (am 5) u.2.2.2.2.2.2.2.2.2.2.1, gArr K 60 (am 6) u.2.2.2.2.2.2.2.2.2.2.2.1, gArr K 60 (am 7) u.2.2.2.2.2.2.2.2.2.2.2.2.1, gArr K 60 (am 8) u.2.2.2.2.2.2.2.2.2.2.2.2.2.1, gArr K 60 (am 9) u.2.2.2.2.2.2.2.2.2.2.2.2.2.2]) 0 0 := by
  refine mG_of cX9_farthest 6 (by decide) rfl (Nat.le_of_ble_eq_true rfl) ?_
  intro p e s m below meth c A ls Q S C hG hl hr hlk hin hQ
  have S : CallFix p m c cX9_farthest 6 s ([.ref (am 0), .int (iI y), .int (iI x), .int (iI z)] : List Value).toArray wsX9_farthest RX9 := S
  have iX90 : ∀ w ∈ wsX90, w ∈ wsX9_farthest := fun _ h => List.mem_cons_of_mem _ (List.mem_append_right _ (h))
  have hl : lv_has ls 6 [(0, .ref (am 0)), (1, .int (iI y)), (2, .int (iI x)), (3, .int (iI z))] := hl
  have hG : gW K A s.heap [gMdl K am th rw lg mr en pw sl ly dn iz tz nx st tk vl ef ep hO hB ol rm oz, gArr K 95 rw NF, gArr K 60 (am 3) A0, gArrZ K 60 (am 4) A1, gArr K 60 (am 5) A2, gArr K 60 (am 6) A3, gArr K 60 (am 7) A4, gArr K 60 (am 8) A5, gArr K 60 (am 9) A6] s.heap [] := hG
  have n0 := hN.1
  have n3 := hN.2.2.2.1
  refine lv_aload_n S.1 S.2.1 dX9_farthest_0 rfl (lv_at hl 0 rfl) ?_
  refine lv_aload_n S.1 S.2.1 dX9_farthest_1 rfl (lv_at hl 0 rfl) ?_
  refine lv_iload_n S.1 S.2.1 dX9_farthest_2 rfl (lv_at hl 1 rfl) ?_
  refine g_invV (As := [.int (iI y)]) (rest := [.ref (am 0)]) (gs' := (fun u : Unit => [gMdl K am th rw lg mr en pw sl ly dn iz tz nx st tk vl ef ep hO hB ol rm oz, gArr K 95 rw NF, gArr K 60 (am 3) A0, gArrZ K 60 (am 4) A1, gArr K 60 (am 5) A2, gArr K 60 (am 6) A3, gArr K 60 (am 7) A4, gArr K 60 (am 8) A5, gArr K 60 (am 9) A6])) S C hG [0, 1] (c_X9_isLayer l K am th rw lg mr en pw sl ly dn iz tz nx st tk vl ef ep hO hB ol rm oz NF y hN hv) rfl rfl 0 rfl rfl (cwV 1 S.2.2.2.2 gX9_farthest_X9_isLayer rfl rfl rfl (by decide +kernel) ⟨Nat.le_of_ble_eq_true rfl, Nat.le_of_ble_eq_true rfl⟩) rfl hl.1 rfl (Nat.le_of_ble_eq_true rfl) dX9_farthest_3 ⟨Nat.le_of_ble_eq_true rfl, Nat.le_of_ble_eq_true rfl⟩ (fun _ => Nat.le_of_ble_eq_true rfl) (fun _ => rfl) (fun v u H locs hp hG => ?_)
  subst hp
  refine lv_iload_n S.1 S.2.1 dX9_farthest_6 rfl (lv_at hl 3 rfl) ?_
  refine g_invS (As := [.int (iI z)]) (rest := [.int (iI (bI (0 ≤ y ∧ y < NF 0))), .ref (am 0)]) (gs' := (fun u : Unit => [gMdl K am th rw lg mr en pw sl ly dn iz tz nx st tk vl ef ep hO hB ol rm oz, gArr K 95 rw NF, gArr K 60 (am 3) A0, gArrZ K 60 (am 4) A1, gArr K 60 (am 5) A2, gArr K 60 (am 6) A3, gArr K 60 (am 7) A4, gArr K 60 (am 8) A5, gArr K 60 (am 9) A6])) S C hG [] (c_X9_isEnd l K z hz) rfl rfl (va_cwS 1 S.2.2.2.2 gX9_farthest_X9_isEnd rfl rfl rfl (by decide +kernel) ⟨Nat.le_of_ble_eq_true rfl, Nat.le_of_ble_eq_true rfl⟩) rfl hl.1 rfl (Nat.le_of_ble_eq_true rfl) dX9_farthest_7 ⟨Nat.le_of_ble_eq_true rfl, Nat.le_of_ble_eq_true rfl⟩ (fun _ => Nat.le_of_ble_eq_true rfl) (fun _ => rfl) (fun v u H locs hp hG => ?_)
  subst hp
  refine g_invV (As := [.int (iI (bI (0 ≤ y ∧ y < NF 0))), .int (iI (bI (0 ≤ z ∧ z ≤ 3)))]) (rest := []) (gs' := (fun u : Unit => [gMdl K am (thr (bI (0 ≤ y ∧ y < NF 0)) (bI (0 ≤ z ∧ z ≤ 3)) 1) rw lg mr en pw sl ly dn iz tz nx st tk vl ef ep hO hB ol rm oz, gArr K 95 rw NF, gArr K 60 (am 3) A0, gArrZ K 60 (am 4) A1, gArr K 60 (am 5) A2, gArr K 60 (am 6) A3, gArr K 60 (am 7) A4, gArr K 60 (am 8) A5, gArr K 60 (am 9) A6])) S C hG [0] (c_X9_passes2 l K am th rw lg mr en pw sl ly dn iz tz nx st tk vl ef ep hO hB ol rm oz (bI (0 ≤ y ∧ y < NF 0)) (bI (0 ≤ z ∧ z ≤ 3)) (bI_01 _) (bI_01 _)) rfl rfl 0 rfl rfl (cwV 2 S.2.2.2.2 gX9_farthest_X9_passes2 rfl rfl rfl (by decide +kernel) ⟨Nat.le_of_ble_eq_true rfl, Nat.le_of_ble_eq_true rfl⟩) rfl hl.1 rfl (Nat.le_of_ble_eq_true rfl) dX9_farthest_10 ⟨Nat.le_of_ble_eq_true rfl, Nat.le_of_ble_eq_true rfl⟩ (fun _ => Nat.le_of_ble_eq_true rfl) (fun _ => rfl) (fun v u H locs hp hG => ?_)
  subst hp
  refine g_ifne_b (B := ((bI (0 ≤ y ∧ y < NF 0)) = 1 ∧ (bI (0 ≤ z ∧ z ≤ 3)) = 1)) (tgt := 18) S dX9_farthest_13 (by decide) (fun q13 => ?_) (fun q13 => ?_)
  · skip
    have qa := bI1 q13.1
    have qb := bI1 q13.2
    have lb9 := (lay_bd hN qa.1 qa.2).1
    refine g_iconst S dX9_farthest_18 ?_
    refine lv_istore (lv' := [(4, .int (iI (-1))), (0, .ref (am 0)), (1, .int (iI y)), (2, .int (iI x)), (3, .int (iI z))]) S.1 S.2.1 dX9_farthest_19 hl (by decide) rfl (fun ls hl => ?_)
    refine g_iconst S dX9_farthest_21 ?_
    refine lv_istore (lv' := [(5, .int (iI 0)), (4, .int (iI (-1))), (0, .ref (am 0)), (1, .int (iI y)), (2, .int (iI x)), (3, .int (iI z))]) S.1 S.2.1 dX9_farthest_22 hl (by decide) rfl (fun ls hl => ?_)
    have L24 : ∀ (fu : Nat) (w : Int) (mm : Int) (lg1 : Int) (mr1 : Int) (en1 : Int) (pw1 : Int) (sl1 : Int) (ly1 : Int) (dn1 : Int) (E0 : Int → Int) (E1 : Int → Int) (E2 : Int → Int) (E3 : Int → Int) (E4 : Int → Int) (E5 : Int → Int) (E6 : Int → Int) (H : Heap) (locs : List Loc) (ls : Array Slot), ((nX NF y - w).toNat) < fu → (0 ≤ w ∧ w ≤ nX NF y) → (FarR NF y x z w mm) → (-1 ≤ mm ∧ mm ≤ 200000000) → lv_has ls 6 [(0, .ref (am 0)), (1, .int (iI y)), (2, .int (iI x)), (3, .int (iI z)), (4, .int (iI mm)), (5, .int (iI w))] → gW K A s.heap [gMdl K am (thr (bI (0 ≤ y ∧ y < NF 0)) (bI (0 ≤ z ∧ z ≤ 3)) 1) rw lg1 mr1 en1 pw1 sl1 ly1 dn1 iz tz nx st tk vl ef ep hO hB ol rm oz, gArr K 95 rw NF, gArr K 60 (am 3) E0, gArrZ K 60 (am 4) E1, gArr K 60 (am 5) E2, gArr K 60 (am 6) E3, gArr K 60 (am 7) E4, gArr K 60 (am 8) E5, gArr K 60 (am 9) E6] H locs → W p l e { frames := 5, cells := 0, slots := 0, locals := 114 } s m ([.ref (am 0), .int (iI y), .int (iI x), .int (iI z)] : List Value).toArray below meth c H locs 0 0 Q (F0 m 24 ls []) := by
      intro fu
      induction fu with
      | zero => intro w mm lg1 mr1 en1 pw1 sl1 ly1 dn1 E0 E1 E2 E3 E4 E5 E6 H locs ls hfu; exact absurd hfu (Nat.not_lt_zero _)
      | succ fu ih =>
        intro w mm lg1 mr1 en1 pw1 sl1 ly1 dn1 E0 E1 E2 E3 E4 E5 E6 H locs ls hfu hw hBe hm hl hG
        refine lv_iload S.1 S.2.1 dX9_farthest_24 (lv_at hl 5 rfl) ?_
        refine lv_aload_n S.1 S.2.1 dX9_farthest_26 rfl (lv_at hl 0 rfl) ?_
        refine lv_iload_n S.1 S.2.1 dX9_farthest_27 rfl (lv_at hl 1 rfl) ?_
        refine g_iconst S dX9_farthest_28 ?_
        refine g_invV (As := [.int (iI y), .int (iI 0)]) (rest := [.int (iI w)]) (gs' := (fun u : Unit => [gMdl K am (thr (bI (0 ≤ y ∧ y < NF 0)) (bI (0 ≤ z ∧ z ≤ 3)) 1) rw lg1 mr1 en1 pw1 sl1 ly1 dn1 iz tz nx st tk vl ef ep hO hB ol rm oz, gArr K 95 rw NF, gArr K 60 (am 3) E0, gArrZ K 60 (am 4) E1, gArr K 60 (am 5) E2, gArr K 60 (am 6) E3, gArr K 60 (am 7) E4, gArr K 60 (am 8) E5, gArr K 60 (am 9) E6])) S C hG [0, 1] (c_X9_ofLayer l K am (thr (bI (0 ≤ y ∧ y < NF 0)) (bI (0 ≤ z ∧ z ≤ 3)) 1) rw lg1 mr1 en1 pw1 sl1 ly1 dn1 iz tz nx st tk vl ef ep hO hB ol rm oz NF y 0 (by omega) (by decide)) rfl rfl 0 rfl rfl (cwV 2 S.2.2.2.2 gX9_farthest_X9_ofLayer rfl rfl rfl (by decide +kernel) ⟨Nat.le_of_ble_eq_true rfl, Nat.le_of_ble_eq_true rfl⟩) rfl hl.1 rfl (Nat.le_of_ble_eq_true rfl) dX9_farthest_29 ⟨Nat.le_of_ble_eq_true rfl, Nat.le_of_ble_eq_true rfl⟩ (fun _ => Nat.le_of_ble_eq_true rfl) (fun _ => rfl) (fun v u H locs hp hG => ?_)
        subst hp
        refine g_top (w := .int (iI (nX NF y))) (congrArg (fun z : Int => Value.int (iI z)) (rfl)) ?_
        refine g_icmp_ge (tgt := 80) S dX9_farthest_32 (by decide) (by omega) (by omega) (fun q32 => ?_) (fun q32 => ?_)
        · skip
          refine lv_iload S.1 S.2.1 dX9_farthest_80 (lv_at hl 4 rfl) ?_
          have hG : gW K A s.heap [gMdl K am (thr (bI (0 ≤ y ∧ y < NF 0)) (bI (0 ≤ z ∧ z ≤ 3)) 1) rw lg1 mr1 en1 pw1 sl1 ly1 dn1 iz tz nx st tk vl ef ep hO hB ol rm oz, gArr K 95 rw NF, gArr K 60 (am 3) E0, gArrZ K 60 (am 4) E1, gArr K 60 (am 5) E2, gArr K 60 (am 6) E3, gArr K 60 (am 7) E4, gArr K 60 (am 8) E5, gArr K 60 (am 9) E6] _ _ := hG
          exact g_iret S hr hlk hQ dX9_farthest_82 (Nat.le_of_ble_eq_true rfl) (Nat.le_of_ble_eq_true rfl) ((mm, lg1, mr1, en1, pw1, sl1, ly1, dn1, E0, E1, E2, E3, E4, E5, E6) : Int × Int × Int × Int × Int × Int × Int × Int × (Int → Int) × (Int → Int) × (Int → Int) × (Int → Int) × (Int → Int) × (Int → Int) × (Int → Int)) ⟨rfl, (fun _ => (show w = nX NF y by omega) ▸ hBe)⟩ hG
        · skip
          refine lv_aload_n S.1 S.2.1 dX9_farthest_35 rfl (lv_at hl 0 rfl) ?_
          refine lv_iload_n S.1 S.2.1 dX9_farthest_36 rfl (lv_at hl 1 rfl) ?_
          refine lv_iload_n S.1 S.2.1 dX9_farthest_37 rfl (lv_at hl 2 rfl) ?_
          refine lv_iload S.1 S.2.1 dX9_farthest_38 (lv_at hl 5 rfl) ?_
          refine g_invVv (As := [.int (iI y), .int (iI x), .int (iI w)]) (rest := []) (gs' := (fun u : Int × Int × Int × Int × Int × Int × Int × (Int → Int) × (Int → Int) × (Int → Int) × (Int → Int) × (Int → Int) × (Int → Int) × (Int → Int) => [gMdl K am (thr (bI (0 ≤ y ∧ y < NF 0)) (bI (0 ≤ z ∧ z ≤ 3)) 1) rw u.1 u.2.1 u.2.2.1 u.2.2.2.1 u.2.2.2.2.1 u.2.2.2.2.2.1 u.2.2.2.2.2.2.1 iz tz nx st tk vl ef ep hO hB ol rm oz, gArr K 95 rw NF, gArr K 60 (am 3) u.2.2.2.2.2.2.2.1, gArrZ K 60 (am 4) u.2.2.2.2.2.2.2.2.1, gArr K 60 (am 5) u.2.2.2.2.2.2.2.2.2.1, gArr K 60 (am 6) u.2.2.2.2.2.2.2.2.2.2.1, gArr K 60 (am 7) u.2.2.2.2.2.2.2.2.2.2.2.1, gArr K 60 (am 8) u.2.2.2.2.2.2.2.2.2.2.2.2.1, gArr K 60 (am 9) u.2.2.2.2.2.2.2.2.2.2.2.2.2])) S C hG [0, 1, 2, 3, 4, 5, 6, 7, 8] (c_X9_follow l K am (thr (bI (0 ≤ y ∧ y < NF 0)) (bI (0 ≤ z ∧ z ≤ 3)) 1) rw lg1 mr1 en1 pw1 sl1 ly1 dn1 iz tz nx st tk vl ef ep hO hB ol rm oz NF E0 E1 E2 E3 E4 E5 E6 y x w hN hv (by omega) hx) rfl rfl 0 rfl rfl (cwV 3 S.2.2.2.2 gX9_farthest_X9_follow rfl rfl rfl (by decide +kernel) ⟨Nat.le_of_ble_eq_true rfl, Nat.le_of_ble_eq_true rfl⟩) rfl hl.1 rfl (Nat.le_of_ble_eq_true rfl) dX9_farthest_40 ⟨Nat.le_of_ble_eq_true rfl, Nat.le_of_ble_eq_true rfl⟩ (fun _ => Nat.le_of_ble_eq_true rfl) (fun _ => rfl) (fun u H locs hp hG => ?_)
          obtain ⟨lg2_40, mr2_40, en2_40, pw2_40, sl2_40, ly2_40, dn2_40, B0_40, B1_40, B2_40, B3_40, B4_40, B5_40, B6_40⟩ := u
          have hf_40 := hp
          have hf_40 : FolR NF w y x lg2_40 mr2_40 en2_40 pw2_40 B0_40 B1_40 B2_40 B3_40 B4_40 B5_40 B6_40 := hf_40
          have hG : gW K A s.heap [gMdl K am (thr (bI (0 ≤ y ∧ y < NF 0)) (bI (0 ≤ z ∧ z ≤ 3)) 1) rw lg2_40 mr2_40 en2_40 pw2_40 sl2_40 ly2_40 dn2_40 iz tz nx st tk vl ef ep hO hB ol rm oz, gArr K 95 rw NF, gArr K 60 (am 3) B0_40, gArrZ K 60 (am 4) B1_40, gArr K 60 (am 5) B2_40, gArr K 60 (am 6) B3_40, gArr K 60 (am 7) B4_40, gArr K 60 (am 8) B5_40, gArr K 60 (am 9) B6_40] _ _ := hG
          have fb := hf_40.bd hN hw.1 hx
          have f3 := hf_40.2.2.1
          have sb9 := shF_bd hN hw.1 hx (y := y)
          refine lv_aload_n S.1 S.2.1 dX9_farthest_43 rfl (lv_at hl 0 rfl) ?_
          refine g_get S C hG iX90 0 rfl rfl 13 (by decide) (List.mem_of_getElem? (i := 1) rfl) rfl dX9_farthest_44 ?_
          refine lv_iload_n S.1 S.2.1 dX9_farthest_47 rfl (lv_at hl 3 rfl) ?_
          refine g_icmp_ne (tgt := 70) S dX9_farthest_48 (by decide) (by omega) (by omega) (fun q48 => ?_) (fun q48 => ?_)
          · skip
            refine lv_iload S.1 S.2.1 dX9_farthest_70 (lv_at hl 4 rfl) ?_
            refine lv_istore (lv' := [(4, .int (iI mm)), (0, .ref (am 0)), (1, .int (iI y)), (2, .int (iI x)), (3, .int (iI z)), (5, .int (iI w))]) S.1 S.2.1 dX9_farthest_72 hl (by decide) rfl (fun ls hl => ?_)
            refine lv_iinc (v := iI (w + 1)) (lv' := [(5, .int (iI (w + 1))), (4, .int (iI mm)), (0, .ref (am 0)), (1, .int (iI y)), (2, .int (iI x)), (3, .int (iI z))]) S.1 S.2.1 dX9_farthest_74 hl (k := 5) rfl (g_iinc rfl) (by decide) rfl (fun ls hl => ?_)
            refine lv_goto (tgt := 24) S.1 S.2.1 dX9_farthest_77 (by decide) ?_
            exact ih (w + 1) mm lg2_40 mr2_40 en2_40 pw2_40 sl2_40 ly2_40 dn2_40 B0_40 B1_40 B2_40 B3_40 B4_40 B5_40 B6_40 _ _ _ (by omega) (by omega) (hBe.pass (by rw [← f3] <;> exact q48)) hm (lv_sub hl [2, 3, 4, 5, 1, 0] rfl) hG
          · skip
            refine lv_iload S.1 S.2.1 dX9_farthest_51 (lv_at hl 4 rfl) ?_
            refine lv_aload_n S.1 S.2.1 dX9_farthest_53 rfl (lv_at hl 0 rfl) ?_
            refine g_get S C hG iX90 0 rfl rfl 6 (by decide) (List.mem_of_getElem? (i := 2) rfl) rfl dX9_farthest_54 ?_
            refine lv_aload_n S.1 S.2.1 dX9_farthest_57 rfl (lv_at hl 0 rfl) ?_
            refine g_get S C hG iX90 0 rfl rfl 11 (by decide) (List.mem_of_getElem? (i := 3) rfl) rfl dX9_farthest_58 ?_
            refine g_invS (As := [.ref (am 5), .int (iI lg2_40)]) (rest := [.int (iI mm)]) (gs' := (fun u : Unit => [gMdl K am (thr (bI (0 ≤ y ∧ y < NF 0)) (bI (0 ≤ z ∧ z ≤ 3)) 1) rw lg2_40 mr2_40 en2_40 pw2_40 sl2_40 ly2_40 dn2_40 iz tz nx st tk vl ef ep hO hB ol rm oz, gArr K 95 rw NF, gArr K 60 (am 3) B0_40, gArrZ K 60 (am 4) B1_40, gArr K 60 (am 5) B2_40, gArr K 60 (am 6) B3_40, gArr K 60 (am 7) B4_40, gArr K 60 (am 8) B5_40, gArr K 60 (am 9) B6_40])) S C hG [4] (c_X9_sumUp l K (am 5) B2_40 lg2_40 fb.1) rfl rfl (va_cwS 2 S.2.2.2.2 gX9_farthest_X9_sumUp rfl rfl rfl (by decide +kernel) ⟨Nat.le_of_ble_eq_true rfl, Nat.le_of_ble_eq_true rfl⟩) rfl hl.1 rfl (Nat.le_of_ble_eq_true rfl) dX9_farthest_61 ⟨Nat.le_of_ble_eq_true rfl, Nat.le_of_ble_eq_true rfl⟩ (fun _ => Nat.le_of_ble_eq_true rfl) (fun _ => rfl) (fun v u H locs hp hG => ?_)
            subst hp
            refine g_top (w := .int (iI (shF NF w y x))) (congrArg (fun z : Int => Value.int (iI z)) (hf_40.s2)) ?_
            refine va_mmax S.1 S.2.1 (by rw [S.2.2.1]; exact hl.1.symm) S.2.2.2.1 (S.2.2.2.2 _ (List.mem_of_getElem? (i := 4) rfl)) (S.2.2.2.2 _ (List.mem_of_getElem? (i := 5) rfl)) (S.2.2.2.2 _ (List.mem_of_getElem? (i := 6) rfl)) (S.2.2.2.2 _ (List.mem_of_getElem? (i := 7) rfl)) (Nat.le_of_ble_eq_true rfl) (Nat.le_of_ble_eq_true rfl) (Nat.le_of_ble_eq_true rfl) (Nat.le_of_ble_eq_true rfl) dX9_farthest_64 ?_
            refine g_top (w := .int (iI (max mm (shF NF w y x)))) (imax_eq (by omega) (by omega)) ?_
            refine lv_goto (tgt := 72) S.1 S.2.1 dX9_farthest_67 (by decide) ?_
            refine lv_istore (lv' := [(4, .int (iI (max mm (shF NF w y x)))), (0, .ref (am 0)), (1, .int (iI y)), (2, .int (iI x)), (3, .int (iI z)), (5, .int (iI w))]) S.1 S.2.1 dX9_farthest_72 hl (by decide) rfl (fun ls hl => ?_)
            refine lv_iinc (v := iI (w + 1)) (lv' := [(5, .int (iI (w + 1))), (4, .int (iI (max mm (shF NF w y x)))), (0, .ref (am 0)), (1, .int (iI y)), (2, .int (iI x)), (3, .int (iI z))]) S.1 S.2.1 dX9_farthest_74 hl (k := 5) rfl (g_iinc rfl) (by decide) rfl (fun ls hl => ?_)
            refine lv_goto (tgt := 24) S.1 S.2.1 dX9_farthest_77 (by decide) ?_
            exact ih (w + 1) (max mm (shF NF w y x)) lg2_40 mr2_40 en2_40 pw2_40 sl2_40 ly2_40 dn2_40 B0_40 B1_40 B2_40 B3_40 B4_40 B5_40 B6_40 _ _ _ (by omega) (by omega) (hBe.max hN hw.1 hx (by rw [← f3] <;> omega)) (by omega) (lv_sub hl [2, 3, 4, 5, 1, 0] rfl) hG
    exact L24 (Nat.succ ((nX NF y - 0).toNat)) 0 (-1) lg mr en pw sl ly dn A0 A1 A2 A3 A4 A5 A6 _ _ _ (Nat.lt_succ_self _) ⟨by omega, by omega⟩ (FarR.zero NF y x z) (by omega) (lv_sub hl [2, 3, 4, 5, 1, 0] rfl) hG
  · skip
    refine g_iconst S dX9_farthest_16 ?_
    have hG : gW K A s.heap [gMdl K am (thr (bI (0 ≤ y ∧ y < NF 0)) (bI (0 ≤ z ∧ z ≤ 3)) 1) rw lg mr en pw sl ly dn iz tz nx st tk vl ef ep hO hB ol rm oz, gArr K 95 rw NF, gArr K 60 (am 3) A0, gArrZ K 60 (am 4) A1, gArr K 60 (am 5) A2, gArr K 60 (am 6) A3, gArr K 60 (am 7) A4, gArr K 60 (am 8) A5, gArr K 60 (am 9) A6] _ _ := hG
    exact g_iret S hr hlk hQ dX9_farthest_17 (Nat.le_of_ble_eq_true rfl) (Nat.le_of_ble_eq_true rfl) ((0, lg, mr, en, pw, sl, ly, dn, A0, A1, A2, A3, A4, A5, A6) : Int × Int × Int × Int × Int × Int × Int × Int × (Int → Int) × (Int → Int) × (Int → Int) × (Int → Int) × (Int → Int) × (Int → Int) × (Int → Int)) ⟨rfl, (fun h => absurd ⟨bI_t h.1, bI_t h.2⟩ q13)⟩ hG
