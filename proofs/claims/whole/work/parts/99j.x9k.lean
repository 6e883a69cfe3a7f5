set_option maxHeartbeats 1000000 in
set_option maxRecDepth 100000 in
theorem c_X9_remember (l : Launch) (K : KC) (am : Nat → Nat) (th : Int) (lg : Int) (mr : Int) (en : Int) (pw : Int) (sl : Int) (ly : Int) (dn : Int) (iz : Int) (tz : Int) (nx : Int) (st : Int) (tk : Int) (vl : Int) (ef : Int) (ep : Int) (hO : Int) (hB : Int) (ol : Int) (rm : Int) (oz : Int) (NF : Int → Int) (PA : Int → Int) (hrm : 0 ≤ rm ∧ rm ≤ 6) : mV l yX9_remember wsX9_remember 0 0 K [.ref (am 0)] [gMdl K am th (am 1) lg mr en pw sl ly dn iz tz nx st tk vl ef ep hO hB ol rm oz, gArr K 95 (am 1) NF, gArr K 570 (am 18) PA] (fun (u : (Int → Int) × Int) => (∀ j : Int, 0 ≤ j → j < 570 → u.1 j = remP rm PA NF j) ∧ (u.2 = min (rm + 1) 6)) (fun (u : (Int → Int) × Int) => [gMdl K am th (am 1) lg mr en pw sl ly dn iz tz nx st tk vl ef ep hO hB ol u.2 oz, gArr K 95 (am 1) NF, gArr K 570 (am 18) u.1]) 0 0 := by
  refine mV_of cX9_remember 2 (by decide) rfl (Nat.le_of_ble_eq_true rfl) ?_
  intro p e s m below meth c A ls Q S C hG hl hr hlk hin hQ
  have S : CallFix p m c cX9_remember 2 s ([.ref (am 0)] : List Value).toArray wsX9_remember RX9 := S
  have iX90 : ∀ w ∈ wsX90, w ∈ wsX9_remember := fun _ h => List.mem_cons_of_mem _ (List.mem_append_right _ (h))
  have hl : lv_has ls 2 [(0, .ref (am 0))] := hl
  have hG : gW K A s.heap [gMdl K am th (am 1) lg mr en pw sl ly dn iz tz nx st tk vl ef ep hO hB ol rm oz, gArr K 95 (am 1) NF, gArr K 570 (am 18) PA] s.heap [] := hG
  refine lv_aload_n S.1 S.2.1 dX9_remember_0 rfl (lv_at hl 0 rfl) ?_
  refine g_get S C hG iX90 0 rfl rfl 38 (by decide) (List.mem_of_getElem? (i := 1) rfl) rfl dX9_remember_1 ?_
  refine g_bipush S dX9_remember_4 (by decide) ?_
  refine g_icmp_ne (tgt := 50) S dX9_remember_6 (by decide) (by omega) (by omega) (fun q6 => ?_) (fun q6 => ?_)
  · skip
    refine g_iconst S dX9_remember_50 ?_
    refine lv_istore_n (lv' := [(1, .int (iI 0)), (0, .ref (am 0))]) S.1 S.2.1 dX9_remember_51 rfl hl (by decide) rfl (fun ls hl => ?_)
    have L52 : ∀ (fu : Nat) (u1 : Int) (P3 : Int → Int) (r1 : Int) (P0 : Int → Int) (H : Heap) (locs : List Loc) (ls : Array Slot), (((95 : Int) - u1).toNat) < fu → (0 ≤ u1 ∧ u1 ≤ 95) → (∀ j : Int, P3 j = if 95 * r1 ≤ j ∧ j < 95 * r1 + u1 then NF (j - 95 * r1) else P0 j) → ((¬ rm = 6 ∧ r1 = rm ∧ P0 = PA) ∨ (rm = 6 ∧ r1 = 5 ∧ ∀ j : Int, 0 ≤ j → j < 475 → P0 j = PA (j + 95))) → lv_has ls 2 [(0, .ref (am 0)), (1, .int (iI u1))] → gW K A s.heap [gMdl K am th (am 1) lg mr en pw sl ly dn iz tz nx st tk vl ef ep hO hB ol r1 oz, gArr K 95 (am 1) NF, gArr K 570 (am 18) P3] H locs → W p l e { frames := 0, cells := 0, slots := 0, locals := 0 } s m ([.ref (am 0)] : List Value).toArray below meth c H locs 0 0 Q (F0 m 52 ls []) := by
      intro fu
      induction fu with
      | zero => intro u1 P3 r1 P0 H locs ls hfu; exact absurd hfu (Nat.not_lt_zero _)
      | succ fu ih =>
        intro u1 P3 r1 P0 H locs ls hfu hu hq hc hl hG
        refine lv_iload_n S.1 S.2.1 dX9_remember_52 rfl (lv_at hl 1 rfl) ?_
        refine g_bipush S dX9_remember_53 (by decide) ?_
        refine g_icmp_ge (tgt := 84) S dX9_remember_55 (by decide) (by omega) (by omega) (fun q55 => ?_) (fun q55 => ?_)
        · skip
          refine lv_aload_n S.1 S.2.1 dX9_remember_84 rfl (lv_at hl 0 rfl) ?_
          refine lv_dup S.1 S.2.1 dX9_remember_85 rfl ?_
          refine g_get S C hG iX90 0 rfl rfl 38 (by decide) (List.mem_of_getElem? (i := 1) rfl) rfl dX9_remember_86 ?_
          refine g_iconst S dX9_remember_89 ?_
          refine g_iadd S dX9_remember_90 rfl ?_
          refine g_put (gs' := [gMdl K am th (am 1) lg mr en pw sl ly dn iz tz nx st tk vl ef ep hO hB ol (r1 + 1) oz, gArr K 95 (am 1) NF, gArr K 570 (am 18) P3]) S C hG iX90 tyX9 tyX9_ok nmX9 0 rfl rfl 38 (by decide) (List.mem_of_getElem? (i := 1) rfl) rfl rfl rfl (Nat.le_of_ble_eq_true rfl) rfl dX9_remember_91 (fun H locs hG => ?_)
          have hG : gW K A s.heap [gMdl K am th (am 1) lg mr en pw sl ly dn iz tz nx st tk vl ef ep hO hB ol (r1 + 1) oz, gArr K 95 (am 1) NF, gArr K 570 (am 18) P3] _ _ := hG
          exact g_vret S hr hlk hQ dX9_remember_94 (Nat.le_of_ble_eq_true rfl) (Nat.le_of_ble_eq_true rfl) ((P3, r1 + 1) : (Int → Int) × Int) ⟨(fun j a b => by show P3 j = _ <;> rw [hq j, show u1 = 95 by omega] <;> exact remP_of hc a b), (by show r1 + 1 = _ <;> omega)⟩ hG
        · skip
          refine lv_aload_n S.1 S.2.1 dX9_remember_58 rfl (lv_at hl 0 rfl) ?_
          refine g_get S C hG iX90 0 rfl rfl 37 (by decide) (List.mem_of_getElem? (i := 2) rfl) rfl dX9_remember_59 ?_
          refine g_bipush S dX9_remember_62 (by decide) ?_
          refine lv_aload_n S.1 S.2.1 dX9_remember_64 rfl (lv_at hl 0 rfl) ?_
          refine g_get S C hG iX90 0 rfl rfl 38 (by decide) (List.mem_of_getElem? (i := 1) rfl) rfl dX9_remember_65 ?_
          refine g_imul S dX9_remember_68 rfl ?_
          refine lv_iload_n S.1 S.2.1 dX9_remember_69 rfl (lv_at hl 1 rfl) ?_
          refine g_iadd S dX9_remember_70 rfl ?_
          refine lv_aload_n S.1 S.2.1 dX9_remember_71 rfl (lv_at hl 0 rfl) ?_
          refine g_get S C hG iX90 0 rfl rfl 1 (by decide) (List.mem_of_getElem? (i := 3) rfl) rfl dX9_remember_72 ?_
          refine lv_iload_n S.1 S.2.1 dX9_remember_75 rfl (lv_at hl 1 rfl) ?_
          refine g_iald S C hG 1 rfl (by omega) (by omega) (by omega) dX9_remember_76 ?_
          refine g_iast (gs' := [gMdl K am th (am 1) lg mr en pw sl ly dn iz tz nx st tk vl ef ep hO hB ol r1 oz, gArr K 95 (am 1) NF, gArr K 570 (am 18) (upI P3 ((95 * r1) + u1) (NF u1))]) S C hG 2 rfl (by omega) (by omega) (by omega) rfl dX9_remember_77 (fun H locs hG => ?_)
          refine lv_iinc (v := iI (u1 + 1)) (lv' := [(1, .int (iI (u1 + 1))), (0, .ref (am 0))]) S.1 S.2.1 dX9_remember_78 hl (k := 1) rfl (g_iinc rfl) (by decide) rfl (fun ls hl => ?_)
          refine lv_goto (tgt := 52) S.1 S.2.1 dX9_remember_81 (by decide) ?_
          exact ih (u1 + 1) (upI P3 ((95 * r1) + u1) (NF u1)) r1 P0 _ _ _ (by omega) (by omega) (fun j => by (unfold upI <;> have z1 := hq j <;> (repeat' split) <;> first | (congr 1 <;> omega) | omega | (rw [z1] <;> (repeat' split) <;> first | rfl | omega))) (by omega) (lv_sub hl [1, 0] rfl) hG
    exact L52 (Nat.succ (((95 : Int) - 0).toNat)) 0 PA rm PA _ _ _ (Nat.lt_succ_self _) (by omega) (fun j => by rw [if_neg (by omega)]) (Or.inl ⟨by omega, rfl, rfl⟩) (lv_sub hl [1, 0] rfl) hG
  · skip
    refine g_bipush S dX9_remember_9 (by decide) ?_
    refine lv_istore_n (lv' := [(1, .int (iI 95)), (0, .ref (am 0))]) S.1 S.2.1 dX9_remember_11 rfl hl (by decide) rfl (fun ls hl => ?_)
    have L12 : ∀ (fu : Nat) (w : Int) (P1 : Int → Int) (H : Heap) (locs : List Loc) (ls : Array Slot), (((570 : Int) - w).toNat) < fu → (95 ≤ w ∧ w ≤ 570) → (∀ j : Int, P1 j = if 0 ≤ j ∧ j < w - 95 then PA (j + 95) else PA j) → lv_has ls 2 [(0, .ref (am 0)), (1, .int (iI w))] → gW K A s.heap [gMdl K am th (am 1) lg mr en pw sl ly dn iz tz nx st tk vl ef ep hO hB ol rm oz, gArr K 95 (am 1) NF, gArr K 570 (am 18) P1] H locs → W p l e { frames := 0, cells := 0, slots := 0, locals := 0 } s m ([.ref (am 0)] : List Value).toArray below meth c H locs 0 0 Q (F0 m 12 ls []) := by
      intro fu
      induction fu with
      | zero => intro w P1 H locs ls hfu; exact absurd hfu (Nat.not_lt_zero _)
      | succ fu ih =>
        intro w P1 H locs ls hfu hw hz hl hG
        refine lv_iload_n S.1 S.2.1 dX9_remember_12 rfl (lv_at hl 1 rfl) ?_
        refine g_sipush S dX9_remember_13 (by decide) ?_
        refine g_icmp_ge (tgt := 40) S dX9_remember_16 (by decide) (by omega) (by omega) (fun q16 => ?_) (fun q16 => ?_)
        · skip
          refine lv_aload_n S.1 S.2.1 dX9_remember_40 rfl (lv_at hl 0 rfl) ?_
          refine lv_dup S.1 S.2.1 dX9_remember_41 rfl ?_
          refine g_get S C hG iX90 0 rfl rfl 38 (by decide) (List.mem_of_getElem? (i := 1) rfl) rfl dX9_remember_42 ?_
          refine g_iconst S dX9_remember_45 ?_
          refine g_isub S dX9_remember_46 rfl ?_
          refine g_put (gs' := [gMdl K am th (am 1) lg mr en pw sl ly dn iz tz nx st tk vl ef ep hO hB ol (rm - 1) oz, gArr K 95 (am 1) NF, gArr K 570 (am 18) P1]) S C hG iX90 tyX9 tyX9_ok nmX9 0 rfl rfl 38 (by decide) (List.mem_of_getElem? (i := 1) rfl) rfl rfl rfl (Nat.le_of_ble_eq_true rfl) rfl dX9_remember_47 (fun H locs hG => ?_)
          refine g_iconst S dX9_remember_50 ?_
          refine lv_istore_n (lv' := [(1, .int (iI 0)), (0, .ref (am 0))]) S.1 S.2.1 dX9_remember_51 rfl hl (by decide) rfl (fun ls hl => ?_)
          have L52 : ∀ (fu : Nat) (u1 : Int) (P3 : Int → Int) (r1 : Int) (P0 : Int → Int) (H : Heap) (locs : List Loc) (ls : Array Slot), (((95 : Int) - u1).toNat) < fu → (0 ≤ u1 ∧ u1 ≤ 95) → (∀ j : Int, P3 j = if 95 * r1 ≤ j ∧ j < 95 * r1 + u1 then NF (j - 95 * r1) else P0 j) → ((¬ rm = 6 ∧ r1 = rm ∧ P0 = PA) ∨ (rm = 6 ∧ r1 = 5 ∧ ∀ j : Int, 0 ≤ j → j < 475 → P0 j = PA (j + 95))) → lv_has ls 2 [(0, .ref (am 0)), (1, .int (iI u1))] → gW K A s.heap [gMdl K am th (am 1) lg mr en pw sl ly dn iz tz nx st tk vl ef ep hO hB ol r1 oz, gArr K 95 (am 1) NF, gArr K 570 (am 18) P3] H locs → W p l e { frames := 0, cells := 0, slots := 0, locals := 0 } s m ([.ref (am 0)] : List Value).toArray below meth c H locs 0 0 Q (F0 m 52 ls []) := by
            intro fu
            induction fu with
            | zero => intro u1 P3 r1 P0 H locs ls hfu; exact absurd hfu (Nat.not_lt_zero _)
            | succ fu ih52 =>
              intro u1 P3 r1 P0 H locs ls hfu hu hq hc hl hG
              refine lv_iload_n S.1 S.2.1 dX9_remember_52 rfl (lv_at hl 1 rfl) ?_
              refine g_bipush S dX9_remember_53 (by decide) ?_
              refine g_icmp_ge (tgt := 84) S dX9_remember_55 (by decide) (by omega) (by omega) (fun q55 => ?_) (fun q55 => ?_)
              · skip
                refine lv_aload_n S.1 S.2.1 dX9_remember_84 rfl (lv_at hl 0 rfl) ?_
                refine lv_dup S.1 S.2.1 dX9_remember_85 rfl ?_
                refine g_get S C hG iX90 0 rfl rfl 38 (by decide) (List.mem_of_getElem? (i := 1) rfl) rfl dX9_remember_86 ?_
                refine g_iconst S dX9_remember_89 ?_
                refine g_iadd S dX9_remember_90 rfl ?_
                refine g_put (gs' := [gMdl K am th (am 1) lg mr en pw sl ly dn iz tz nx st tk vl ef ep hO hB ol (r1 + 1) oz, gArr K 95 (am 1) NF, gArr K 570 (am 18) P3]) S C hG iX90 tyX9 tyX9_ok nmX9 0 rfl rfl 38 (by decide) (List.mem_of_getElem? (i := 1) rfl) rfl rfl rfl (Nat.le_of_ble_eq_true rfl) rfl dX9_remember_91 (fun H locs hG => ?_)
                have hG : gW K A s.heap [gMdl K am th (am 1) lg mr en pw sl ly dn iz tz nx st tk vl ef ep hO hB ol (r1 + 1) oz, gArr K 95 (am 1) NF, gArr K 570 (am 18) P3] _ _ := hG
                exact g_vret S hr hlk hQ dX9_remember_94 (Nat.le_of_ble_eq_true rfl) (Nat.le_of_ble_eq_true rfl) ((P3, r1 + 1) : (Int → Int) × Int) ⟨(fun j a b => by show P3 j = _ <;> rw [hq j, show u1 = 95 by omega] <;> exact remP_of hc a b), (by show r1 + 1 = _ <;> omega)⟩ hG
              · skip
                refine lv_aload_n S.1 S.2.1 dX9_remember_58 rfl (lv_at hl 0 rfl) ?_
                refine g_get S C hG iX90 0 rfl rfl 37 (by decide) (List.mem_of_getElem? (i := 2) rfl) rfl dX9_remember_59 ?_
                refine g_bipush S dX9_remember_62 (by decide) ?_
                refine lv_aload_n S.1 S.2.1 dX9_remember_64 rfl (lv_at hl 0 rfl) ?_
                refine g_get S C hG iX90 0 rfl rfl 38 (by decide) (List.mem_of_getElem? (i := 1) rfl) rfl dX9_remember_65 ?_
                refine g_imul S dX9_remember_68 rfl ?_
                refine lv_iload_n S.1 S.2.1 dX9_remember_69 rfl (lv_at hl 1 rfl) ?_
                refine g_iadd S dX9_remember_70 rfl ?_
                refine lv_aload_n S.1 S.2.1 dX9_remember_71 rfl (lv_at hl 0 rfl) ?_
                refine g_get S C hG iX90 0 rfl rfl 1 (by decide) (List.mem_of_getElem? (i := 3) rfl) rfl dX9_remember_72 ?_
                refine lv_iload_n S.1 S.2.1 dX9_remember_75 rfl (lv_at hl 1 rfl) ?_
                refine g_iald S C hG 1 rfl (by omega) (by omega) (by omega) dX9_remember_76 ?_
                refine g_iast (gs' := [gMdl K am th (am 1) lg mr en pw sl ly dn iz tz nx st tk vl ef ep hO hB ol r1 oz, gArr K 95 (am 1) NF, gArr K 570 (am 18) (upI P3 ((95 * r1) + u1) (NF u1))]) S C hG 2 rfl (by omega) (by omega) (by omega) rfl dX9_remember_77 (fun H locs hG => ?_)
                refine lv_iinc (v := iI (u1 + 1)) (lv' := [(1, .int (iI (u1 + 1))), (0, .ref (am 0))]) S.1 S.2.1 dX9_remember_78 hl (k := 1) rfl (g_iinc rfl) (by decide) rfl (fun ls hl => ?_)
                refine lv_goto (tgt := 52) S.1 S.2.1 dX9_remember_81 (by decide) ?_
                exact ih52 (u1 + 1) (upI P3 ((95 * r1) + u1) (NF u1)) r1 P0 _ _ _ (by omega) (by omega) (fun j => by (unfold upI <;> have z1 := hq j <;> (repeat' split) <;> first | (congr 1 <;> omega) | omega | (rw [z1] <;> (repeat' split) <;> first | rfl | omega))) (by omega) (lv_sub hl [1, 0] rfl) hG
          exact L52 (Nat.succ (((95 : Int) - 0).toNat)) 0 P1 (rm - 1) P1 _ _ _ (Nat.lt_succ_self _) (by omega) (fun j => by rw [if_neg (by omega)]) (Or.inr ⟨by omega, by omega, fun j a b => by rw [hz j, if_pos (by omega)]⟩) (lv_sub hl [1, 0] rfl) hG
        · skip
          refine lv_aload_n S.1 S.2.1 dX9_remember_19 rfl (lv_at hl 0 rfl) ?_
          refine g_get S C hG iX90 0 rfl rfl 37 (by decide) (List.mem_of_getElem? (i := 2) rfl) rfl dX9_remember_20 ?_
          refine lv_iload_n S.1 S.2.1 dX9_remember_23 rfl (lv_at hl 1 rfl) ?_
          refine g_bipush S dX9_remember_24 (by decide) ?_
          refine g_isub S dX9_remember_26 rfl ?_
          refine lv_aload_n S.1 S.2.1 dX9_remember_27 rfl (lv_at hl 0 rfl) ?_
          refine g_get S C hG iX90 0 rfl rfl 37 (by decide) (List.mem_of_getElem? (i := 2) rfl) rfl dX9_remember_28 ?_
          refine lv_iload_n S.1 S.2.1 dX9_remember_31 rfl (lv_at hl 1 rfl) ?_
          refine g_iald S C hG 2 rfl (by omega) (by omega) (by omega) dX9_remember_32 ?_
          refine g_iast (gs' := [gMdl K am th (am 1) lg mr en pw sl ly dn iz tz nx st tk vl ef ep hO hB ol rm oz, gArr K 95 (am 1) NF, gArr K 570 (am 18) (upI P1 (w - 95) (P1 w))]) S C hG 2 rfl (by omega) (by omega) (by omega) rfl dX9_remember_33 (fun H locs hG => ?_)
          refine lv_iinc (v := iI (w + 1)) (lv' := [(1, .int (iI (w + 1))), (0, .ref (am 0))]) S.1 S.2.1 dX9_remember_34 hl (k := 1) rfl (g_iinc rfl) (by decide) rfl (fun ls hl => ?_)
          refine lv_goto (tgt := 12) S.1 S.2.1 dX9_remember_37 (by decide) ?_
          exact ih (w + 1) (upI P1 (w - 95) (P1 w)) _ _ _ (by omega) (by omega) (fun j => by (unfold upI <;> have z1 := hz j <;> have z2 := hz w <;> rw [if_neg (by omega)] at z2 <;> (repeat' split) <;> first | (rw [z2] <;> congr 1 <;> omega) | omega | (rw [z1] <;> (repeat' split) <;> first | rfl | omega))) (lv_sub hl [1, 0] rfl) hG
    exact L12 (Nat.succ (((570 : Int) - 95).toNat)) 95 PA _ _ _ (Nat.lt_succ_self _) (by omega) (fun j => by rw [if_neg (by omega)]) (lv_sub hl [1, 0] rfl) hG

set_option maxHeartbeats 1000000 in
set_option maxRecDepth 100000 in
theorem c_X9_becomes (l : Launch) (K : KC) (am : Nat → Nat) (th : Int) (lg : Int) (mr : Int) (en : Int) (pw : Int) (sl : Int) (ly : Int) (dn : Int) (iz : Int) (tz : Int) (nx : Int) (st : Int) (tk : Int) (vl : Int) (ef : Int) (ep : Int) (hO : Int) (hB : Int) (ol : Int) (rm : Int) (oz : Int) (NF : Int → Int) (PA : Int → Int) (i : Int) (x : Int) (hrm : 0 ≤ rm ∧ rm ≤ 6) (hi : 0 ≤ i ∧ i < 95) : mG l yX9_becomes wsX9_becomes 1 21 K [.ref (am 0), .int (iI i), .int (iI x)] [gMdl K am th (am 1) lg mr en pw sl ly dn iz tz nx st tk vl ef ep hO hB ol rm oz, gArr K 95 (am 1) NF, gArr K 570 (am 18) PA] (fun (v : Value) (u : (Int → Int) × Int) => (v = .int (iI (NF i))) ∧ (∀ j : Int, 0 ≤ j → j < 570 → u.1 j = remP rm PA NF j) ∧ (u.2 = min (rm + 1) 6)) (fun (u : (Int → Int) × Int) => [gMdl K am th (am 1) lg mr en pw sl ly dn iz tz nx st tk vl ef ep hO hB ol u.2 oz, gArr K 95 (am 1) (upI NF i x), gArr K 570 (am 18) u.1]) 0 0 := by
  refine mG_of cX9_becomes 4 (by decide) rfl (Nat.le_of_ble_eq_true rfl) ?_
  intro p e s m below meth c A ls Q S C hG hl hr hlk hin hQ
  have S : CallFix p m c cX9_becomes 4 s ([.ref (am 0), .int (iI i), .int (iI x)] : List Value).toArray wsX9_becomes RX9 := S
  have iX90 : ∀ w ∈ wsX90, w ∈ wsX9_becomes := fun _ h => List.mem_cons_of_mem _ (List.mem_append_right _ (h))
  have hl : lv_has ls 4 [(0, .ref (am 0)), (1, .int (iI i)), (2, .int (iI x))] := hl
  have hG : gW K A s.heap [gMdl K am th (am 1) lg mr en pw sl ly dn iz tz nx st tk vl ef ep hO hB ol rm oz, gArr K 95 (am 1) NF, gArr K 570 (am 18) PA] s.heap [] := hG
  refine lv_aload_n S.1 S.2.1 dX9_becomes_0 rfl (lv_at hl 0 rfl) ?_
  refine g_invVv (As := []) (rest := []) (gs' := (fun u : (Int → Int) × Int => [gMdl K am th (am 1) lg mr en pw sl ly dn iz tz nx st tk vl ef ep hO hB ol u.2 oz, gArr K 95 (am 1) NF, gArr K 570 (am 18) u.1])) S C hG [0, 1, 2] (c_X9_remember l K am th lg mr en pw sl ly dn iz tz nx st tk vl ef ep hO hB ol rm oz NF PA hrm) rfl rfl 0 rfl rfl (cwV 0 S.2.2.2.2 gX9_becomes_X9_remember rfl rfl rfl (by decide +kernel) ⟨Nat.le_of_ble_eq_true rfl, Nat.le_of_ble_eq_true rfl⟩) rfl hl.1 rfl (Nat.le_of_ble_eq_true rfl) dX9_becomes_1 ⟨Nat.le_of_ble_eq_true rfl, Nat.le_of_ble_eq_true rfl⟩ (fun _ => Nat.le_of_ble_eq_true rfl) (fun _ => rfl) (fun u H locs hp hG => ?_)
  obtain ⟨P2_1, rm2_1⟩ := u
  obtain ⟨hP_1, hm_1⟩ := hp
  have hP_1 : ∀ j : Int, 0 ≤ j → j < 570 → P2_1 j = remP rm PA NF j := hP_1
  have hm_1 : rm2_1 = min (rm + 1) 6 := hm_1
  have hG : gW K A s.heap [gMdl K am th (am 1) lg mr en pw sl ly dn iz tz nx st tk vl ef ep hO hB ol rm2_1 oz, gArr K 95 (am 1) NF, gArr K 570 (am 18) P2_1] _ _ := hG
  refine lv_aload_n S.1 S.2.1 dX9_becomes_4 rfl (lv_at hl 0 rfl) ?_
  refine g_get S C hG iX90 0 rfl rfl 1 (by decide) (List.mem_of_getElem? (i := 1) rfl) rfl dX9_becomes_5 ?_
  refine lv_iload_n S.1 S.2.1 dX9_becomes_8 rfl (lv_at hl 1 rfl) ?_
  refine g_iald S C hG 1 rfl (by omega) (by omega) (by omega) dX9_becomes_9 ?_
  refine lv_istore_n (lv' := [(3, .int (iI (NF i))), (0, .ref (am 0)), (1, .int (iI i)), (2, .int (iI x))]) S.1 S.2.1 dX9_becomes_10 rfl hl (by decide) rfl (fun ls hl => ?_)
  refine lv_aload_n S.1 S.2.1 dX9_becomes_11 rfl (lv_at hl 1 rfl) ?_
  refine g_get S C hG iX90 0 rfl rfl 1 (by decide) (List.mem_of_getElem? (i := 1) rfl) rfl dX9_becomes_12 ?_
  refine lv_iload_n S.1 S.2.1 dX9_becomes_15 rfl (lv_at hl 2 rfl) ?_
  refine lv_iload_n S.1 S.2.1 dX9_becomes_16 rfl (lv_at hl 3 rfl) ?_
  refine g_iast (gs' := [gMdl K am th (am 1) lg mr en pw sl ly dn iz tz nx st tk vl ef ep hO hB ol rm2_1 oz, gArr K 95 (am 1) (upI NF i x), gArr K 570 (am 18) P2_1]) S C hG 1 rfl (by omega) (by omega) (by omega) rfl dX9_becomes_17 (fun H locs hG => ?_)
  refine lv_iload_n S.1 S.2.1 dX9_becomes_18 rfl (lv_at hl 0 rfl) ?_
  have hG : gW K A s.heap [gMdl K am th (am 1) lg mr en pw sl ly dn iz tz nx st tk vl ef ep hO hB ol rm2_1 oz, gArr K 95 (am 1) (upI NF i x), gArr K 570 (am 18) P2_1] _ _ := hG
  exact g_iret S hr hlk hQ dX9_becomes_19 (Nat.le_of_ble_eq_true rfl) (Nat.le_of_ble_eq_true rfl) ((P2_1, rm2_1) : (Int → Int) × Int) ⟨rfl, hP_1, hm_1⟩ hG

set_option maxHeartbeats 1000000 in
set_option maxRecDepth 100000 in
theorem c_X9_undo (l : Launch) (K : KC) (am : Nat → Nat) (th : Int) (lg : Int) (mr : Int) (en : Int) (pw : Int) (sl : Int) (ly : Int) (dn : Int) (iz : Int) (tz : Int) (nx : Int) (st : Int) (tk : Int) (vl : Int) (ef : Int) (ep : Int) (hO : Int) (hB : Int) (ol : Int) (rm : Int) (oz : Int) (NF : Int → Int) (PA : Int → Int) (hr6 : 0 ≤ rm ∧ rm ≤ 6) (g1 : 0 < rm) : mG l yX9_undo wsX9_undo 2 44 K [.ref (am 0)] [gMdl K am th (am 1) lg mr en pw sl ly dn iz tz nx st tk vl ef ep hO hB ol rm oz, gArr K 95 (am 1) NF, gArr K 570 (am 18) PA] (fun (v : Value) (u : (Int → Int)) => (v = .int (iI (rm - 1))) ∧ (u = secN PA (rm - 1) NF)) (fun (u : (Int → Int)) => [gMdl K am (thr (bI (0 < rm)) 1 1) (am 1) lg mr en pw sl ly dn iz tz nx st tk vl ef ep hO hB ol (rm - 1) oz, gArr K 95 (am 1) u, gArr K 570 (am 18) PA]) 0 0 := by
  refine mG_of cX9_undo 2 (by decide) rfl (Nat.le_of_ble_eq_true rfl) ?_
  intro p e s m below meth c A ls Q S C hG hl hr hlk hin hQ
  have S : CallFix p m c cX9_undo 2 s ([.ref (am 0)] : List Value).toArray wsX9_undo RX9 := S
  have iX90 : ∀ w ∈ wsX90, w ∈ wsX9_undo := fun _ h => List.mem_cons_of_mem _ (List.mem_append_right _ (h))
  have hl : lv_has ls 2 [(0, .ref (am 0))] := hl
  have hG : gW K A s.heap [gMdl K am th (am 1) lg mr en pw sl ly dn iz tz nx st tk vl ef ep hO hB ol rm oz, gArr K 95 (am 1) NF, gArr K 570 (am 18) PA] s.heap [] := hG
  refine lv_aload_n S.1 S.2.1 dX9_undo_0 rfl (lv_at hl 0 rfl) ?_
  refine lv_aload_n S.1 S.2.1 dX9_undo_1 rfl (lv_at hl 0 rfl) ?_
  refine g_get S C hG iX90 0 rfl rfl 38 (by decide) (List.mem_of_getElem? (i := 1) rfl) rfl dX9_undo_2 ?_
  have J13 : ∀ (H : Heap) (locs : List Loc) (ls : Array Slot), lv_has ls 2 [(0, .ref (am 0))] → gW K A s.heap [gMdl K am th (am 1) lg mr en pw sl ly dn iz tz nx st tk vl ef ep hO hB ol rm oz, gArr K 95 (am 1) NF, gArr K 570 (am 18) PA] H locs → W p l e { frames := 2, cells := 0, slots := 0, locals := 44 } s m ([.ref (am 0)] : List Value).toArray below meth c H locs 0 0 Q (F0 m 13 ls [.int (iI (bI (0 < rm))), .ref (am 0)]) := by
    intro  H locs ls  hl hG
    refine g_invV (As := [.int (iI (bI (0 < rm)))]) (rest := []) (gs' := (fun u : Unit => [gMdl K am (thr (bI (0 < rm)) 1 1) (am 1) lg mr en pw sl ly dn iz tz nx st tk vl ef ep hO hB ol rm oz, gArr K 95 (am 1) NF, gArr K 570 (am 18) PA])) S C hG [0] (c_X9_passes l K am th (am 1) lg mr en pw sl ly dn iz tz nx st tk vl ef ep hO hB ol rm oz (bI (0 < rm)) (bI_01 _)) rfl rfl 0 rfl rfl (cwV 1 S.2.2.2.2 gX9_undo_X9_passes rfl rfl rfl (by decide +kernel) ⟨Nat.le_of_ble_eq_true rfl, Nat.le_of_ble_eq_true rfl⟩) rfl hl.1 rfl (Nat.le_of_ble_eq_true rfl) dX9_undo_13 ⟨Nat.le_of_ble_eq_true rfl, Nat.le_of_ble_eq_true rfl⟩ (fun _ => Nat.le_of_ble_eq_true rfl) (fun _ => rfl) (fun v u H locs hp hG => ?_)
    subst hp
    refine g_ifne_b (B := ((bI (0 < rm)) = 1)) (tgt := 21) S dX9_undo_16 (by decide) (fun q16 => ?_) (fun q16 => ?_)
    · skip
      refine lv_aload_n S.1 S.2.1 dX9_undo_21 rfl (lv_at hl 0 rfl) ?_
      refine lv_dup S.1 S.2.1 dX9_undo_22 rfl ?_
      refine g_get S C hG iX90 0 rfl rfl 38 (by decide) (List.mem_of_getElem? (i := 1) rfl) rfl dX9_undo_23 ?_
      refine g_iconst S dX9_undo_26 ?_
      refine g_isub S dX9_undo_27 rfl ?_
      refine g_put (gs' := [gMdl K am (thr (bI (0 < rm)) 1 1) (am 1) lg mr en pw sl ly dn iz tz nx st tk vl ef ep hO hB ol (rm - 1) oz, gArr K 95 (am 1) NF, gArr K 570 (am 18) PA]) S C hG iX90 tyX9 tyX9_ok nmX9 0 rfl rfl 38 (by decide) (List.mem_of_getElem? (i := 1) rfl) rfl rfl rfl (Nat.le_of_ble_eq_true rfl) rfl dX9_undo_28 (fun H locs hG => ?_)
      refine g_iconst S dX9_undo_31 ?_
      refine lv_istore_n (lv' := [(1, .int (iI 0)), (0, .ref (am 0))]) S.1 S.2.1 dX9_undo_32 rfl hl (by decide) rfl (fun ls hl => ?_)
      have L33 : ∀ (fu : Nat) (w : Int) (F1 : Int → Int) (H : Heap) (locs : List Loc) (ls : Array Slot), (((95 : Int) - w).toNat) < fu → (0 ≤ w ∧ w ≤ 95) → (∀ j : Int, F1 j = if 0 ≤ j ∧ j < w then PA (95 * (rm - 1) + j) else NF j) → lv_has ls 2 [(0, .ref (am 0)), (1, .int (iI w))] → gW K A s.heap [gMdl K am (thr (bI (0 < rm)) 1 1) (am 1) lg mr en pw sl ly dn iz tz nx st tk vl ef ep hO hB ol (rm - 1) oz, gArr K 95 (am 1) F1, gArr K 570 (am 18) PA] H locs → W p l e { frames := 2, cells := 0, slots := 0, locals := 44 } s m ([.ref (am 0)] : List Value).toArray below meth c H locs 0 0 Q (F0 m 33 ls []) := by
        intro fu
        induction fu with
        | zero => intro w F1 H locs ls hfu; exact absurd hfu (Nat.not_lt_zero _)
        | succ fu ih =>
          intro w F1 H locs ls hfu hw hz hl hG
          refine lv_iload_n S.1 S.2.1 dX9_undo_33 rfl (lv_at hl 1 rfl) ?_
          refine g_bipush S dX9_undo_34 (by decide) ?_
          refine g_icmp_ge (tgt := 65) S dX9_undo_36 (by decide) (by omega) (by omega) (fun q36 => ?_) (fun q36 => ?_)
          · skip
            refine lv_aload_n S.1 S.2.1 dX9_undo_65 rfl (lv_at hl 0 rfl) ?_
            refine g_get S C hG iX90 0 rfl rfl 38 (by decide) (List.mem_of_getElem? (i := 1) rfl) rfl dX9_undo_66 ?_
            have hG : gW K A s.heap [gMdl K am (thr (bI (0 < rm)) 1 1) (am 1) lg mr en pw sl ly dn iz tz nx st tk vl ef ep hO hB ol (rm - 1) oz, gArr K 95 (am 1) F1, gArr K 570 (am 18) PA] _ _ := hG
            exact g_iret S hr hlk hQ dX9_undo_69 (Nat.le_of_ble_eq_true rfl) (Nat.le_of_ble_eq_true rfl) ((F1) : (Int → Int)) ⟨rfl, (funext fun j => by rw [hz j, show w = 95 by omega] <;> rfl)⟩ hG
          · skip
            refine lv_aload_n S.1 S.2.1 dX9_undo_39 rfl (lv_at hl 0 rfl) ?_
            refine g_get S C hG iX90 0 rfl rfl 1 (by decide) (List.mem_of_getElem? (i := 2) rfl) rfl dX9_undo_40 ?_
            refine lv_iload_n S.1 S.2.1 dX9_undo_43 rfl (lv_at hl 1 rfl) ?_
            refine lv_aload_n S.1 S.2.1 dX9_undo_44 rfl (lv_at hl 0 rfl) ?_
            refine g_get S C hG iX90 0 rfl rfl 37 (by decide) (List.mem_of_getElem? (i := 3) rfl) rfl dX9_undo_45 ?_
            refine g_bipush S dX9_undo_48 (by decide) ?_
            refine lv_aload_n S.1 S.2.1 dX9_undo_50 rfl (lv_at hl 0 rfl) ?_
            refine g_get S C hG iX90 0 rfl rfl 38 (by decide) (List.mem_of_getElem? (i := 1) rfl) rfl dX9_undo_51 ?_
            refine g_imul S dX9_undo_54 rfl ?_
            refine lv_iload_n S.1 S.2.1 dX9_undo_55 rfl (lv_at hl 1 rfl) ?_
            refine g_iadd S dX9_undo_56 rfl ?_
            refine g_iald S C hG 2 rfl (by omega) (by omega) (by omega) dX9_undo_57 ?_
            refine g_iast (gs' := [gMdl K am (thr (bI (0 < rm)) 1 1) (am 1) lg mr en pw sl ly dn iz tz nx st tk vl ef ep hO hB ol (rm - 1) oz, gArr K 95 (am 1) (upI F1 w (PA ((95 * (rm - 1)) + w))), gArr K 570 (am 18) PA]) S C hG 1 rfl (by omega) (by omega) (by omega) rfl dX9_undo_58 (fun H locs hG => ?_)
            refine lv_iinc (v := iI (w + 1)) (lv' := [(1, .int (iI (w + 1))), (0, .ref (am 0))]) S.1 S.2.1 dX9_undo_59 hl (k := 1) rfl (g_iinc rfl) (by decide) rfl (fun ls hl => ?_)
            refine lv_goto (tgt := 33) S.1 S.2.1 dX9_undo_62 (by decide) ?_
            exact ih (w + 1) (upI F1 w (PA ((95 * (rm - 1)) + w))) _ _ _ (by omega) (by omega) (fun j => by (unfold upI <;> have z1 := hz j <;> (repeat' split) <;> first | (congr 1 <;> omega) | omega | (rw [z1] <;> (repeat' split) <;> first | rfl | omega))) (lv_sub hl [1, 0] rfl) hG
      exact L33 (Nat.succ (((95 : Int) - 0).toNat)) 0 NF _ _ _ (Nat.lt_succ_self _) (by omega) (fun j => by rw [if_neg (by omega)]) (lv_sub hl [1, 0] rfl) hG
    · skip
      exact absurd (bI_t g1) q16
  refine g_if_le (tgt := 12) S dX9_undo_5 (by decide) (by omega) (fun q5 => ?_) (fun q5 => ?_)
  · skip
    refine g_iconst S dX9_undo_12 ?_
    refine g_top (w := .int (iI (bI (0 < rm)))) (congrArg (fun z : Int => Value.int (iI z)) ((bI_f (by omega)).symm)) ?_
    exact J13 _ _ _ (lv_sub hl [0] rfl) hG
  · skip
    refine g_iconst S dX9_undo_8 ?_
    refine g_top (w := .int (iI (bI (0 < rm)))) (congrArg (fun z : Int => Value.int (iI z)) ((bI_t (by omega)).symm)) ?_
    refine lv_goto (tgt := 13) S.1 S.2.1 dX9_undo_9 (by decide) ?_
    exact J13 _ _ _ (lv_sub hl [0] rfl) hG

set_option maxHeartbeats 1000000 in
set_option maxRecDepth 100000 in
theorem b_X9_undo (l : Launch) (K : KC) (am : Nat → Nat) (th : Int) (lg : Int) (mr : Int) (en : Int) (pw : Int) (sl : Int) (ly : Int) (dn : Int) (iz : Int) (tz : Int) (nx : Int) (st : Int) (tk : Int) (vl : Int) (ef : Int) (ep : Int) (hO : Int) (hB : Int) (ol : Int) (rm : Int) (oz : Int) (NF : Int → Int) (hr6 : 0 ≤ rm ∧ rm ≤ 6) (g1 : ¬ 0 < rm) : mG l yX9_undo wsX9_undo 2 44 K [.ref (am 0)] [gMdl K am th (am 1) lg mr en pw sl ly dn iz tz nx st tk vl ef ep hO hB ol rm oz, gArr K 95 (am 1) NF] (fun (v : Value) (u : Unit) => (v = .int (iI 0))) (fun (u : Unit) => [gMdl K am (thr (bI (0 < rm)) 1 1) (am 1) lg mr en pw sl ly dn iz tz nx st tk vl ef ep hO hB ol rm oz, gArr K 95 (am 1) NF]) 0 0 := by
  refine mG_of cX9_undo 2 (by decide) rfl (Nat.le_of_ble_eq_true rfl) ?_
  intro p e s m below meth c A ls Q S C hG hl hr hlk hin hQ
  have S : CallFix p m c cX9_undo 2 s ([.ref (am 0)] : List Value).toArray wsX9_undo RX9 := S
  have iX90 : ∀ w ∈ wsX90, w ∈ wsX9_undo := fun _ h => List.mem_cons_of_mem _ (List.mem_append_right _ (h))
  have hl : lv_has ls 2 [(0, .ref (am 0))] := hl
  have hG : gW K A s.heap [gMdl K am th (am 1) lg mr en pw sl ly dn iz tz nx st tk vl ef ep hO hB ol rm oz, gArr K 95 (am 1) NF] s.heap [] := hG
  refine lv_aload_n S.1 S.2.1 dX9_undo_0 rfl (lv_at hl 0 rfl) ?_
  refine lv_aload_n S.1 S.2.1 dX9_undo_1 rfl (lv_at hl 0 rfl) ?_
  refine g_get S C hG iX90 0 rfl rfl 38 (by decide) (List.mem_of_getElem? (i := 1) rfl) rfl dX9_undo_2 ?_
  have J13 : ∀ (H : Heap) (locs : List Loc) (ls : Array Slot), lv_has ls 2 [(0, .ref (am 0))] → gW K A s.heap [gMdl K am th (am 1) lg mr en pw sl ly dn iz tz nx st tk vl ef ep hO hB ol rm oz, gArr K 95 (am 1) NF] H locs → W p l e { frames := 2, cells := 0, slots := 0, locals := 44 } s m ([.ref (am 0)] : List Value).toArray below meth c H locs 0 0 Q (F0 m 13 ls [.int (iI (bI (0 < rm))), .ref (am 0)]) := by
    intro  H locs ls  hl hG
    refine g_invV (As := [.int (iI (bI (0 < rm)))]) (rest := []) (gs' := (fun u : Unit => [gMdl K am (thr (bI (0 < rm)) 1 1) (am 1) lg mr en pw sl ly dn iz tz nx st tk vl ef ep hO hB ol rm oz, gArr K 95 (am 1) NF])) S C hG [0] (c_X9_passes l K am th (am 1) lg mr en pw sl ly dn iz tz nx st tk vl ef ep hO hB ol rm oz (bI (0 < rm)) (bI_01 _)) rfl rfl 0 rfl rfl (cwV 1 S.2.2.2.2 gX9_undo_X9_passes rfl rfl rfl (by decide +kernel) ⟨Nat.le_of_ble_eq_true rfl, Nat.le_of_ble_eq_true rfl⟩) rfl hl.1 rfl (Nat.le_of_ble_eq_true rfl) dX9_undo_13 ⟨Nat.le_of_ble_eq_true rfl, Nat.le_of_ble_eq_true rfl⟩ (fun _ => Nat.le_of_ble_eq_true rfl) (fun _ => rfl) (fun v u H locs hp hG => ?_)
    subst hp
    refine g_ifne_b (B := ((bI (0 < rm)) = 1)) (tgt := 21) S dX9_undo_16 (by decide) (fun q16 => ?_) (fun q16 => ?_)
    · skip
      exact absurd (bI1 q16) g1
    · skip
      refine g_iconst S dX9_undo_19 ?_
      have hG : gW K A s.heap [gMdl K am (thr (bI (0 < rm)) 1 1) (am 1) lg mr en pw sl ly dn iz tz nx st tk vl ef ep hO hB ol rm oz, gArr K 95 (am 1) NF] _ _ := hG
      exact g_iret S hr hlk hQ dX9_undo_20 (Nat.le_of_ble_eq_true rfl) (Nat.le_of_ble_eq_true rfl) (() : Unit) rfl hG
  refine g_if_le (tgt := 12) S dX9_undo_5 (by decide) (by omega) (fun q5 => ?_) (fun q5 => ?_)
  · skip
    refine g_iconst S dX9_undo_12 ?_
    refine g_top (w := .int (iI (bI (0 < rm)))) (congrArg (fun z : Int => Value.int (iI z)) ((bI_f (by omega)).symm)) ?_
    exact J13 _ _ _ (lv_sub hl [0] rfl) hG
  · skip
    refine g_iconst S dX9_undo_8 ?_
    refine g_top (w := .int (iI (bI (0 < rm)))) (congrArg (fun z : Int => Value.int (iI z)) ((bI_t (by omega)).symm)) ?_
    refine lv_goto (tgt := 13) S.1 S.2.1 dX9_undo_9 (by decide) ?_
    exact J13 _ _ _ (lv_sub hl [0] rfl) hG

set_option maxHeartbeats 1000000 in
set_option maxRecDepth 100000 in
theorem c_X9_keep (l : Launch) (K : KC) (am : Nat → Nat) (th : Int) (lg : Int) (mr : Int) (en : Int) (pw : Int) (sl : Int) (ly : Int) (dn : Int) (iz : Int) (tz : Int) (nx : Int) (st : Int) (tk : Int) (vl : Int) (ef : Int) (ep : Int) (hO : Int) (hB : Int) (ol : Int) (rm : Int) (oz : Int) (NF : Int → Int) (KE : Int → Int) (JF : Int → Int) (x : Int) (hx : -2147483648 ≤ x ∧ x < 2147483648) (g1 : 0 ≤ x ∧ x ≤ 1) : mG l yX9_keep wsX9_keep 2 45 K [.ref (am 0), .int (iI x)] [gMdl K am th (am 1) lg mr en pw sl ly dn iz tz nx st tk vl ef ep hO hB ol rm oz, gArr K 95 (am 1) NF, gArr K 190 (am 16) KE, gArrZ K 2 (am 17) JF] (fun (v : Value) (u : (Int → Int)) => (v = .int (iI (NF 4))) ∧ (∀ j : Int, u j = if 95 * x ≤ j ∧ j < 95 * x + 95 then NF (j - 95 * x) else KE j)) (fun (u : (Int → Int)) => [gMdl K am (thr (bI (0 ≤ x ∧ x ≤ 1)) 1 1) (am 1) lg mr en pw sl ly dn iz tz nx st tk vl ef ep hO hB ol rm oz, gArr K 95 (am 1) NF, gArr K 190 (am 16) u, gArrZ K 2 (am 17) (upI JF x 1)]) 0 0 := by
  refine mG_of cX9_keep 3 (by decide) rfl (Nat.le_of_ble_eq_true rfl) ?_
  intro p e s m below meth c A ls Q S C hG hl hr hlk hin hQ
  have S : CallFix p m c cX9_keep 3 s ([.ref (am 0), .int (iI x)] : List Value).toArray wsX9_keep RX9 := S
  have iX90 : ∀ w ∈ wsX90, w ∈ wsX9_keep := fun _ h => List.mem_cons_of_mem _ (List.mem_append_right _ (h))
  have hl : lv_has ls 3 [(0, .ref (am 0)), (1, .int (iI x))] := hl
  have hG : gW K A s.heap [gMdl K am th (am 1) lg mr en pw sl ly dn iz tz nx st tk vl ef ep hO hB ol rm oz, gArr K 95 (am 1) NF, gArr K 190 (am 16) KE, gArrZ K 2 (am 17) JF] s.heap [] := hG
  refine lv_aload_n S.1 S.2.1 dX9_keep_0 rfl (lv_at hl 0 rfl) ?_
  refine lv_iload_n S.1 S.2.1 dX9_keep_1 rfl (lv_at hl 1 rfl) ?_
  refine g_invS (As := [.int (iI x)]) (rest := [.ref (am 0)]) (gs' := (fun u : Unit => [gMdl K am th (am 1) lg mr en pw sl ly dn iz tz nx st tk vl ef ep hO hB ol rm oz, gArr K 95 (am 1) NF, gArr K 190 (am 16) KE, gArrZ K 2 (am 17) JF])) S C hG [] (c_X9_isKeep l K x hx) rfl rfl (va_cwS 1 S.2.2.2.2 gX9_keep_X9_isKeep rfl rfl rfl (by decide +kernel) ⟨Nat.le_of_ble_eq_true rfl, Nat.le_of_ble_eq_true rfl⟩) rfl hl.1 rfl (Nat.le_of_ble_eq_true rfl) dX9_keep_2 ⟨Nat.le_of_ble_eq_true rfl, Nat.le_of_ble_eq_true rfl⟩ (fun _ => Nat.le_of_ble_eq_true rfl) (fun _ => rfl) (fun v u H locs hp hG => ?_)
  subst hp
  refine g_invV (As := [.int (iI (bI (0 ≤ x ∧ x ≤ 1)))]) (rest := []) (gs' := (fun u : Unit => [gMdl K am (thr (bI (0 ≤ x ∧ x ≤ 1)) 1 1) (am 1) lg mr en pw sl ly dn iz tz nx st tk vl ef ep hO hB ol rm oz, gArr K 95 (am 1) NF, gArr K 190 (am 16) KE, gArrZ K 2 (am 17) JF])) S C hG [0] (c_X9_passes l K am th (am 1) lg mr en pw sl ly dn iz tz nx st tk vl ef ep hO hB ol rm oz (bI (0 ≤ x ∧ x ≤ 1)) (bI_01 _)) rfl rfl 0 rfl rfl (cwV 1 S.2.2.2.2 gX9_keep_X9_passes rfl rfl rfl (by decide +kernel) ⟨Nat.le_of_ble_eq_true rfl, Nat.le_of_ble_eq_true rfl⟩) rfl hl.1 rfl (Nat.le_of_ble_eq_true rfl) dX9_keep_5 ⟨Nat.le_of_ble_eq_true rfl, Nat.le_of_ble_eq_true rfl⟩ (fun _ => Nat.le_of_ble_eq_true rfl) (fun _ => rfl) (fun v u H locs hp hG => ?_)
  subst hp
  refine g_ifne_b (B := ((bI (0 ≤ x ∧ x ≤ 1)) = 1)) (tgt := 13) S dX9_keep_8 (by decide) (fun q8 => ?_) (fun q8 => ?_)
  · skip
    refine g_iconst S dX9_keep_13 ?_
    refine lv_istore_n (lv' := [(2, .int (iI 0)), (0, .ref (am 0)), (1, .int (iI x))]) S.1 S.2.1 dX9_keep_14 rfl hl (by decide) rfl (fun ls hl => ?_)
    have L15 : ∀ (fu : Nat) (w : Int) (K1 : Int → Int) (H : Heap) (locs : List Loc) (ls : Array Slot), (((95 : Int) - w).toNat) < fu → (0 ≤ w ∧ w ≤ 95) → (∀ j : Int, K1 j = if 95 * x ≤ j ∧ j < 95 * x + w then NF (j - 95 * x) else KE j) → lv_has ls 3 [(0, .ref (am 0)), (1, .int (iI x)), (2, .int (iI w))] → gW K A s.heap [gMdl K am (thr (bI (0 ≤ x ∧ x ≤ 1)) 1 1) (am 1) lg mr en pw sl ly dn iz tz nx st tk vl ef ep hO hB ol rm oz, gArr K 95 (am 1) NF, gArr K 190 (am 16) K1, gArrZ K 2 (am 17) JF] H locs → W p l e { frames := 2, cells := 0, slots := 0, locals := 45 } s m ([.ref (am 0), .int (iI x)] : List Value).toArray below meth c H locs 0 0 Q (F0 m 15 ls []) := by
      intro fu
      induction fu with
      | zero => intro w K1 H locs ls hfu; exact absurd hfu (Nat.not_lt_zero _)
      | succ fu ih =>
        intro w K1 H locs ls hfu hw hz hl hG
        refine lv_iload_n S.1 S.2.1 dX9_keep_15 rfl (lv_at hl 2 rfl) ?_
        refine g_bipush S dX9_keep_16 (by decide) ?_
        refine g_icmp_ge (tgt := 44) S dX9_keep_18 (by decide) (by omega) (by omega) (fun q18 => ?_) (fun q18 => ?_)
        · skip
          refine lv_aload_n S.1 S.2.1 dX9_keep_44 rfl (lv_at hl 0 rfl) ?_
          refine g_get S C hG iX90 0 rfl rfl 36 (by decide) (List.mem_of_getElem? (i := 3) rfl) rfl dX9_keep_45 ?_
          refine lv_iload_n S.1 S.2.1 dX9_keep_48 rfl (lv_at hl 1 rfl) ?_
          refine g_iconst S dX9_keep_49 ?_
          refine g_zast (gs' := [gMdl K am (thr (bI (0 ≤ x ∧ x ≤ 1)) 1 1) (am 1) lg mr en pw sl ly dn iz tz nx st tk vl ef ep hO hB ol rm oz, gArr K 95 (am 1) NF, gArr K 190 (am 16) K1, gArrZ K 2 (am 17) (upI JF x 1)]) S C hG 3 rfl (by omega) (by omega) (by omega) (Or.inr rfl) rfl dX9_keep_50 (fun H locs hG => ?_)
          refine lv_aload_n S.1 S.2.1 dX9_keep_51 rfl (lv_at hl 0 rfl) ?_
          refine g_invV (As := []) (rest := []) (gs' := (fun u : Unit => [gMdl K am (thr (bI (0 ≤ x ∧ x ≤ 1)) 1 1) (am 1) lg mr en pw sl ly dn iz tz nx st tk vl ef ep hO hB ol rm oz, gArr K 95 (am 1) NF, gArr K 190 (am 16) K1, gArrZ K 2 (am 17) (upI JF x 1)])) S C hG [0, 1] (c_X9_shots l K am (thr (bI (0 ≤ x ∧ x ≤ 1)) 1 1) (am 1) lg mr en pw sl ly dn iz tz nx st tk vl ef ep hO hB ol rm oz NF) rfl rfl 0 rfl rfl (cwV 0 S.2.2.2.2 gX9_keep_X9_shots rfl rfl rfl (by decide +kernel) ⟨Nat.le_of_ble_eq_true rfl, Nat.le_of_ble_eq_true rfl⟩) rfl hl.1 rfl (Nat.le_of_ble_eq_true rfl) dX9_keep_52 ⟨Nat.le_of_ble_eq_true rfl, Nat.le_of_ble_eq_true rfl⟩ (fun _ => Nat.le_of_ble_eq_true rfl) (fun _ => rfl) (fun v u H locs hp hG => ?_)
          subst hp
          have hG : gW K A s.heap [gMdl K am (thr (bI (0 ≤ x ∧ x ≤ 1)) 1 1) (am 1) lg mr en pw sl ly dn iz tz nx st tk vl ef ep hO hB ol rm oz, gArr K 95 (am 1) NF, gArr K 190 (am 16) K1, gArrZ K 2 (am 17) (upI JF x 1)] _ _ := hG
          exact g_iret S hr hlk hQ dX9_keep_55 (Nat.le_of_ble_eq_true rfl) (Nat.le_of_ble_eq_true rfl) ((K1) : (Int → Int)) ⟨rfl, (fun j => by rw [hz j, show w = 95 by omega])⟩ hG
        · skip
          refine lv_aload_n S.1 S.2.1 dX9_keep_21 rfl (lv_at hl 0 rfl) ?_
          refine g_get S C hG iX90 0 rfl rfl 35 (by decide) (List.mem_of_getElem? (i := 1) rfl) rfl dX9_keep_22 ?_
          refine g_bipush S dX9_keep_25 (by decide) ?_
          refine lv_iload_n S.1 S.2.1 dX9_keep_27 rfl (lv_at hl 1 rfl) ?_
          refine g_imul S dX9_keep_28 rfl ?_
          refine lv_iload_n S.1 S.2.1 dX9_keep_29 rfl (lv_at hl 2 rfl) ?_
          refine g_iadd S dX9_keep_30 rfl ?_
          refine lv_aload_n S.1 S.2.1 dX9_keep_31 rfl (lv_at hl 0 rfl) ?_
          refine g_get S C hG iX90 0 rfl rfl 1 (by decide) (List.mem_of_getElem? (i := 2) rfl) rfl dX9_keep_32 ?_
          refine lv_iload_n S.1 S.2.1 dX9_keep_35 rfl (lv_at hl 2 rfl) ?_
          refine g_iald S C hG 1 rfl (by omega) (by omega) (by omega) dX9_keep_36 ?_
          refine g_iast (gs' := [gMdl K am (thr (bI (0 ≤ x ∧ x ≤ 1)) 1 1) (am 1) lg mr en pw sl ly dn iz tz nx st tk vl ef ep hO hB ol rm oz, gArr K 95 (am 1) NF, gArr K 190 (am 16) (upI K1 ((95 * x) + w) (NF w)), gArrZ K 2 (am 17) JF]) S C hG 2 rfl (by omega) (by omega) (by omega) rfl dX9_keep_37 (fun H locs hG => ?_)
          refine lv_iinc (v := iI (w + 1)) (lv' := [(2, .int (iI (w + 1))), (0, .ref (am 0)), (1, .int (iI x))]) S.1 S.2.1 dX9_keep_38 hl (k := 2) rfl (g_iinc rfl) (by decide) rfl (fun ls hl => ?_)
          refine lv_goto (tgt := 15) S.1 S.2.1 dX9_keep_41 (by decide) ?_
          exact ih (w + 1) (upI K1 ((95 * x) + w) (NF w)) _ _ _ (by omega) (by omega) (fun j => by (unfold upI <;> have z1 := hz j <;> (repeat' split) <;> first | (congr 1 <;> omega) | omega | (rw [z1] <;> (repeat' split) <;> first | rfl | omega))) (lv_sub hl [1, 2, 0] rfl) hG
    exact L15 (Nat.succ (((95 : Int) - 0).toNat)) 0 KE _ _ _ (Nat.lt_succ_self _) (by omega) (fun j => by rw [if_neg (by omega)]) (lv_sub hl [1, 2, 0] rfl) hG
  · skip
    exact absurd (bI_t g1) q8

set_option maxHeartbeats 1000000 in
set_option maxRecDepth 100000 in
theorem b_X9_keep (l : Launch) (K : KC) (am : Nat → Nat) (th : Int) (lg : Int) (mr : Int) (en : Int) (pw : Int) (sl : Int) (ly : Int) (dn : Int) (iz : Int) (tz : Int) (nx : Int) (st : Int) (tk : Int) (vl : Int) (ef : Int) (ep : Int) (hO : Int) (hB : Int) (ol : Int) (rm : Int) (oz : Int) (NF : Int → Int) (x : Int) (hx : -2147483648 ≤ x ∧ x < 2147483648) (hbad : ¬ ((0 ≤ x ∧ x ≤ 1))) : mG l yX9_keep wsX9_keep 2 45 K [.ref (am 0), .int (iI x)] [gMdl K am th (am 1) lg mr en pw sl ly dn iz tz nx st tk vl ef ep hO hB ol rm oz, gArr K 95 (am 1) NF] (fun (v : Value) (u : Unit) => (v = .int (iI 0))) (fun (u : Unit) => [gMdl K am (thr (bI (0 ≤ x ∧ x ≤ 1)) 1 1) (am 1) lg mr en pw sl ly dn iz tz nx st tk vl ef ep hO hB ol rm oz, gArr K 95 (am 1) NF]) 0 0 := by
  refine mG_of cX9_keep 3 (by decide) rfl (Nat.le_of_ble_eq_true rfl) ?_
  intro p e s m below meth c A ls Q S C hG hl hr hlk hin hQ
  have S : CallFix p m c cX9_keep 3 s ([.ref (am 0), .int (iI x)] : List Value).toArray wsX9_keep RX9 := S
  have iX90 : ∀ w ∈ wsX90, w ∈ wsX9_keep := fun _ h => List.mem_cons_of_mem _ (List.mem_append_right _ (h))
  have hl : lv_has ls 3 [(0, .ref (am 0)), (1, .int (iI x))] := hl
  have hG : gW K A s.heap [gMdl K am th (am 1) lg mr en pw sl ly dn iz tz nx st tk vl ef ep hO hB ol rm oz, gArr K 95 (am 1) NF] s.heap [] := hG
  refine lv_aload_n S.1 S.2.1 dX9_keep_0 rfl (lv_at hl 0 rfl) ?_
  refine lv_iload_n S.1 S.2.1 dX9_keep_1 rfl (lv_at hl 1 rfl) ?_
  refine g_invS (As := [.int (iI x)]) (rest := [.ref (am 0)]) (gs' := (fun u : Unit => [gMdl K am th (am 1) lg mr en pw sl ly dn iz tz nx st tk vl ef ep hO hB ol rm oz, gArr K 95 (am 1) NF])) S C hG [] (c_X9_isKeep l K x hx) rfl rfl (va_cwS 1 S.2.2.2.2 gX9_keep_X9_isKeep rfl rfl rfl (by decide +kernel) ⟨Nat.le_of_ble_eq_true rfl, Nat.le_of_ble_eq_true rfl⟩) rfl hl.1 rfl (Nat.le_of_ble_eq_true rfl) dX9_keep_2 ⟨Nat.le_of_ble_eq_true rfl, Nat.le_of_ble_eq_true rfl⟩ (fun _ => Nat.le_of_ble_eq_true rfl) (fun _ => rfl) (fun v u H locs hp hG => ?_)
  subst hp
  refine g_invV (As := [.int (iI (bI (0 ≤ x ∧ x ≤ 1)))]) (rest := []) (gs' := (fun u : Unit => [gMdl K am (thr (bI (0 ≤ x ∧ x ≤ 1)) 1 1) (am 1) lg mr en pw sl ly dn iz tz nx st tk vl ef ep hO hB ol rm oz, gArr K 95 (am 1) NF])) S C hG [0] (c_X9_passes l K am th (am 1) lg mr en pw sl ly dn iz tz nx st tk vl ef ep hO hB ol rm oz (bI (0 ≤ x ∧ x ≤ 1)) (bI_01 _)) rfl rfl 0 rfl rfl (cwV 1 S.2.2.2.2 gX9_keep_X9_passes rfl rfl rfl (by decide +kernel) ⟨Nat.le_of_ble_eq_true rfl, Nat.le_of_ble_eq_true rfl⟩) rfl hl.1 rfl (Nat.le_of_ble_eq_true rfl) dX9_keep_5 ⟨Nat.le_of_ble_eq_true rfl, Nat.le_of_ble_eq_true rfl⟩ (fun _ => Nat.le_of_ble_eq_true rfl) (fun _ => rfl) (fun v u H locs hp hG => ?_)
  subst hp
  refine g_ifne_b (B := ((bI (0 ≤ x ∧ x ≤ 1)) = 1)) (tgt := 13) S dX9_keep_8 (by decide) (fun q8 => ?_) (fun q8 => ?_)
  · skip
    exact absurd (bI1 q8) hbad
  · skip
    refine g_iconst S dX9_keep_11 ?_
    have hG : gW K A s.heap [gMdl K am (thr (bI (0 ≤ x ∧ x ≤ 1)) 1 1) (am 1) lg mr en pw sl ly dn iz tz nx st tk vl ef ep hO hB ol rm oz, gArr K 95 (am 1) NF] _ _ := hG
    exact g_iret S hr hlk hQ dX9_keep_12 (Nat.le_of_ble_eq_true rfl) (Nat.le_of_ble_eq_true rfl) (() : Unit) rfl hG

set_option maxHeartbeats 1000000 in
set_option maxRecDepth 100000 in
theorem c_X9_restore (l : Launch) (K : KC) (am : Nat → Nat) (th : Int) (lg : Int) (mr : Int) (en : Int) (pw : Int) (sl : Int) (ly : Int) (dn : Int) (iz : Int) (tz : Int) (nx : Int) (st : Int) (tk : Int) (vl : Int) (ef : Int) (ep : Int) (hO : Int) (hB : Int) (ol : Int) (rm : Int) (oz : Int) (NF : Int → Int) (PA : Int → Int) (KE : Int → Int) (JF : Int → Int) (x : Int) (hrm : 0 ≤ rm ∧ rm ≤ 6) (hx : -2147483648 ≤ x ∧ x < 2147483648) (hJ : ∀ i : Int, 0 ≤ i → i < 2 → JF i = 0 ∨ JF i = 1) (g1 : 0 ≤ x ∧ x ≤ 1) (g2 : ¬ (0 ≤ x ∧ x ≤ 1) ∨ JF x = 1) : mG l yX9_restore wsX9_restore 2 45 K [.ref (am 0), .int (iI x)] [gMdl K am th (am 1) lg mr en pw sl ly dn iz tz nx st tk vl ef ep hO hB ol rm oz, gArr K 95 (am 1) NF, gArr K 570 (am 18) PA, gArr K 190 (am 16) KE, gArrZ K 2 (am 17) JF] (fun (v : Value) (u : (Int → Int) × Int × (Int → Int)) => (v = .int (iI (u.2.2 4))) ∧ (∀ j : Int, 0 ≤ j → j < 570 → u.1 j = remP rm PA NF j) ∧ (u.2.1 = min (rm + 1) 6) ∧ (u.2.2 = secN KE x NF)) (fun (u : (Int → Int) × Int × (Int → Int)) => [gMdl K am (thr (bI (0 ≤ x ∧ x ≤ 1)) (bI (¬ (0 ≤ x ∧ x ≤ 1) ∨ JF x = 1)) 1) (am 1) lg mr en pw sl ly dn iz tz nx st tk vl ef ep hO hB ol u.2.1 oz, gArr K 95 (am 1) u.2.2, gArr K 570 (am 18) u.1, gArr K 190 (am 16) KE, gArrZ K 2 (am 17) JF]) 0 0 := by
  refine mG_of cX9_restore 3 (by decide) rfl (Nat.le_of_ble_eq_true rfl) ?_
  intro p e s m below meth c A ls Q S C hG hl hr hlk hin hQ
  have S : CallFix p m c cX9_restore 3 s ([.ref (am 0), .int (iI x)] : List Value).toArray wsX9_restore RX9 := S
  have iX90 : ∀ w ∈ wsX90, w ∈ wsX9_restore := fun _ h => List.mem_cons_of_mem _ (List.mem_append_right _ (h))
  have hl : lv_has ls 3 [(0, .ref (am 0)), (1, .int (iI x))] := hl
  have hG : gW K A s.heap [gMdl K am th (am 1) lg mr en pw sl ly dn iz tz nx st tk vl ef ep hO hB ol rm oz, gArr K 95 (am 1) NF, gArr K 570 (am 18) PA, gArr K 190 (am 16) KE, gArrZ K 2 (am 17) JF] s.heap [] := hG
  refine lv_aload_n S.1 S.2.1 dX9_restore_0 rfl (lv_at hl 0 rfl) ?_
  refine lv_iload_n S.1 S.2.1 dX9_restore_1 rfl (lv_at hl 1 rfl) ?_
  refine g_invS (As := [.int (iI x)]) (rest := [.ref (am 0)]) (gs' := (fun u : Unit => [gMdl K am th (am 1) lg mr en pw sl ly dn iz tz nx st tk vl ef ep hO hB ol rm oz, gArr K 95 (am 1) NF, gArr K 570 (am 18) PA, gArr K 190 (am 16) KE, gArrZ K 2 (am 17) JF])) S C hG [] (c_X9_isKeep l K x hx) rfl rfl (va_cwS 1 S.2.2.2.2 gX9_restore_X9_isKeep rfl rfl rfl (by decide +kernel) ⟨Nat.le_of_ble_eq_true rfl, Nat.le_of_ble_eq_true rfl⟩) rfl hl.1 rfl (Nat.le_of_ble_eq_true rfl) dX9_restore_2 ⟨Nat.le_of_ble_eq_true rfl, Nat.le_of_ble_eq_true rfl⟩ (fun _ => Nat.le_of_ble_eq_true rfl) (fun _ => rfl) (fun v u H locs hp hG => ?_)
  subst hp
  refine lv_iload_n S.1 S.2.1 dX9_restore_5 rfl (lv_at hl 1 rfl) ?_
  refine g_invS (As := [.int (iI x)]) (rest := [.int (iI (bI (0 ≤ x ∧ x ≤ 1))), .ref (am 0)]) (gs' := (fun u : Unit => [gMdl K am th (am 1) lg mr en pw sl ly dn iz tz nx st tk vl ef ep hO hB ol rm oz, gArr K 95 (am 1) NF, gArr K 570 (am 18) PA, gArr K 190 (am 16) KE, gArrZ K 2 (am 17) JF])) S C hG [] (c_X9_isKeep l K x hx) rfl rfl (va_cwS 1 S.2.2.2.2 gX9_restore_X9_isKeep rfl rfl rfl (by decide +kernel) ⟨Nat.le_of_ble_eq_true rfl, Nat.le_of_ble_eq_true rfl⟩) rfl hl.1 rfl (Nat.le_of_ble_eq_true rfl) dX9_restore_6 ⟨Nat.le_of_ble_eq_true rfl, Nat.le_of_ble_eq_true rfl⟩ (fun _ => Nat.le_of_ble_eq_true rfl) (fun _ => rfl) (fun v u H locs hp hG => ?_)
  subst hp
  have J26 : ∀ (H : Heap) (locs : List Loc) (ls : Array Slot), lv_has ls 3 [(0, .ref (am 0)), (1, .int (iI x))] → gW K A s.heap [gMdl K am th (am 1) lg mr en pw sl ly dn iz tz nx st tk vl ef ep hO hB ol rm oz, gArr K 95 (am 1) NF, gArr K 570 (am 18) PA, gArr K 190 (am 16) KE, gArrZ K 2 (am 17) JF] H locs → W p l e { frames := 2, cells := 0, slots := 0, locals := 45 } s m ([.ref (am 0), .int (iI x)] : List Value).toArray below meth c H locs 0 0 Q (F0 m 26 ls [.int (iI (bI (¬ (0 ≤ x ∧ x ≤ 1) ∨ JF x = 1))), .int (iI (bI (0 ≤ x ∧ x ≤ 1))), .ref (am 0)]) := by
    intro  H locs ls  hl hG
    refine g_invV (As := [.int (iI (bI (0 ≤ x ∧ x ≤ 1))), .int (iI (bI (¬ (0 ≤ x ∧ x ≤ 1) ∨ JF x = 1)))]) (rest := []) (gs' := (fun u : Unit => [gMdl K am (thr (bI (0 ≤ x ∧ x ≤ 1)) (bI (¬ (0 ≤ x ∧ x ≤ 1) ∨ JF x = 1)) 1) (am 1) lg mr en pw sl ly dn iz tz nx st tk vl ef ep hO hB ol rm oz, gArr K 95 (am 1) NF, gArr K 570 (am 18) PA, gArr K 190 (am 16) KE, gArrZ K 2 (am 17) JF])) S C hG [0] (c_X9_passes2 l K am th (am 1) lg mr en pw sl ly dn iz tz nx st tk vl ef ep hO hB ol rm oz (bI (0 ≤ x ∧ x ≤ 1)) (bI (¬ (0 ≤ x ∧ x ≤ 1) ∨ JF x = 1)) (bI_01 _) (bI_01 _)) rfl rfl 0 rfl rfl (cwV 2 S.2.2.2.2 gX9_restore_X9_passes2 rfl rfl rfl (by decide +kernel) ⟨Nat.le_of_ble_eq_true rfl, Nat.le_of_ble_eq_true rfl⟩) rfl hl.1 rfl (Nat.le_of_ble_eq_true rfl) dX9_restore_26 ⟨Nat.le_of_ble_eq_true rfl, Nat.le_of_ble_eq_true rfl⟩ (fun _ => Nat.le_of_ble_eq_true rfl) (fun _ => rfl) (fun v u H locs hp hG => ?_)
    subst hp
    refine g_ifne_b (B := ((bI (0 ≤ x ∧ x ≤ 1)) = 1 ∧ (bI (¬ (0 ≤ x ∧ x ≤ 1) ∨ JF x = 1)) = 1)) (tgt := 34) S dX9_restore_29 (by decide) (fun q29 => ?_) (fun q29 => ?_)
    · skip
      refine lv_aload_n S.1 S.2.1 dX9_restore_34 rfl (lv_at hl 0 rfl) ?_
      refine g_invVv (As := []) (rest := []) (gs' := (fun u : (Int → Int) × Int => [gMdl K am (thr (bI (0 ≤ x ∧ x ≤ 1)) (bI (¬ (0 ≤ x ∧ x ≤ 1) ∨ JF x = 1)) 1) (am 1) lg mr en pw sl ly dn iz tz nx st tk vl ef ep hO hB ol u.2 oz, gArr K 95 (am 1) NF, gArr K 570 (am 18) u.1, gArr K 190 (am 16) KE, gArrZ K 2 (am 17) JF])) S C hG [0, 1, 2] (c_X9_remember l K am (thr (bI (0 ≤ x ∧ x ≤ 1)) (bI (¬ (0 ≤ x ∧ x ≤ 1) ∨ JF x = 1)) 1) lg mr en pw sl ly dn iz tz nx st tk vl ef ep hO hB ol rm oz NF PA hrm) rfl rfl 0 rfl rfl (cwV 0 S.2.2.2.2 gX9_restore_X9_remember rfl rfl rfl (by decide +kernel) ⟨Nat.le_of_ble_eq_true rfl, Nat.le_of_ble_eq_true rfl⟩) rfl hl.1 rfl (Nat.le_of_ble_eq_true rfl) dX9_restore_35 ⟨Nat.le_of_ble_eq_true rfl, Nat.le_of_ble_eq_true rfl⟩ (fun _ => Nat.le_of_ble_eq_true rfl) (fun _ => rfl) (fun u H locs hp hG => ?_)
      obtain ⟨P2_35, rm2_35⟩ := u
      obtain ⟨hP_35, hm_35⟩ := hp
      have hP_35 : ∀ j : Int, 0 ≤ j → j < 570 → P2_35 j = remP rm PA NF j := hP_35
      have hm_35 : rm2_35 = min (rm + 1) 6 := hm_35
      have hG : gW K A s.heap [gMdl K am (thr (bI (0 ≤ x ∧ x ≤ 1)) (bI (¬ (0 ≤ x ∧ x ≤ 1) ∨ JF x = 1)) 1) (am 1) lg mr en pw sl ly dn iz tz nx st tk vl ef ep hO hB ol rm2_35 oz, gArr K 95 (am 1) NF, gArr K 570 (am 18) P2_35, gArr K 190 (am 16) KE, gArrZ K 2 (am 17) JF] _ _ := hG
      refine g_iconst S dX9_restore_38 ?_
      refine lv_istore_n (lv' := [(2, .int (iI 0)), (0, .ref (am 0)), (1, .int (iI x))]) S.1 S.2.1 dX9_restore_39 rfl hl (by decide) rfl (fun ls hl => ?_)
      have L40 : ∀ (fu : Nat) (w : Int) (F1 : Int → Int) (H : Heap) (locs : List Loc) (ls : Array Slot), (((95 : Int) - w).toNat) < fu → (0 ≤ w ∧ w ≤ 95) → (∀ j : Int, F1 j = if 0 ≤ j ∧ j < w then KE (95 * x + j) else NF j) → lv_has ls 3 [(0, .ref (am 0)), (1, .int (iI x)), (2, .int (iI w))] → gW K A s.heap [gMdl K am (thr (bI (0 ≤ x ∧ x ≤ 1)) (bI (¬ (0 ≤ x ∧ x ≤ 1) ∨ JF x = 1)) 1) (am 1) lg mr en pw sl ly dn iz tz nx st tk vl ef ep hO hB ol rm2_35 oz, gArr K 95 (am 1) F1, gArr K 570 (am 18) P2_35, gArr K 190 (am 16) KE, gArrZ K 2 (am 17) JF] H locs → W p l e { frames := 2, cells := 0, slots := 0, locals := 45 } s m ([.ref (am 0), .int (iI x)] : List Value).toArray below meth c H locs 0 0 Q (F0 m 40 ls []) := by
        intro fu
        induction fu with
        | zero => intro w F1 H locs ls hfu; exact absurd hfu (Nat.not_lt_zero _)
        | succ fu ih =>
          intro w F1 H locs ls hfu hw hz hl hG
          refine lv_iload_n S.1 S.2.1 dX9_restore_40 rfl (lv_at hl 2 rfl) ?_
          refine g_bipush S dX9_restore_41 (by decide) ?_
          refine g_icmp_ge (tgt := 69) S dX9_restore_43 (by decide) (by omega) (by omega) (fun q43 => ?_) (fun q43 => ?_)
          · skip
            refine lv_aload_n S.1 S.2.1 dX9_restore_69 rfl (lv_at hl 0 rfl) ?_
            refine g_invV (As := []) (rest := []) (gs' := (fun u : Unit => [gMdl K am (thr (bI (0 ≤ x ∧ x ≤ 1)) (bI (¬ (0 ≤ x ∧ x ≤ 1) ∨ JF x = 1)) 1) (am 1) lg mr en pw sl ly dn iz tz nx st tk vl ef ep hO hB ol rm2_35 oz, gArr K 95 (am 1) F1, gArr K 570 (am 18) P2_35, gArr K 190 (am 16) KE, gArrZ K 2 (am 17) JF])) S C hG [0, 1] (c_X9_shots l K am (thr (bI (0 ≤ x ∧ x ≤ 1)) (bI (¬ (0 ≤ x ∧ x ≤ 1) ∨ JF x = 1)) 1) (am 1) lg mr en pw sl ly dn iz tz nx st tk vl ef ep hO hB ol rm2_35 oz F1) rfl rfl 0 rfl rfl (cwV 0 S.2.2.2.2 gX9_restore_X9_shots rfl rfl rfl (by decide +kernel) ⟨Nat.le_of_ble_eq_true rfl, Nat.le_of_ble_eq_true rfl⟩) rfl hl.1 rfl (Nat.le_of_ble_eq_true rfl) dX9_restore_70 ⟨Nat.le_of_ble_eq_true rfl, Nat.le_of_ble_eq_true rfl⟩ (fun _ => Nat.le_of_ble_eq_true rfl) (fun _ => rfl) (fun v u H locs hp hG => ?_)
            subst hp
            have hG : gW K A s.heap [gMdl K am (thr (bI (0 ≤ x ∧ x ≤ 1)) (bI (¬ (0 ≤ x ∧ x ≤ 1) ∨ JF x = 1)) 1) (am 1) lg mr en pw sl ly dn iz tz nx st tk vl ef ep hO hB ol rm2_35 oz, gArr K 95 (am 1) F1, gArr K 570 (am 18) P2_35, gArr K 190 (am 16) KE, gArrZ K 2 (am 17) JF] _ _ := hG
            exact g_iret S hr hlk hQ dX9_restore_73 (Nat.le_of_ble_eq_true rfl) (Nat.le_of_ble_eq_true rfl) ((P2_35, rm2_35, F1) : (Int → Int) × Int × (Int → Int)) ⟨rfl, hP_35, hm_35, (funext fun j => by show F1 j = _ <;> rw [hz j, show w = 95 by omega] <;> rfl)⟩ hG
          · skip
            refine lv_aload_n S.1 S.2.1 dX9_restore_46 rfl (lv_at hl 0 rfl) ?_
            refine g_get S C hG iX90 0 rfl rfl 1 (by decide) (List.mem_of_getElem? (i := 2) rfl) rfl dX9_restore_47 ?_
            refine lv_iload_n S.1 S.2.1 dX9_restore_50 rfl (lv_at hl 2 rfl) ?_
            refine lv_aload_n S.1 S.2.1 dX9_restore_51 rfl (lv_at hl 0 rfl) ?_
            refine g_get S C hG iX90 0 rfl rfl 35 (by decide) (List.mem_of_getElem? (i := 3) rfl) rfl dX9_restore_52 ?_
            refine g_bipush S dX9_restore_55 (by decide) ?_
            refine lv_iload_n S.1 S.2.1 dX9_restore_57 rfl (lv_at hl 1 rfl) ?_
            refine g_imul S dX9_restore_58 rfl ?_
            refine lv_iload_n S.1 S.2.1 dX9_restore_59 rfl (lv_at hl 2 rfl) ?_
            refine g_iadd S dX9_restore_60 rfl ?_
            refine g_iald S C hG 3 rfl (by omega) (by omega) (by omega) dX9_restore_61 ?_
            refine g_iast (gs' := [gMdl K am (thr (bI (0 ≤ x ∧ x ≤ 1)) (bI (¬ (0 ≤ x ∧ x ≤ 1) ∨ JF x = 1)) 1) (am 1) lg mr en pw sl ly dn iz tz nx st tk vl ef ep hO hB ol rm2_35 oz, gArr K 95 (am 1) (upI F1 w (KE ((95 * x) + w))), gArr K 570 (am 18) P2_35, gArr K 190 (am 16) KE, gArrZ K 2 (am 17) JF]) S C hG 1 rfl (by omega) (by omega) (by omega) rfl dX9_restore_62 (fun H locs hG => ?_)
            refine lv_iinc (v := iI (w + 1)) (lv' := [(2, .int (iI (w + 1))), (0, .ref (am 0)), (1, .int (iI x))]) S.1 S.2.1 dX9_restore_63 hl (k := 2) rfl (g_iinc rfl) (by decide) rfl (fun ls hl => ?_)
            refine lv_goto (tgt := 40) S.1 S.2.1 dX9_restore_66 (by decide) ?_
            exact ih (w + 1) (upI F1 w (KE ((95 * x) + w))) _ _ _ (by omega) (by omega) (fun j => by (unfold upI <;> have z1 := hz j <;> (repeat' split) <;> first | (congr 1 <;> omega) | omega | (rw [z1] <;> (repeat' split) <;> first | rfl | omega))) (lv_sub hl [1, 2, 0] rfl) hG
      exact L40 (Nat.succ (((95 : Int) - 0).toNat)) 0 NF _ _ _ (Nat.lt_succ_self _) (by omega) (fun j => by rw [if_neg (by omega)]) (lv_sub hl [1, 2, 0] rfl) hG
    · skip
      exact absurd ⟨bI_t g1, bI_t g2⟩ q29
  refine g_ifeq_b (B := (0 ≤ x ∧ x ≤ 1)) (tgt := 21) S dX9_restore_9 (by decide) (fun q9 => ?_) (fun q9 => ?_)
  · skip
    refine g_iconst S dX9_restore_21 ?_
    refine g_top (w := .int (iI (bI (¬ (0 ≤ x ∧ x ≤ 1) ∨ JF x = 1)))) (congrArg (fun z : Int => Value.int (iI z)) ((bI_t (by omega)).symm)) ?_
    refine lv_goto (tgt := 26) S.1 S.2.1 dX9_restore_22 (by decide) ?_
    exact J26 _ _ _ (lv_sub hl [0, 1] rfl) hG
  · skip
    have hJ9 := hJ x (by omega) (by omega)
    refine lv_aload_n S.1 S.2.1 dX9_restore_12 rfl (lv_at hl 0 rfl) ?_
    refine g_get S C hG iX90 0 rfl rfl 36 (by decide) (List.mem_of_getElem? (i := 1) rfl) rfl dX9_restore_13 ?_
    refine lv_iload_n S.1 S.2.1 dX9_restore_16 rfl (lv_at hl 1 rfl) ?_
    refine g_zald S C hG 4 rfl (by omega) (by omega) (by omega) dX9_restore_17 ?_
    refine g_if_eq (tgt := 25) S dX9_restore_18 (by decide) (by omega) (fun q18 => ?_) (fun q18 => ?_)
    · skip
      refine g_iconst S dX9_restore_25 ?_
      refine g_top (w := .int (iI (bI (¬ (0 ≤ x ∧ x ≤ 1) ∨ JF x = 1)))) (congrArg (fun z : Int => Value.int (iI z)) ((bI_f (by omega)).symm)) ?_
      exact J26 _ _ _ (lv_sub hl [0, 1] rfl) hG
    · skip
      refine g_iconst S dX9_restore_21 ?_
      refine g_top (w := .int (iI (bI (¬ (0 ≤ x ∧ x ≤ 1) ∨ JF x = 1)))) (congrArg (fun z : Int => Value.int (iI z)) ((bI_t (by omega)).symm)) ?_
      refine lv_goto (tgt := 26) S.1 S.2.1 dX9_restore_22 (by decide) ?_
      exact J26 _ _ _ (lv_sub hl [0, 1] rfl) hG

set_option maxHeartbeats 1000000 in
set_option maxRecDepth 100000 in
theorem b_X9_restore (l : Launch) (K : KC) (am : Nat → Nat) (th : Int) (lg : Int) (mr : Int) (en : Int) (pw : Int) (sl : Int) (ly : Int) (dn : Int) (iz : Int) (tz : Int) (nx : Int) (st : Int) (tk : Int) (vl : Int) (ef : Int) (ep : Int) (hO : Int) (hB : Int) (ol : Int) (rm : Int) (oz : Int) (NF : Int → Int) (KE : Int → Int) (JF : Int → Int) (x : Int) (hx : -2147483648 ≤ x ∧ x < 2147483648) (hJ : ∀ i : Int, 0 ≤ i → i < 2 → JF i = 0 ∨ JF i = 1) (hbad : ¬ ((0 ≤ x ∧ x ≤ 1) ∧ (¬ (0 ≤ x ∧ x ≤ 1) ∨ JF x = 1))) : mG l yX9_restore wsX9_restore 2 45 K [.ref (am 0), .int (iI x)] [gMdl K am th (am 1) lg mr en pw sl ly dn iz tz nx st tk vl ef ep hO hB ol rm oz, gArr K 95 (am 1) NF, gArr K 190 (am 16) KE, gArrZ K 2 (am 17) JF] (fun (v : Value) (u : Unit) => (v = .int (iI 0))) (fun (u : Unit) => [gMdl K am (thr (bI (0 ≤ x ∧ x ≤ 1)) (bI (¬ (0 ≤ x ∧ x ≤ 1) ∨ JF x = 1)) 1) (am 1) lg mr en pw sl ly dn iz tz nx st tk vl ef ep hO hB ol rm oz, gArr K 95 (am 1) NF, gArr K 190 (am 16) KE, gArrZ K 2 (am 17) JF]) 0 0 := by
  refine mG_of cX9_restore 3 (by decide) rfl (Nat.le_of_ble_eq_true rfl) ?_
  intro p e s m below meth c A ls Q S C hG hl hr hlk hin hQ
  have S : CallFix p m c cX9_restore 3 s ([.ref (am 0), .int (iI x)] : List Value).toArray wsX9_restore RX9 := S
  have iX90 : ∀ w ∈ wsX90, w ∈ wsX9_restore := fun _ h => List.mem_cons_of_mem _ (List.mem_append_right _ (h))
  have hl : lv_has ls 3 [(0, .ref (am 0)), (1, .int (iI x))] := hl
  have hG : gW K A s.heap [gMdl K am th (am 1) lg mr en pw sl ly dn iz tz nx st tk vl ef ep hO hB ol rm oz, gArr K 95 (am 1) NF, gArr K 190 (am 16) KE, gArrZ K 2 (am 17) JF] s.heap [] := hG
  refine lv_aload_n S.1 S.2.1 dX9_restore_0 rfl (lv_at hl 0 rfl) ?_
  refine lv_iload_n S.1 S.2.1 dX9_restore_1 rfl (lv_at hl 1 rfl) ?_
  refine g_invS (As := [.int (iI x)]) (rest := [.ref (am 0)]) (gs' := (fun u : Unit => [gMdl K am th (am 1) lg mr en pw sl ly dn iz tz nx st tk vl ef ep hO hB ol rm oz, gArr K 95 (am 1) NF, gArr K 190 (am 16) KE, gArrZ K 2 (am 17) JF])) S C hG [] (c_X9_isKeep l K x hx) rfl rfl (va_cwS 1 S.2.2.2.2 gX9_restore_X9_isKeep rfl rfl rfl (by decide +kernel) ⟨Nat.le_of_ble_eq_true rfl, Nat.le_of_ble_eq_true rfl⟩) rfl hl.1 rfl (Nat.le_of_ble_eq_true rfl) dX9_restore_2 ⟨Nat.le_of_ble_eq_true rfl, Nat.le_of_ble_eq_true rfl⟩ (fun _ => Nat.le_of_ble_eq_true rfl) (fun _ => rfl) (fun v u H locs hp hG => ?_)
  subst hp
  refine lv_iload_n S.1 S.2.1 dX9_restore_5 rfl (lv_at hl 1 rfl) ?_
  refine g_invS (As := [.int (iI x)]) (rest := [.int (iI (bI (0 ≤ x ∧ x ≤ 1))), .ref (am 0)]) (gs' := (fun u : Unit => [gMdl K am th (am 1) lg mr en pw sl ly dn iz tz nx st tk vl ef ep hO hB ol rm oz, gArr K 95 (am 1) NF, gArr K 190 (am 16) KE, gArrZ K 2 (am 17) JF])) S C hG [] (c_X9_isKeep l K x hx) rfl rfl (va_cwS 1 S.2.2.2.2 gX9_restore_X9_isKeep rfl rfl rfl (by decide +kernel) ⟨Nat.le_of_ble_eq_true rfl, Nat.le_of_ble_eq_true rfl⟩) rfl hl.1 rfl (Nat.le_of_ble_eq_true rfl) dX9_restore_6 ⟨Nat.le_of_ble_eq_true rfl, Nat.le_of_ble_eq_true rfl⟩ (fun _ => Nat.le_of_ble_eq_true rfl) (fun _ => rfl) (fun v u H locs hp hG => ?_)
  subst hp
  have J26 : ∀ (H : Heap) (locs : List Loc) (ls : Array Slot), lv_has ls 3 [(0, .ref (am 0)), (1, .int (iI x))] → gW K A s.heap [gMdl K am th (am 1) lg mr en pw sl ly dn iz tz nx st tk vl ef ep hO hB ol rm oz, gArr K 95 (am 1) NF, gArr K 190 (am 16) KE, gArrZ K 2 (am 17) JF] H locs → W p l e { frames := 2, cells := 0, slots := 0, locals := 45 } s m ([.ref (am 0), .int (iI x)] : List Value).toArray below meth c H locs 0 0 Q (F0 m 26 ls [.int (iI (bI (¬ (0 ≤ x ∧ x ≤ 1) ∨ JF x = 1))), .int (iI (bI (0 ≤ x ∧ x ≤ 1))), .ref (am 0)]) := by
    intro  H locs ls  hl hG
    refine g_invV (As := [.int (iI (bI (0 ≤ x ∧ x ≤ 1))), .int (iI (bI (¬ (0 ≤ x ∧ x ≤ 1) ∨ JF x = 1)))]) (rest := []) (gs' := (fun u : Unit => [gMdl K am (thr (bI (0 ≤ x ∧ x ≤ 1)) (bI (¬ (0 ≤ x ∧ x ≤ 1) ∨ JF x = 1)) 1) (am 1) lg mr en pw sl ly dn iz tz nx st tk vl ef ep hO hB ol rm oz, gArr K 95 (am 1) NF, gArr K 190 (am 16) KE, gArrZ K 2 (am 17) JF])) S C hG [0] (c_X9_passes2 l K am th (am 1) lg mr en pw sl ly dn iz tz nx st tk vl ef ep hO hB ol rm oz (bI (0 ≤ x ∧ x ≤ 1)) (bI (¬ (0 ≤ x ∧ x ≤ 1) ∨ JF x = 1)) (bI_01 _) (bI_01 _)) rfl rfl 0 rfl rfl (cwV 2 S.2.2.2.2 gX9_restore_X9_passes2 rfl rfl rfl (by decide +kernel) ⟨Nat.le_of_ble_eq_true rfl, Nat.le_of_ble_eq_true rfl⟩) rfl hl.1 rfl (Nat.le_of_ble_eq_true rfl) dX9_restore_26 ⟨Nat.le_of_ble_eq_true rfl, Nat.le_of_ble_eq_true rfl⟩ (fun _ => Nat.le_of_ble_eq_true rfl) (fun _ => rfl) (fun v u H locs hp hG => ?_)
    subst hp
    refine g_ifne_b (B := ((bI (0 ≤ x ∧ x ≤ 1)) = 1 ∧ (bI (¬ (0 ≤ x ∧ x ≤ 1) ∨ JF x = 1)) = 1)) (tgt := 34) S dX9_restore_29 (by decide) (fun q29 => ?_) (fun q29 => ?_)
    · skip
      exact absurd ⟨bI1 q29.1, bI1 q29.2⟩ hbad
    · skip
      refine g_iconst S dX9_restore_32 ?_
      have hG : gW K A s.heap [gMdl K am (thr (bI (0 ≤ x ∧ x ≤ 1)) (bI (¬ (0 ≤ x ∧ x ≤ 1) ∨ JF x = 1)) 1) (am 1) lg mr en pw sl ly dn iz tz nx st tk vl ef ep hO hB ol rm oz, gArr K 95 (am 1) NF, gArr K 190 (am 16) KE, gArrZ K 2 (am 17) JF] _ _ := hG
      exact g_iret S hr hlk hQ dX9_restore_33 (Nat.le_of_ble_eq_true rfl) (Nat.le_of_ble_eq_true rfl) (() : Unit) rfl hG
  refine g_ifeq_b (B := (0 ≤ x ∧ x ≤ 1)) (tgt := 21) S dX9_restore_9 (by decide) (fun q9 => ?_) (fun q9 => ?_)
  · skip
    refine g_iconst S dX9_restore_21 ?_
    refine g_top (w := .int (iI (bI (¬ (0 ≤ x ∧ x ≤ 1) ∨ JF x = 1)))) (congrArg (fun z : Int => Value.int (iI z)) ((bI_t (by omega)).symm)) ?_
    refine lv_goto (tgt := 26) S.1 S.2.1 dX9_restore_22 (by decide) ?_
    exact J26 _ _ _ (lv_sub hl [0, 1] rfl) hG
  · skip
    have hJ9 := hJ x (by omega) (by omega)
    refine lv_aload_n S.1 S.2.1 dX9_restore_12 rfl (lv_at hl 0 rfl) ?_
    refine g_get S C hG iX90 0 rfl rfl 36 (by decide) (List.mem_of_getElem? (i := 1) rfl) rfl dX9_restore_13 ?_
    refine lv_iload_n S.1 S.2.1 dX9_restore_16 rfl (lv_at hl 1 rfl) ?_
    refine g_zald S C hG 3 rfl (by omega) (by omega) (by omega) dX9_restore_17 ?_
    refine g_if_eq (tgt := 25) S dX9_restore_18 (by decide) (by omega) (fun q18 => ?_) (fun q18 => ?_)
    · skip
      refine g_iconst S dX9_restore_25 ?_
      refine g_top (w := .int (iI (bI (¬ (0 ≤ x ∧ x ≤ 1) ∨ JF x = 1)))) (congrArg (fun z : Int => Value.int (iI z)) ((bI_f (by omega)).symm)) ?_
      exact J26 _ _ _ (lv_sub hl [0, 1] rfl) hG
    · skip
      refine g_iconst S dX9_restore_21 ?_
      refine g_top (w := .int (iI (bI (¬ (0 ≤ x ∧ x ≤ 1) ∨ JF x = 1)))) (congrArg (fun z : Int => Value.int (iI z)) ((bI_t (by omega)).symm)) ?_
      refine lv_goto (tgt := 26) S.1 S.2.1 dX9_restore_22 (by decide) ?_
      exact J26 _ _ _ (lv_sub hl [0, 1] rfl) hG
