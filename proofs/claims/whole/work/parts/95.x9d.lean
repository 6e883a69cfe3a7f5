set_option maxHeartbeats 1000000 in
set_option maxRecDepth 100000 in
theorem c_X9_sumUp (l : Launch) (K : KC) (b : Nat) (F : Int → Int) (i : Int) (h0 : 0 ≤ i ∧ i ≤ 60) : mG l yX9_sumUp wsX9_sumUp 0 0 K [.ref b, .int (iI i)] [gArr K 60 b F] (fun (v : Value) (u : Unit) => (v = .int (iI (sF F i.toNat)))) (fun (u : Unit) => [gArr K 60 b F]) 0 0 := by
  refine mG_of cX9_sumUp 4 (by decide) rfl (Nat.le_of_ble_eq_true rfl) ?_
  intro p e s m below meth c A ls Q S C hG hl hr hlk hin hQ
  have S : CallFix p m c cX9_sumUp 4 s ([.ref b, .int (iI i)] : List Value).toArray wsX9_sumUp RX9 := S
  have hl : lv_has ls 4 [(0, .ref b), (1, .int (iI i))] := hl
  have hG : gW K A s.heap [gArr K 60 b F] s.heap [] := hG
  refine g_iconst S dX9_sumUp_0 ?_
  refine lv_istore_n (lv' := [(2, .int (iI 0)), (0, .ref b), (1, .int (iI i))]) S.1 S.2.1 dX9_sumUp_1 rfl hl (by decide) rfl (fun ls hl => ?_)
  refine g_iconst S dX9_sumUp_2 ?_
  refine lv_istore_n (lv' := [(3, .int (iI 0)), (2, .int (iI 0)), (0, .ref b), (1, .int (iI i))]) S.1 S.2.1 dX9_sumUp_3 rfl hl (by decide) rfl (fun ls hl => ?_)
  have L4 : ∀ (fu : Nat) (k : Nat) (w : Int) (f : Int) (H : Heap) (locs : List Loc) (ls : Array Slot), ((i - w).toNat) < fu → (w = (k : Int) ∧ w ≤ i) → (f = sF F k) → lv_has ls 4 [(0, .ref b), (1, .int (iI i)), (2, .int (iI f)), (3, .int (iI w))] → gW K A s.heap [gArr K 60 b F] H locs → W p l e { frames := 0, cells := 0, slots := 0, locals := 0 } s m ([.ref b, .int (iI i)] : List Value).toArray below meth c H locs 0 0 Q (F0 m 4 ls []) := by
    intro fu
    induction fu with
    | zero => intro k w f H locs ls hfu; exact absurd hfu (Nat.not_lt_zero _)
    | succ fu ih =>
      intro k w f H locs ls hfu hw hb hl hG
      refine lv_iload_n S.1 S.2.1 dX9_sumUp_4 rfl (lv_at hl 3 rfl) ?_
      refine lv_iload_n S.1 S.2.1 dX9_sumUp_5 rfl (lv_at hl 1 rfl) ?_
      refine g_icmp_ge (tgt := 21) S dX9_sumUp_6 (by decide) (by omega) (by omega) (fun q6 => ?_) (fun q6 => ?_)
      · skip
        refine lv_iload_n S.1 S.2.1 dX9_sumUp_21 rfl (lv_at hl 2 rfl) ?_
        have hG : gW K A s.heap [gArr K 60 b F] _ _ := hG
        exact g_iret S hr hlk hQ dX9_sumUp_22 (Nat.le_of_ble_eq_true rfl) (Nat.le_of_ble_eq_true rfl) (() : Unit) (congrArg (fun z : Int => Value.int (iI z)) (by rw [hb, show i.toNat = k by omega])) hG
      · skip
        refine lv_iload_n S.1 S.2.1 dX9_sumUp_9 rfl (lv_at hl 2 rfl) ?_
        refine lv_aload_n S.1 S.2.1 dX9_sumUp_10 rfl (lv_at hl 0 rfl) ?_
        refine lv_iload_n S.1 S.2.1 dX9_sumUp_11 rfl (lv_at hl 3 rfl) ?_
        refine g_iald S C hG 0 rfl (by omega) (by omega) (by omega) dX9_sumUp_12 ?_
        refine g_iadd S dX9_sumUp_13 rfl ?_
        refine lv_istore_n (lv' := [(2, .int (iI (f + (F w)))), (0, .ref b), (1, .int (iI i)), (3, .int (iI w))]) S.1 S.2.1 dX9_sumUp_14 rfl hl (by decide) rfl (fun ls hl => ?_)
        refine lv_iinc (v := iI (w + 1)) (lv' := [(3, .int (iI (w + 1))), (2, .int (iI (f + (F w)))), (0, .ref b), (1, .int (iI i))]) S.1 S.2.1 dX9_sumUp_15 hl (k := 3) rfl (g_iinc rfl) (by decide) rfl (fun ls hl => ?_)
        refine lv_goto (tgt := 4) S.1 S.2.1 dX9_sumUp_18 (by decide) ?_
        exact ih (k + 1) (w + 1) (f + (F w)) _ _ _ (by omega) ⟨by omega, by omega⟩ (by rw [sF_s, ← hb, hw.1]) (lv_sub hl [2, 3, 1, 0] rfl) hG
  exact L4 (Nat.succ ((i - 0).toNat)) 0 0 0 _ _ _ (Nat.lt_succ_self _) ⟨rfl, by omega⟩ rfl (lv_sub hl [2, 3, 1, 0] rfl) hG

set_option maxHeartbeats 1000000 in
set_option maxRecDepth 100000 in
theorem c_X9_happened (l : Launch) (K : KC) (am : Nat → Nat) (th : Int) (rw : Nat) (lg : Int) (mr : Int) (en : Int) (pw : Int) (sl : Int) (ly : Int) (dn : Int) (iz : Int) (tz : Int) (nx : Int) (st : Int) (tk : Int) (vl : Int) (ef : Int) (ep : Int) (hO : Int) (hB : Int) (ol : Int) (rm : Int) (oz : Int) (A6 : Int → Int) (x : Int) (h0 : 0 ≤ lg ∧ lg ≤ 60) (h1 : ∀ i : Int, 0 ≤ i → i < lg → -1000 ≤ A6 i ∧ A6 i ≤ 1000) (hx : 0 ≤ x ∧ x ≤ 10) : mG l yX9_happened wsX9_happened 0 0 K [.ref (am 0), .int (iI x)] [gMdl K am th rw lg mr en pw sl ly dn iz tz nx st tk vl ef ep hO hB ol rm oz, gArr K 60 (am 9) A6] (fun (v : Value) (u : Unit) => (v = .int (iI (cnF A6 x lg.toNat)))) (fun (u : Unit) => [gMdl K am th rw lg mr en pw sl ly dn iz tz nx st tk vl ef ep hO hB ol rm oz, gArr K 60 (am 9) A6]) 0 0 := by
  refine mG_of cX9_happened 4 (by decide) rfl (Nat.le_of_ble_eq_true rfl) ?_
  intro p e s m below meth c A ls Q S C hG hl hr hlk hin hQ
  have S : CallFix p m c cX9_happened 4 s ([.ref (am 0), .int (iI x)] : List Value).toArray wsX9_happened RX9 := S
  have iX90 : ∀ w ∈ wsX90, w ∈ wsX9_happened := fun _ h => List.mem_cons_of_mem _ (List.mem_append_right _ (h))
  have hl : lv_has ls 4 [(0, .ref (am 0)), (1, .int (iI x))] := hl
  have hG : gW K A s.heap [gMdl K am th rw lg mr en pw sl ly dn iz tz nx st tk vl ef ep hO hB ol rm oz, gArr K 60 (am 9) A6] s.heap [] := hG
  refine g_iconst S dX9_happened_0 ?_
  refine lv_istore_n (lv' := [(2, .int (iI 0)), (0, .ref (am 0)), (1, .int (iI x))]) S.1 S.2.1 dX9_happened_1 rfl hl (by decide) rfl (fun ls hl => ?_)
  refine g_iconst S dX9_happened_2 ?_
  refine lv_istore_n (lv' := [(3, .int (iI 0)), (2, .int (iI 0)), (0, .ref (am 0)), (1, .int (iI x))]) S.1 S.2.1 dX9_happened_3 rfl hl (by decide) rfl (fun ls hl => ?_)
  have L4 : ∀ (fu : Nat) (k : Nat) (w : Int) (f : Int) (H : Heap) (locs : List Loc) (ls : Array Slot), ((lg - w).toNat) < fu → (w = (k : Int) ∧ w ≤ lg) → (f = cnF A6 x k) → lv_has ls 4 [(0, .ref (am 0)), (1, .int (iI x)), (2, .int (iI f)), (3, .int (iI w))] → gW K A s.heap [gMdl K am th rw lg mr en pw sl ly dn iz tz nx st tk vl ef ep hO hB ol rm oz, gArr K 60 (am 9) A6] H locs → W p l e { frames := 0, cells := 0, slots := 0, locals := 0 } s m ([.ref (am 0), .int (iI x)] : List Value).toArray below meth c H locs 0 0 Q (F0 m 4 ls []) := by
    intro fu
    induction fu with
    | zero => intro k w f H locs ls hfu; exact absurd hfu (Nat.not_lt_zero _)
    | succ fu ih =>
      intro k w f H locs ls hfu hw hb hl hG
      refine lv_iload_n S.1 S.2.1 dX9_happened_4 rfl (lv_at hl 3 rfl) ?_
      refine lv_aload_n S.1 S.2.1 dX9_happened_5 rfl (lv_at hl 0 rfl) ?_
      refine g_get S C hG iX90 0 rfl rfl 11 (by decide) (List.mem_of_getElem? (i := 1) rfl) rfl dX9_happened_6 ?_
      refine g_icmp_ge (tgt := 36) S dX9_happened_9 (by decide) (by omega) (by omega) (fun q9 => ?_) (fun q9 => ?_)
      · skip
        refine lv_iload_n S.1 S.2.1 dX9_happened_36 rfl (lv_at hl 2 rfl) ?_
        have hG : gW K A s.heap [gMdl K am th rw lg mr en pw sl ly dn iz tz nx st tk vl ef ep hO hB ol rm oz, gArr K 60 (am 9) A6] _ _ := hG
        exact g_iret S hr hlk hQ dX9_happened_37 (Nat.le_of_ble_eq_true rfl) (Nat.le_of_ble_eq_true rfl) (() : Unit) (congrArg (fun z : Int => Value.int (iI z)) (by rw [hb, show lg.toNat = k by omega])) hG
      · skip
        refine lv_iload_n S.1 S.2.1 dX9_happened_12 rfl (lv_at hl 2 rfl) ?_
        refine lv_aload_n S.1 S.2.1 dX9_happened_13 rfl (lv_at hl 0 rfl) ?_
        refine g_get S C hG iX90 0 rfl rfl 10 (by decide) (List.mem_of_getElem? (i := 2) rfl) rfl dX9_happened_14 ?_
        refine lv_iload_n S.1 S.2.1 dX9_happened_17 rfl (lv_at hl 3 rfl) ?_
        refine g_iald S C hG 1 rfl (by omega) (by omega) (by omega) dX9_happened_18 ?_
        refine lv_iload_n S.1 S.2.1 dX9_happened_19 rfl (lv_at hl 1 rfl) ?_
        have z9 := h1 w (by omega) (by omega)
        refine g_icmp_ne (tgt := 27) S dX9_happened_20 (by decide) (by omega) (by omega) (fun q20 => ?_) (fun q20 => ?_)
        · skip
          refine g_iconst S dX9_happened_27 ?_
          refine g_iadd S dX9_happened_28 rfl ?_
          refine lv_istore_n (lv' := [(2, .int (iI (f + 0))), (0, .ref (am 0)), (1, .int (iI x)), (3, .int (iI w))]) S.1 S.2.1 dX9_happened_29 rfl hl (by decide) rfl (fun ls hl => ?_)
          refine lv_iinc (v := iI (w + 1)) (lv' := [(3, .int (iI (w + 1))), (2, .int (iI (f + 0))), (0, .ref (am 0)), (1, .int (iI x))]) S.1 S.2.1 dX9_happened_30 hl (k := 3) rfl (g_iinc rfl) (by decide) rfl (fun ls hl => ?_)
          refine lv_goto (tgt := 4) S.1 S.2.1 dX9_happened_33 (by decide) ?_
          exact ih (k + 1) (w + 1) (f + 0) _ _ _ (by omega) ⟨by omega, by omega⟩ (by unfold cnF <;> rw [← hb, if_neg (by rw [← hw.1] <;> exact q20)]) (lv_sub hl [2, 3, 1, 0] rfl) hG
        · skip
          refine g_iconst S dX9_happened_23 ?_
          refine lv_goto (tgt := 28) S.1 S.2.1 dX9_happened_24 (by decide) ?_
          refine g_iadd S dX9_happened_28 rfl ?_
          refine lv_istore_n (lv' := [(2, .int (iI (f + 1))), (0, .ref (am 0)), (1, .int (iI x)), (3, .int (iI w))]) S.1 S.2.1 dX9_happened_29 rfl hl (by decide) rfl (fun ls hl => ?_)
          refine lv_iinc (v := iI (w + 1)) (lv' := [(3, .int (iI (w + 1))), (2, .int (iI (f + 1))), (0, .ref (am 0)), (1, .int (iI x))]) S.1 S.2.1 dX9_happened_30 hl (k := 3) rfl (g_iinc rfl) (by decide) rfl (fun ls hl => ?_)
          refine lv_goto (tgt := 4) S.1 S.2.1 dX9_happened_33 (by decide) ?_
          exact ih (k + 1) (w + 1) (f + 1) _ _ _ (by omega) ⟨by omega, by omega⟩ (by unfold cnF <;> rw [← hb, if_pos (by rw [← hw.1] <;> omega)]) (lv_sub hl [2, 3, 1, 0] rfl) hG
  exact L4 (Nat.succ ((lg - 0).toNat)) 0 0 0 _ _ _ (Nat.lt_succ_self _) ⟨rfl, by omega⟩ rfl (lv_sub hl [2, 3, 1, 0] rfl) hG

set_option maxHeartbeats 1000000 in
set_option maxRecDepth 100000 in
theorem c_X9_deepest (l : Launch) (K : KC) (am : Nat → Nat) (th : Int) (rw : Nat) (lg : Int) (mr : Int) (en : Int) (pw : Int) (sl : Int) (ly : Int) (dn : Int) (iz : Int) (tz : Int) (nx : Int) (st : Int) (tk : Int) (vl : Int) (ef : Int) (ep : Int) (hO : Int) (hB : Int) (ol : Int) (rm : Int) (oz : Int) (A0 : Int → Int) (h0 : 0 ≤ lg ∧ lg ≤ 60) (h1 : ∀ i : Int, 0 ≤ i → i < lg → 0 ≤ A0 i ∧ A0 i ≤ 9) : mG l yX9_deepest wsX9_deepest 1 24 K [.ref (am 0)] [gMdl K am th rw lg mr en pw sl ly dn iz tz nx st tk vl ef ep hO hB ol rm oz, gArr K 60 (am 3) A0] (fun (v : Value) (u : Unit) => (v = .int (iI (dpN (fun i : Nat => A0 (i : Int)) lg.toNat)))) (fun (u : Unit) => [gMdl K am th rw lg mr en pw sl ly dn iz tz nx st tk vl ef ep hO hB ol rm oz, gArr K 60 (am 3) A0]) 0 0 := by
  refine mG_of cX9_deepest 3 (by decide) rfl (Nat.le_of_ble_eq_true rfl) ?_
  intro p e s m below meth c A ls Q S C hG hl hr hlk hin hQ
  have S : CallFix p m c cX9_deepest 3 s ([.ref (am 0)] : List Value).toArray wsX9_deepest RX9 := S
  have iX90 : ∀ w ∈ wsX90, w ∈ wsX9_deepest := fun _ h => List.mem_cons_of_mem _ (List.mem_append_right _ (h))
  have hl : lv_has ls 3 [(0, .ref (am 0))] := hl
  have hG : gW K A s.heap [gMdl K am th rw lg mr en pw sl ly dn iz tz nx st tk vl ef ep hO hB ol rm oz, gArr K 60 (am 3) A0] s.heap [] := hG
  refine g_iconst S dX9_deepest_0 ?_
  refine lv_istore_n (lv' := [(1, .int (iI (-1))), (0, .ref (am 0))]) S.1 S.2.1 dX9_deepest_1 rfl hl (by decide) rfl (fun ls hl => ?_)
  refine g_iconst S dX9_deepest_2 ?_
  refine lv_istore_n (lv' := [(2, .int (iI 0)), (1, .int (iI (-1))), (0, .ref (am 0))]) S.1 S.2.1 dX9_deepest_3 rfl hl (by decide) rfl (fun ls hl => ?_)
  have L4 : ∀ (fu : Nat) (k : Nat) (w : Int) (f : Int) (H : Heap) (locs : List Loc) (ls : Array Slot), ((lg - w).toNat) < fu → (w = (k : Int) ∧ w ≤ lg) → (f = dpN (fun i : Nat => A0 (i : Int)) k) → (-1 ≤ f ∧ f ≤ 9) → lv_has ls 3 [(0, .ref (am 0)), (1, .int (iI f)), (2, .int (iI w))] → gW K A s.heap [gMdl K am th rw lg mr en pw sl ly dn iz tz nx st tk vl ef ep hO hB ol rm oz, gArr K 60 (am 3) A0] H locs → W p l e { frames := 1, cells := 0, slots := 0, locals := 24 } s m ([.ref (am 0)] : List Value).toArray below meth c H locs 0 0 Q (F0 m 4 ls []) := by
    intro fu
    induction fu with
    | zero => intro k w f H locs ls hfu; exact absurd hfu (Nat.not_lt_zero _)
    | succ fu ih =>
      intro k w f H locs ls hfu hw hb hf hl hG
      refine lv_iload_n S.1 S.2.1 dX9_deepest_4 rfl (lv_at hl 2 rfl) ?_
      refine lv_aload_n S.1 S.2.1 dX9_deepest_5 rfl (lv_at hl 0 rfl) ?_
      refine g_get S C hG iX90 0 rfl rfl 11 (by decide) (List.mem_of_getElem? (i := 1) rfl) rfl dX9_deepest_6 ?_
      refine g_icmp_ge (tgt := 29) S dX9_deepest_9 (by decide) (by omega) (by omega) (fun q9 => ?_) (fun q9 => ?_)
      · skip
        refine lv_iload_n S.1 S.2.1 dX9_deepest_29 rfl (lv_at hl 1 rfl) ?_
        have hG : gW K A s.heap [gMdl K am th rw lg mr en pw sl ly dn iz tz nx st tk vl ef ep hO hB ol rm oz, gArr K 60 (am 3) A0] _ _ := hG
        exact g_iret S hr hlk hQ dX9_deepest_30 (Nat.le_of_ble_eq_true rfl) (Nat.le_of_ble_eq_true rfl) (() : Unit) (congrArg (fun z : Int => Value.int (iI z)) (by rw [hb, show lg.toNat = k by omega])) hG
      · skip
        refine lv_iload_n S.1 S.2.1 dX9_deepest_12 rfl (lv_at hl 1 rfl) ?_
        refine lv_aload_n S.1 S.2.1 dX9_deepest_13 rfl (lv_at hl 0 rfl) ?_
        refine g_get S C hG iX90 0 rfl rfl 4 (by decide) (List.mem_of_getElem? (i := 2) rfl) rfl dX9_deepest_14 ?_
        refine lv_iload_n S.1 S.2.1 dX9_deepest_17 rfl (lv_at hl 2 rfl) ?_
        refine g_iald S C hG 1 rfl (by omega) (by omega) (by omega) dX9_deepest_18 ?_
        have z9 := h1 w (by omega) (by omega)
        refine va_mmax S.1 S.2.1 (by rw [S.2.2.1]; exact hl.1.symm) S.2.2.2.1 (S.2.2.2.2 _ (List.mem_of_getElem? (i := 3) rfl)) (S.2.2.2.2 _ (List.mem_of_getElem? (i := 4) rfl)) (S.2.2.2.2 _ (List.mem_of_getElem? (i := 5) rfl)) (S.2.2.2.2 _ (List.mem_of_getElem? (i := 6) rfl)) (Nat.le_of_ble_eq_true rfl) (Nat.le_of_ble_eq_true rfl) (Nat.le_of_ble_eq_true rfl) (Nat.le_of_ble_eq_true rfl) dX9_deepest_19 ?_
        refine g_top (w := .int (iI (max f (A0 w)))) (imax_eq (by omega) (by omega)) ?_
        refine lv_istore_n (lv' := [(1, .int (iI (max f (A0 w)))), (0, .ref (am 0)), (2, .int (iI w))]) S.1 S.2.1 dX9_deepest_22 rfl hl (by decide) rfl (fun ls hl => ?_)
        refine lv_iinc (v := iI (w + 1)) (lv' := [(2, .int (iI (w + 1))), (1, .int (iI (max f (A0 w)))), (0, .ref (am 0))]) S.1 S.2.1 dX9_deepest_23 hl (k := 2) rfl (g_iinc rfl) (by decide) rfl (fun ls hl => ?_)
        refine lv_goto (tgt := 4) S.1 S.2.1 dX9_deepest_26 (by decide) ?_
        exact ih (k + 1) (w + 1) (max f (A0 w)) _ _ _ (by omega) ⟨by omega, by omega⟩ (by simp only [dpN] <;> rw [← hb, hw.1]) (by omega) (lv_sub hl [2, 1, 0] rfl) hG
  exact L4 (Nat.succ ((lg - 0).toNat)) 0 0 (-1) _ _ _ (Nat.lt_succ_self _) ⟨rfl, by omega⟩ rfl (by omega) (lv_sub hl [2, 1, 0] rfl) hG

set_option maxHeartbeats 1000000 in
set_option maxRecDepth 100000 in
theorem c_X9_legNow (l : Launch) (K : KC) (am : Nat → Nat) (th : Int) (rw : Nat) (lg : Int) (mr : Int) (en : Int) (pw : Int) (sl : Int) (ly : Int) (dn : Int) (iz : Int) (tz : Int) (nx : Int) (st : Int) (tk : Int) (vl : Int) (ef : Int) (ep : Int) (hO : Int) (hB : Int) (ol : Int) (rm : Int) (oz : Int) (A4 : Int → Int) (x : Int) (h0 : 0 ≤ lg ∧ lg ≤ 60) (h1 : ∀ i : Int, 0 ≤ i → i < lg → 0 ≤ A4 i ∧ A4 i ≤ 1998000) (hx : -2147483648 ≤ x ∧ x < 2147483648) : mG l yX9_legNow wsX9_legNow 0 0 K [.ref (am 0), .int (iI x)] [gMdl K am th rw lg mr en pw sl ly dn iz tz nx st tk vl ef ep hO hB ol rm oz, gArr K 60 (am 7) A4] (fun (v : Value) (u : Unit) => (v = .int (iI (nowN A4 lg.toNat x)))) (fun (u : Unit) => [gMdl K am th rw lg mr en pw sl ly dn iz tz nx st tk vl ef ep hO hB ol rm oz, gArr K 60 (am 7) A4]) 0 0 := by
  refine mG_of cX9_legNow 4 (by decide) rfl (Nat.le_of_ble_eq_true rfl) ?_
  intro p e s m below meth c A ls Q S C hG hl hr hlk hin hQ
  have S : CallFix p m c cX9_legNow 4 s ([.ref (am 0), .int (iI x)] : List Value).toArray wsX9_legNow RX9 := S
  have iX90 : ∀ w ∈ wsX90, w ∈ wsX9_legNow := fun _ h => List.mem_cons_of_mem _ (List.mem_append_right _ (h))
  have hl : lv_has ls 4 [(0, .ref (am 0)), (1, .int (iI x))] := hl
  have hG : gW K A s.heap [gMdl K am th rw lg mr en pw sl ly dn iz tz nx st tk vl ef ep hO hB ol rm oz, gArr K 60 (am 7) A4] s.heap [] := hG
  refine g_iconst S dX9_legNow_0 ?_
  refine lv_istore_n (lv' := [(2, .int (iI 0)), (0, .ref (am 0)), (1, .int (iI x))]) S.1 S.2.1 dX9_legNow_1 rfl hl (by decide) rfl (fun ls hl => ?_)
  refine g_iconst S dX9_legNow_2 ?_
  refine lv_istore_n (lv' := [(3, .int (iI 0)), (2, .int (iI 0)), (0, .ref (am 0)), (1, .int (iI x))]) S.1 S.2.1 dX9_legNow_3 rfl hl (by decide) rfl (fun ls hl => ?_)
  have L4 : ∀ (fu : Nat) (k : Nat) (w : Int) (f : Int) (H : Heap) (locs : List Loc) (ls : Array Slot), ((lg - w).toNat) < fu → (w = (k : Int) ∧ w ≤ lg) → (f = sF A4 k) → (0 ≤ f ∧ f ≤ 1998000 * w) → (∀ i : Nat, i < k → sF A4 (i + 1) ≤ x) → lv_has ls 4 [(0, .ref (am 0)), (1, .int (iI x)), (2, .int (iI f)), (3, .int (iI w))] → gW K A s.heap [gMdl K am th rw lg mr en pw sl ly dn iz tz nx st tk vl ef ep hO hB ol rm oz, gArr K 60 (am 7) A4] H locs → W p l e { frames := 0, cells := 0, slots := 0, locals := 0 } s m ([.ref (am 0), .int (iI x)] : List Value).toArray below meth c H locs 0 0 Q (F0 m 4 ls []) := by
    intro fu
    induction fu with
    | zero => intro k w f H locs ls hfu; exact absurd hfu (Nat.not_lt_zero _)
    | succ fu ih =>
      intro k w f H locs ls hfu hw hb hf ho hl hG
      refine lv_iload_n S.1 S.2.1 dX9_legNow_4 rfl (lv_at hl 3 rfl) ?_
      refine lv_aload_n S.1 S.2.1 dX9_legNow_5 rfl (lv_at hl 0 rfl) ?_
      refine g_get S C hG iX90 0 rfl rfl 11 (by decide) (List.mem_of_getElem? (i := 1) rfl) rfl dX9_legNow_6 ?_
      refine g_icmp_ge (tgt := 34) S dX9_legNow_9 (by decide) (by omega) (by omega) (fun q9 => ?_) (fun q9 => ?_)
      · skip
        refine g_iconst S dX9_legNow_34 ?_
        have hG : gW K A s.heap [gMdl K am th rw lg mr en pw sl ly dn iz tz nx st tk vl ef ep hO hB ol rm oz, gArr K 60 (am 7) A4] _ _ := hG
        exact g_iret S hr hlk hQ dX9_legNow_35 (Nat.le_of_ble_eq_true rfl) (Nat.le_of_ble_eq_true rfl) (() : Unit) (congrArg (fun z : Int => Value.int (iI z)) (by have z := fstT_eq (f := fun i : Nat => A4 (i : Int)) (t := x) (n := lg.toNat) (k := lg.toNat) (Nat.le_refl _) (fun q => absurd q (Nat.lt_irrefl _)) (fun i hi => ho i (by omega)) <;> unfold nowN <;> rw [z, if_pos rfl])) hG
      · skip
        refine lv_iload_n S.1 S.2.1 dX9_legNow_12 rfl (lv_at hl 2 rfl) ?_
        refine lv_aload_n S.1 S.2.1 dX9_legNow_13 rfl (lv_at hl 0 rfl) ?_
        refine g_get S C hG iX90 0 rfl rfl 8 (by decide) (List.mem_of_getElem? (i := 2) rfl) rfl dX9_legNow_14 ?_
        refine lv_iload_n S.1 S.2.1 dX9_legNow_17 rfl (lv_at hl 3 rfl) ?_
        refine g_iald S C hG 1 rfl (by omega) (by omega) (by omega) dX9_legNow_18 ?_
        refine g_iadd S dX9_legNow_19 rfl ?_
        refine g_top (w := .int (iI (sF A4 (k + 1)))) (congrArg (fun z : Int => Value.int (iI z)) ((by rw [sF_s, hb, hw.1]))) ?_
        refine lv_istore_n (lv' := [(2, .int (iI (sF A4 (k + 1)))), (0, .ref (am 0)), (1, .int (iI x)), (3, .int (iI w))]) S.1 S.2.1 dX9_legNow_20 rfl hl (by decide) rfl (fun ls hl => ?_)
        have z9 := h1 w (by omega) (by omega)
        refine lv_iload_n S.1 S.2.1 dX9_legNow_21 rfl (lv_at hl 0 rfl) ?_
        refine lv_iload_n S.1 S.2.1 dX9_legNow_22 rfl (lv_at hl 2 rfl) ?_
        have s9 : sF A4 (k + 1) = sF A4 k + A4 w := by rw [sF_s, hw.1]
        refine g_icmp_le (tgt := 28) S dX9_legNow_23 (by decide) (by omega) (by omega) (fun q23 => ?_) (fun q23 => ?_)
        · skip
          refine lv_iinc (v := iI (w + 1)) (lv' := [(3, .int (iI (w + 1))), (2, .int (iI (sF A4 (k + 1)))), (0, .ref (am 0)), (1, .int (iI x))]) S.1 S.2.1 dX9_legNow_28 hl (k := 3) rfl (g_iinc rfl) (by decide) rfl (fun ls hl => ?_)
          refine lv_goto (tgt := 4) S.1 S.2.1 dX9_legNow_31 (by decide) ?_
          exact ih (k + 1) (w + 1) (sF A4 (k + 1)) _ _ _ (by omega) ⟨by omega, by omega⟩ rfl (by omega) (fun i hi => if g : i < k then ho i g else by rw [show i = k by omega] <;> omega) (lv_sub hl [2, 3, 1, 0] rfl) hG
        · skip
          refine lv_iload_n S.1 S.2.1 dX9_legNow_26 rfl (lv_at hl 3 rfl) ?_
          have hG : gW K A s.heap [gMdl K am th rw lg mr en pw sl ly dn iz tz nx st tk vl ef ep hO hB ol rm oz, gArr K 60 (am 7) A4] _ _ := hG
          exact g_iret S hr hlk hQ dX9_legNow_27 (Nat.le_of_ble_eq_true rfl) (Nat.le_of_ble_eq_true rfl) (() : Unit) (congrArg (fun z : Int => Value.int (iI z)) (by have z := fstT_eq (f := fun i : Nat => A4 (i : Int)) (t := x) (n := lg.toNat) (k := k) (by omega) (fun _ => by show x < sF A4 (k + 1) <;> omega) (fun i hi => ho i hi) <;> unfold nowN <;> rw [z, if_neg (by omega)] <;> exact hw.1)) hG
  exact L4 (Nat.succ ((lg - 0).toNat)) 0 0 0 _ _ _ (Nat.lt_succ_self _) ⟨rfl, by omega⟩ rfl (by omega) (fun i hi => absurd hi (Nat.not_lt_zero i)) (lv_sub hl [2, 3, 1, 0] rfl) hG

set_option maxHeartbeats 1000000 in
set_option maxRecDepth 100000 in
theorem c_X9_partOf (l : Launch) (K : KC) (am : Nat → Nat) (th : Int) (rw : Nat) (lg : Int) (mr : Int) (en : Int) (pw : Int) (sl : Int) (ly : Int) (dn : Int) (iz : Int) (tz : Int) (nx : Int) (st : Int) (tk : Int) (vl : Int) (ef : Int) (ep : Int) (hO : Int) (hB : Int) (ol : Int) (rm : Int) (oz : Int) (A4 : Int → Int) (y : Int) (i : Int) (x : Int) (h0 : 0 ≤ i ∧ i < 60) (h1 : 0 ≤ y ∧ y ≤ 1000000) (h2 : 0 ≤ sF A4 i.toNat ∧ sF A4 i.toNat ≤ x) (h3 : 1 ≤ A4 i ∧ A4 i ≤ 1998000) (hx : -2147483648 ≤ x ∧ x < 2147483648) : mG l yX9_partOf wsX9_partOf 1 23 K [.ref (am 0), .int (iI y), .int (iI i), .int (iI x)] [gMdl K am th rw lg mr en pw sl ly dn iz tz nx st tk vl ef ep hO hB ol rm oz, gArr K 60 (am 7) A4] (fun (v : Value) (u : Unit) => (v = .int (iI (y * (x - sF A4 i.toNat) / A4 i)))) (fun (u : Unit) => [gMdl K am th rw lg mr en pw sl ly dn iz tz nx st tk vl ef ep hO hB ol rm oz, gArr K 60 (am 7) A4]) 0 0 := by
  refine mG_of cX9_partOf 4 (by decide) rfl (Nat.le_of_ble_eq_true rfl) ?_
  intro p e s m below meth c A ls Q S C hG hl hr hlk hin hQ
  have S : CallFix p m c cX9_partOf 4 s ([.ref (am 0), .int (iI y), .int (iI i), .int (iI x)] : List Value).toArray wsX9_partOf RX9 := S
  have iX90 : ∀ w ∈ wsX90, w ∈ wsX9_partOf := fun _ h => List.mem_cons_of_mem _ (List.mem_append_right _ (h))
  have hl : lv_has ls 4 [(0, .ref (am 0)), (1, .int (iI y)), (2, .int (iI i)), (3, .int (iI x))] := hl
  have hG : gW K A s.heap [gMdl K am th rw lg mr en pw sl ly dn iz tz nx st tk vl ef ep hO hB ol rm oz, gArr K 60 (am 7) A4] s.heap [] := hG
  have m1 : 0 ≤ y * (x - sF A4 i.toNat) := Int.mul_nonneg h1.1 (by omega)
  have m2 : y * (x - sF A4 i.toNat) ≤ 1000000 * 2147483648 := ml h1.1 (by omega) h1.2 (by omega)
  refine lv_iload_n S.1 S.2.1 dX9_partOf_0 rfl (lv_at hl 1 rfl) ?_
  refine g_i2l S dX9_partOf_1 (by omega) ?_
  refine lv_iload_n S.1 S.2.1 dX9_partOf_2 rfl (lv_at hl 3 rfl) ?_
  refine lv_aload_n S.1 S.2.1 dX9_partOf_3 rfl (lv_at hl 0 rfl) ?_
  refine g_get S C hG iX90 0 rfl rfl 8 (by decide) (List.mem_of_getElem? (i := 1) rfl) rfl dX9_partOf_4 ?_
  refine lv_iload_n S.1 S.2.1 dX9_partOf_7 rfl (lv_at hl 2 rfl) ?_
  refine g_invS (As := [.ref (am 7), .int (iI i)]) (rest := [.int (iI x), .long (iL y)]) (gs' := (fun u : Unit => [gMdl K am th rw lg mr en pw sl ly dn iz tz nx st tk vl ef ep hO hB ol rm oz, gArr K 60 (am 7) A4])) S C hG [1] (c_X9_sumUp l K (am 7) A4 i (by omega)) rfl rfl (va_cwS 2 S.2.2.2.2 gX9_partOf_X9_sumUp rfl rfl rfl (by decide +kernel) ⟨Nat.le_of_ble_eq_true rfl, Nat.le_of_ble_eq_true rfl⟩) rfl hl.1 rfl (Nat.le_of_ble_eq_true rfl) dX9_partOf_8 ⟨Nat.le_of_ble_eq_true rfl, Nat.le_of_ble_eq_true rfl⟩ (fun _ => Nat.le_of_ble_eq_true rfl) (fun _ => rfl) (fun v u H locs hp hG => ?_)
  subst hp
  refine g_isub S dX9_partOf_11 rfl ?_
  refine g_i2l S dX9_partOf_12 (by omega) ?_
  refine g_lmul S dX9_partOf_13 rfl ?_
  refine lv_aload_n S.1 S.2.1 dX9_partOf_14 rfl (lv_at hl 0 rfl) ?_
  refine g_get S C hG iX90 0 rfl rfl 8 (by decide) (List.mem_of_getElem? (i := 1) rfl) rfl dX9_partOf_15 ?_
  refine lv_iload_n S.1 S.2.1 dX9_partOf_18 rfl (lv_at hl 2 rfl) ?_
  refine g_iald S C hG 1 rfl (by omega) (by omega) (by omega) dX9_partOf_19 ?_
  refine g_i2l S dX9_partOf_20 (by omega) ?_
  refine g_ldiv S dX9_partOf_21 (by omega) (by omega) rfl ?_
  refine g_l2i S dX9_partOf_22 ?_
  have hG : gW K A s.heap [gMdl K am th rw lg mr en pw sl ly dn iz tz nx st tk vl ef ep hO hB ol rm oz, gArr K 60 (am 7) A4] _ _ := hG
  exact g_iret S hr hlk hQ dX9_partOf_23 (Nat.le_of_ble_eq_true rfl) (Nat.le_of_ble_eq_true rfl) (() : Unit) (congrArg (fun z : Int => Value.int (iI z)) (by first | rfl | omega)) hG

set_option maxHeartbeats 1000000 in
set_option maxRecDepth 100000 in
theorem c_X9_isSlant (l : Launch) (K : KC) (x : Int) (hx : -2147483648 ≤ x ∧ x < 2147483648) : mG l yX9_isSlant wsX9_isSlant 1 25 K [.int (iI x)] [] (fun (v : Value) (u : Unit) => (v = .int (iI (bI (0 ≤ x ∧ x ≤ 3999))))) (fun (u : Unit) => []) 0 0 := by
  refine mG_of cX9_isSlant 1 (by decide) rfl (Nat.le_of_ble_eq_true rfl) ?_
  intro p e s m below meth c A ls Q S C hG hl hr hlk hin hQ
  have S : CallFix p m c cX9_isSlant 1 s ([.int (iI x)] : List Value).toArray wsX9_isSlant RX9 := S
  have hl : lv_has ls 1 [(0, .int (iI x))] := hl
  have hG : gW K A s.heap [] s.heap [] := hG
  refine lv_iload_n S.1 S.2.1 dX9_isSlant_0 rfl (lv_at hl 0 rfl) ?_
  refine g_i2l S dX9_isSlant_1 (by omega) ?_
  refine g_lconst (z := 0) S dX9_isSlant_2 rfl ?_
  refine g_ldc2 (z := 3999) S dX9_isSlant_3 (List.mem_of_getElem? (i := 1) rfl) rfl ?_
  refine g_invS (As := [.long (iL x), .long (iL 0), .long (iL 3999)]) (rest := []) (gs' := (fun u : Unit => [])) S C hG [] (c_X9_in l K x 0 3999 (by omega) (by omega) (by omega)) rfl rfl (va_cwS 3 S.2.2.2.2 gX9_isSlant_X9_in rfl rfl rfl (by decide +kernel) ⟨Nat.le_of_ble_eq_true rfl, Nat.le_of_ble_eq_true rfl⟩) rfl hl.1 rfl (Nat.le_of_ble_eq_true rfl) dX9_isSlant_6 ⟨Nat.le_of_ble_eq_true rfl, Nat.le_of_ble_eq_true rfl⟩ (fun _ => Nat.le_of_ble_eq_true rfl) (fun _ => rfl) (fun v u H locs hp hG => ?_)
  subst hp
  have hG : gW K A s.heap [] _ _ := hG
  exact g_zret S hr hlk hQ (bI_01 _) dX9_isSlant_9 (Nat.le_of_ble_eq_true rfl) (Nat.le_of_ble_eq_true rfl) (() : Unit) rfl hG

set_option maxHeartbeats 1000000 in
set_option maxRecDepth 100000 in
theorem c_X9_isEnd (l : Launch) (K : KC) (x : Int) (hx : -2147483648 ≤ x ∧ x < 2147483648) : mG l yX9_isEnd wsX9_isEnd 1 25 K [.int (iI x)] [] (fun (v : Value) (u : Unit) => (v = .int (iI (bI (0 ≤ x ∧ x ≤ 3))))) (fun (u : Unit) => []) 0 0 := by
  refine mG_of cX9_isEnd 1 (by decide) rfl (Nat.le_of_ble_eq_true rfl) ?_
  intro p e s m below meth c A ls Q S C hG hl hr hlk hin hQ
  have S : CallFix p m c cX9_isEnd 1 s ([.int (iI x)] : List Value).toArray wsX9_isEnd RX9 := S
  have hl : lv_has ls 1 [(0, .int (iI x))] := hl
  have hG : gW K A s.heap [] s.heap [] := hG
  refine lv_iload_n S.1 S.2.1 dX9_isEnd_0 rfl (lv_at hl 0 rfl) ?_
  refine g_i2l S dX9_isEnd_1 (by omega) ?_
  refine g_lconst (z := 0) S dX9_isEnd_2 rfl ?_
  refine g_ldc2 (z := 3) S dX9_isEnd_3 (List.mem_of_getElem? (i := 1) rfl) rfl ?_
  refine g_invS (As := [.long (iL x), .long (iL 0), .long (iL 3)]) (rest := []) (gs' := (fun u : Unit => [])) S C hG [] (c_X9_in l K x 0 3 (by omega) (by omega) (by omega)) rfl rfl (va_cwS 3 S.2.2.2.2 gX9_isEnd_X9_in rfl rfl rfl (by decide +kernel) ⟨Nat.le_of_ble_eq_true rfl, Nat.le_of_ble_eq_true rfl⟩) rfl hl.1 rfl (Nat.le_of_ble_eq_true rfl) dX9_isEnd_6 ⟨Nat.le_of_ble_eq_true rfl, Nat.le_of_ble_eq_true rfl⟩ (fun _ => Nat.le_of_ble_eq_true rfl) (fun _ => rfl) (fun v u H locs hp hG => ?_)
  subst hp
  have hG : gW K A s.heap [] _ _ := hG
  exact g_zret S hr hlk hQ (bI_01 _) dX9_isEnd_9 (Nat.le_of_ble_eq_true rfl) (Nat.le_of_ble_eq_true rfl) (() : Unit) rfl hG

set_option maxHeartbeats 1000000 in
set_option maxRecDepth 100000 in
theorem c_X9_isIndex (l : Launch) (K : KC) (x : Int) (hx : -2147483648 ≤ x ∧ x < 2147483648) : mG l yX9_isIndex wsX9_isIndex 1 25 K [.int (iI x)] [] (fun (v : Value) (u : Unit) => (v = .int (iI (bI (1000 ≤ x ∧ x ≤ 4000))))) (fun (u : Unit) => []) 0 0 := by
  refine mG_of cX9_isIndex 1 (by decide) rfl (Nat.le_of_ble_eq_true rfl) ?_
  intro p e s m below meth c A ls Q S C hG hl hr hlk hin hQ
  have S : CallFix p m c cX9_isIndex 1 s ([.int (iI x)] : List Value).toArray wsX9_isIndex RX9 := S
  have hl : lv_has ls 1 [(0, .int (iI x))] := hl
  have hG : gW K A s.heap [] s.heap [] := hG
  refine lv_iload_n S.1 S.2.1 dX9_isIndex_0 rfl (lv_at hl 0 rfl) ?_
  refine g_i2l S dX9_isIndex_1 (by omega) ?_
  refine g_ldc2 (z := 1000) S dX9_isIndex_2 (List.mem_of_getElem? (i := 1) rfl) rfl ?_
  refine g_ldc2 (z := 4000) S dX9_isIndex_5 (List.mem_of_getElem? (i := 2) rfl) rfl ?_
  refine g_invS (As := [.long (iL x), .long (iL 1000), .long (iL 4000)]) (rest := []) (gs' := (fun u : Unit => [])) S C hG [] (c_X9_in l K x 1000 4000 (by omega) (by omega) (by omega)) rfl rfl (va_cwS 3 S.2.2.2.2 gX9_isIndex_X9_in rfl rfl rfl (by decide +kernel) ⟨Nat.le_of_ble_eq_true rfl, Nat.le_of_ble_eq_true rfl⟩) rfl hl.1 rfl (Nat.le_of_ble_eq_true rfl) dX9_isIndex_8 ⟨Nat.le_of_ble_eq_true rfl, Nat.le_of_ble_eq_true rfl⟩ (fun _ => Nat.le_of_ble_eq_true rfl) (fun _ => rfl) (fun v u H locs hp hG => ?_)
  subst hp
  have hG : gW K A s.heap [] _ _ := hG
  exact g_zret S hr hlk hQ (bI_01 _) dX9_isIndex_11 (Nat.le_of_ble_eq_true rfl) (Nat.le_of_ble_eq_true rfl) (() : Unit) rfl hG

set_option maxHeartbeats 1000000 in
set_option maxRecDepth 100000 in
theorem c_X9_isThickness (l : Launch) (K : KC) (x : Int) (hx : -2147483648 ≤ x ∧ x < 2147483648) : mG l yX9_isThickness wsX9_isThickness 1 25 K [.int (iI x)] [] (fun (v : Value) (u : Unit) => (v = .int (iI (bI (1 ≤ x ∧ x ≤ 999))))) (fun (u : Unit) => []) 0 0 := by
  refine mG_of cX9_isThickness 1 (by decide) rfl (Nat.le_of_ble_eq_true rfl) ?_
  intro p e s m below meth c A ls Q S C hG hl hr hlk hin hQ
  have S : CallFix p m c cX9_isThickness 1 s ([.int (iI x)] : List Value).toArray wsX9_isThickness RX9 := S
  have hl : lv_has ls 1 [(0, .int (iI x))] := hl
  have hG : gW K A s.heap [] s.heap [] := hG
  refine lv_iload_n S.1 S.2.1 dX9_isThickness_0 rfl (lv_at hl 0 rfl) ?_
  refine g_i2l S dX9_isThickness_1 (by omega) ?_
  refine g_lconst (z := 1) S dX9_isThickness_2 rfl ?_
  refine g_ldc2 (z := 999) S dX9_isThickness_3 (List.mem_of_getElem? (i := 1) rfl) rfl ?_
  refine g_invS (As := [.long (iL x), .long (iL 1), .long (iL 999)]) (rest := []) (gs' := (fun u : Unit => [])) S C hG [] (c_X9_in l K x 1 999 (by omega) (by omega) (by omega)) rfl rfl (va_cwS 3 S.2.2.2.2 gX9_isThickness_X9_in rfl rfl rfl (by decide +kernel) ⟨Nat.le_of_ble_eq_true rfl, Nat.le_of_ble_eq_true rfl⟩) rfl hl.1 rfl (Nat.le_of_ble_eq_true rfl) dX9_isThickness_6 ⟨Nat.le_of_ble_eq_true rfl, Nat.le_of_ble_eq_true rfl⟩ (fun _ => Nat.le_of_ble_eq_true rfl) (fun _ => rfl) (fun v u H locs hp hG => ?_)
  subst hp
  have hG : gW K A s.heap [] _ _ := hG
  exact g_zret S hr hlk hQ (bI_01 _) dX9_isThickness_9 (Nat.le_of_ble_eq_true rfl) (Nat.le_of_ble_eq_true rfl) (() : Unit) rfl hG

set_option maxHeartbeats 1000000 in
set_option maxRecDepth 100000 in
theorem c_X9_isLoss (l : Launch) (K : KC) (x : Int) (hx : -2147483648 ≤ x ∧ x < 2147483648) : mG l yX9_isLoss wsX9_isLoss 1 25 K [.int (iI x)] [] (fun (v : Value) (u : Unit) => (v = .int (iI (bI (0 ≤ x ∧ x ≤ 99))))) (fun (u : Unit) => []) 0 0 := by
  refine mG_of cX9_isLoss 1 (by decide) rfl (Nat.le_of_ble_eq_true rfl) ?_
  intro p e s m below meth c A ls Q S C hG hl hr hlk hin hQ
  have S : CallFix p m c cX9_isLoss 1 s ([.int (iI x)] : List Value).toArray wsX9_isLoss RX9 := S
  have hl : lv_has ls 1 [(0, .int (iI x))] := hl
  have hG : gW K A s.heap [] s.heap [] := hG
  refine lv_iload_n S.1 S.2.1 dX9_isLoss_0 rfl (lv_at hl 0 rfl) ?_
  refine g_i2l S dX9_isLoss_1 (by omega) ?_
  refine g_lconst (z := 0) S dX9_isLoss_2 rfl ?_
  refine g_ldc2 (z := 99) S dX9_isLoss_3 (List.mem_of_getElem? (i := 1) rfl) rfl ?_
  refine g_invS (As := [.long (iL x), .long (iL 0), .long (iL 99)]) (rest := []) (gs' := (fun u : Unit => [])) S C hG [] (c_X9_in l K x 0 99 (by omega) (by omega) (by omega)) rfl rfl (va_cwS 3 S.2.2.2.2 gX9_isLoss_X9_in rfl rfl rfl (by decide +kernel) ⟨Nat.le_of_ble_eq_true rfl, Nat.le_of_ble_eq_true rfl⟩) rfl hl.1 rfl (Nat.le_of_ble_eq_true rfl) dX9_isLoss_6 ⟨Nat.le_of_ble_eq_true rfl, Nat.le_of_ble_eq_true rfl⟩ (fun _ => Nat.le_of_ble_eq_true rfl) (fun _ => rfl) (fun v u H locs hp hG => ?_)
  subst hp
  have hG : gW K A s.heap [] _ _ := hG
  exact g_zret S hr hlk hQ (bI_01 _) dX9_isLoss_9 (Nat.le_of_ble_eq_true rfl) (Nat.le_of_ble_eq_true rfl) (() : Unit) rfl hG

set_option maxHeartbeats 1000000 in
set_option maxRecDepth 100000 in
theorem c_X9_isKeep (l : Launch) (K : KC) (x : Int) (hx : -2147483648 ≤ x ∧ x < 2147483648) : mG l yX9_isKeep wsX9_isKeep 1 25 K [.int (iI x)] [] (fun (v : Value) (u : Unit) => (v = .int (iI (bI (0 ≤ x ∧ x ≤ 1))))) (fun (u : Unit) => []) 0 0 := by
  refine mG_of cX9_isKeep 1 (by decide) rfl (Nat.le_of_ble_eq_true rfl) ?_
  intro p e s m below meth c A ls Q S C hG hl hr hlk hin hQ
  have S : CallFix p m c cX9_isKeep 1 s ([.int (iI x)] : List Value).toArray wsX9_isKeep RX9 := S
  have hl : lv_has ls 1 [(0, .int (iI x))] := hl
  have hG : gW K A s.heap [] s.heap [] := hG
  refine lv_iload_n S.1 S.2.1 dX9_isKeep_0 rfl (lv_at hl 0 rfl) ?_
  refine g_i2l S dX9_isKeep_1 (by omega) ?_
  refine g_lconst (z := 0) S dX9_isKeep_2 rfl ?_
  refine g_lconst (z := 1) S dX9_isKeep_3 rfl ?_
  refine g_invS (As := [.long (iL x), .long (iL 0), .long (iL 1)]) (rest := []) (gs' := (fun u : Unit => [])) S C hG [] (c_X9_in l K x 0 1 (by omega) (by omega) (by omega)) rfl rfl (va_cwS 3 S.2.2.2.2 gX9_isKeep_X9_in rfl rfl rfl (by decide +kernel) ⟨Nat.le_of_ble_eq_true rfl, Nat.le_of_ble_eq_true rfl⟩) rfl hl.1 rfl (Nat.le_of_ble_eq_true rfl) dX9_isKeep_4 ⟨Nat.le_of_ble_eq_true rfl, Nat.le_of_ble_eq_true rfl⟩ (fun _ => Nat.le_of_ble_eq_true rfl) (fun _ => rfl) (fun v u H locs hp hG => ?_)
  subst hp
  have hG : gW K A s.heap [] _ _ := hG
  exact g_zret S hr hlk hQ (bI_01 _) dX9_isKeep_7 (Nat.le_of_ble_eq_true rfl) (Nat.le_of_ble_eq_true rfl) (() : Unit) rfl hG

set_option maxHeartbeats 1000000 in
set_option maxRecDepth 100000 in
theorem c_X9_followShot (l : Launch) (K : KC) (am : Nat → Nat) (th : Int) (rw : Nat) (lg : Int) (mr : Int) (en : Int) (pw : Int) (sl : Int) (ly : Int) (dn : Int) (iz : Int) (tz : Int) (nx : Int) (st : Int) (tk : Int) (vl : Int) (ef : Int) (ep : Int) (hO : Int) (hB : Int) (ol : Int) (rm : Int) (oz : Int) (NF : Int → Int) (A0 : Int → Int) (A1 : Int → Int) (A2 : Int → Int) (A3 : Int → Int) (A4 : Int → Int) (A5 : Int → Int) (A6 : Int → Int) (y : Int) (hN : NOk0 NF) (hs : 0 ≤ y ∧ y < NF 4) : mV l yX9_followShot wsX9_followShot 5 114 K [.ref (am 0), .int (iI y)] [gMdl K am th rw lg mr en pw sl ly dn iz tz nx st tk vl ef ep hO hB ol rm oz, gArr K 95 rw NF, gArr K 60 (am 3) A0, gArrZ K 60 (am 4) A1, gArr K 60 (am 5) A2, gArr K 60 (am 6) A3, gArr K 60 (am 7) A4, gArr K 60 (am 8) A5, gArr K 60 (am 9) A6] (fun (u : Int × Int × Int × Int × Int × Int × Int × (Int → Int) × (Int → Int) × (Int → Int) × (Int → Int) × (Int → Int) × (Int → Int) × (Int → Int)) => (FolS NF y u.1 u.2.1 u.2.2.1 u.2.2.2.1 u.2.2.2.2.2.2.2.1 u.2.2.2.2.2.2.2.2.1 u.2.2.2.2.2.2.2.2.2.1 u.2.2.2.2.2.2.2.2.2.2.1 u.2.2.2.2.2.2.2.2.2.2.2.1 u.2.2.2.2.2.2.2.2.2.2.2.2.1 u.2.2.2.2.2.2.2.2.2.2.2.2.2)) (fun (u : Int × Int × Int × Int × Int × Int × Int × (Int → Int) × (Int → Int) × (Int → Int) × (Int → Int) × (Int → Int) × (Int → Int) × (Int → Int)) => [gMdl K am th rw u.1 u.2.1 u.2.2.1 u.2.2.2.1 u.2.2.2.2.1 u.2.2.2.2.2.1 u.2.2.2.2.2.2.1 iz tz nx st tk vl ef ep hO hB ol rm oz, gArr K 95 rw NF, gArr K 60 (am 3) u.2.2.2.2.2.2.2.1, gArrZ K 60 (am 4) u.2.2.2.2.2.2.2.2.1, gArr K 60 (am 5) u.2.2.2.2.2.2.2.2.2.1, gArr K 60 (am 6) u.2.2.2.2.2.2.2.2.2.2.1, gArr K 60 (am 7) u.2.2.2.2.2.2.2.2.2.2.2.1, gArr K 60 (am 8) u.2.2.2.2.2.2.2.2.2.2.2.2.1, gArr K 60 (am 9) u.2.2.2.2.2.2.2.2.2.2.2.2.2]) 0 0 := by
  refine mV_of cX9_followShot 2 (by decide) rfl (Nat.le_of_ble_eq_true rfl) ?_
  intro p e s m below meth c A ls Q S C hG hl hr hlk hin hQ
  have S : CallFix p m c cX9_followShot 2 s ([.ref (am 0), .int (iI y)] : List Value).toArray wsX9_followShot RX9 := S
  have iX90 : ∀ w ∈ wsX90, w ∈ wsX9_followShot := fun _ h => List.mem_cons_of_mem _ (List.mem_append_right _ (h))
  have hl : lv_has ls 2 [(0, .ref (am 0)), (1, .int (iI y))] := hl
  have hG : gW K A s.heap [gMdl K am th rw lg mr en pw sl ly dn iz tz nx st tk vl ef ep hO hB ol rm oz, gArr K 95 rw NF, gArr K 60 (am 3) A0, gArrZ K 60 (am 4) A1, gArr K 60 (am 5) A2, gArr K 60 (am 6) A3, gArr K 60 (am 7) A4, gArr K 60 (am 8) A5, gArr K 60 (am 9) A6] s.heap [] := hG
  have n0 := hN.1
  have n3 := hN.2.2.2.1
  have sb := sho_bd hN hs.1 hs.2
  refine lv_aload_n S.1 S.2.1 dX9_followShot_0 rfl (lv_at hl 0 rfl) ?_
  refine lv_aload_n S.1 S.2.1 dX9_followShot_1 rfl (lv_at hl 0 rfl) ?_
  refine lv_iload_n S.1 S.2.1 dX9_followShot_2 rfl (lv_at hl 1 rfl) ?_
  refine g_iconst S dX9_followShot_3 ?_
  refine g_invV (As := [.int (iI y), .int (iI 0)]) (rest := [.ref (am 0)]) (gs' := (fun u : Unit => [gMdl K am th rw lg mr en pw sl ly dn iz tz nx st tk vl ef ep hO hB ol rm oz, gArr K 95 rw NF, gArr K 60 (am 3) A0, gArrZ K 60 (am 4) A1, gArr K 60 (am 5) A2, gArr K 60 (am 6) A3, gArr K 60 (am 7) A4, gArr K 60 (am 8) A5, gArr K 60 (am 9) A6])) S C hG [0, 1] (c_X9_ofShot l K am th rw lg mr en pw sl ly dn iz tz nx st tk vl ef ep hO hB ol rm oz NF y 0 (by omega) (by decide)) rfl rfl 0 rfl rfl (cwV 2 S.2.2.2.2 gX9_followShot_X9_ofShot rfl rfl rfl (by decide +kernel) ⟨Nat.le_of_ble_eq_true rfl, Nat.le_of_ble_eq_true rfl⟩) rfl hl.1 rfl (Nat.le_of_ble_eq_true rfl) dX9_followShot_4 ⟨Nat.le_of_ble_eq_true rfl, Nat.le_of_ble_eq_true rfl⟩ (fun _ => Nat.le_of_ble_eq_true rfl) (fun _ => rfl) (fun v u H locs hp hG => ?_)
  subst hp
  refine g_top (w := .int (iI (sY NF y))) (congrArg (fun z : Int => Value.int (iI z)) (rfl)) ?_
  refine lv_aload_n S.1 S.2.1 dX9_followShot_7 rfl (lv_at hl 0 rfl) ?_
  refine lv_iload_n S.1 S.2.1 dX9_followShot_8 rfl (lv_at hl 1 rfl) ?_
  refine g_iconst S dX9_followShot_9 ?_
  refine g_invV (As := [.int (iI y), .int (iI 1)]) (rest := [.int (iI (sY NF y)), .ref (am 0)]) (gs' := (fun u : Unit => [gMdl K am th rw lg mr en pw sl ly dn iz tz nx st tk vl ef ep hO hB ol rm oz, gArr K 95 rw NF, gArr K 60 (am 3) A0, gArrZ K 60 (am 4) A1, gArr K 60 (am 5) A2, gArr K 60 (am 6) A3, gArr K 60 (am 7) A4, gArr K 60 (am 8) A5, gArr K 60 (am 9) A6])) S C hG [0, 1] (c_X9_ofShot l K am th rw lg mr en pw sl ly dn iz tz nx st tk vl ef ep hO hB ol rm oz NF y 1 (by omega) (by decide)) rfl rfl 0 rfl rfl (cwV 2 S.2.2.2.2 gX9_followShot_X9_ofShot rfl rfl rfl (by decide +kernel) ⟨Nat.le_of_ble_eq_true rfl, Nat.le_of_ble_eq_true rfl⟩) rfl hl.1 rfl (Nat.le_of_ble_eq_true rfl) dX9_followShot_10 ⟨Nat.le_of_ble_eq_true rfl, Nat.le_of_ble_eq_true rfl⟩ (fun _ => Nat.le_of_ble_eq_true rfl) (fun _ => rfl) (fun v u H locs hp hG => ?_)
  subst hp
  refine g_top (w := .int (iI (sD NF y))) (congrArg (fun z : Int => Value.int (iI z)) (rfl)) ?_
  refine g_iconst S dX9_followShot_13 ?_
  refine g_icmp_ne (tgt := 21) S dX9_followShot_14 (by decide) (by omega) (by omega) (fun q14 => ?_) (fun q14 => ?_)
  · skip
    refine g_iconst S dX9_followShot_21 ?_
    refine g_top (w := .int (iI (sD NF y))) (congrArg (fun z : Int => Value.int (iI z)) ((by omega))) ?_
    refine lv_aload_n S.1 S.2.1 dX9_followShot_22 rfl (lv_at hl 0 rfl) ?_
    refine lv_iload_n S.1 S.2.1 dX9_followShot_23 rfl (lv_at hl 1 rfl) ?_
    refine g_iconst S dX9_followShot_24 ?_
    refine g_invV (As := [.int (iI y), .int (iI 2)]) (rest := [.int (iI (sD NF y)), .int (iI (sY NF y)), .ref (am 0)]) (gs' := (fun u : Unit => [gMdl K am th rw lg mr en pw sl ly dn iz tz nx st tk vl ef ep hO hB ol rm oz, gArr K 95 rw NF, gArr K 60 (am 3) A0, gArrZ K 60 (am 4) A1, gArr K 60 (am 5) A2, gArr K 60 (am 6) A3, gArr K 60 (am 7) A4, gArr K 60 (am 8) A5, gArr K 60 (am 9) A6])) S C hG [0, 1] (c_X9_ofShot l K am th rw lg mr en pw sl ly dn iz tz nx st tk vl ef ep hO hB ol rm oz NF y 2 (by omega) (by decide)) rfl rfl 0 rfl rfl (cwV 2 S.2.2.2.2 gX9_followShot_X9_ofShot rfl rfl rfl (by decide +kernel) ⟨Nat.le_of_ble_eq_true rfl, Nat.le_of_ble_eq_true rfl⟩) rfl hl.1 rfl (Nat.le_of_ble_eq_true rfl) dX9_followShot_25 ⟨Nat.le_of_ble_eq_true rfl, Nat.le_of_ble_eq_true rfl⟩ (fun _ => Nat.le_of_ble_eq_true rfl) (fun _ => rfl) (fun v u H locs hp hG => ?_)
    subst hp
    refine g_top (w := .int (iI (sP NF y))) (congrArg (fun z : Int => Value.int (iI z)) (rfl)) ?_
    refine g_invVv (As := [.int (iI (sY NF y)), .int (iI (sD NF y)), .int (iI (sP NF y))]) (rest := []) (gs' := (fun u : Int × Int × Int × Int × Int × Int × Int × (Int → Int) × (Int → Int) × (Int → Int) × (Int → Int) × (Int → Int) × (Int → Int) × (Int → Int) => [gMdl K am th rw u.1 u.2.1 u.2.2.1 u.2.2.2.1 u.2.2.2.2.1 u.2.2.2.2.2.1 u.2.2.2.2.2.2.1 iz tz nx st tk vl ef ep hO hB ol rm oz, gArr K 95 rw NF, gArr K 60 (am 3) u.2.2.2.2.2.2.2.1, gArrZ K 60 (am 4) u.2.2.2.2.2.2.2.2.1, gArr K 60 (am 5) u.2.2.2.2.2.2.2.2.2.1, gArr K 60 (am 6) u.2.2.2.2.2.2.2.2.2.2.1, gArr K 60 (am 7) u.2.2.2.2.2.2.2.2.2.2.2.1, gArr K 60 (am 8) u.2.2.2.2.2.2.2.2.2.2.2.2.1, gArr K 60 (am 9) u.2.2.2.2.2.2.2.2.2.2.2.2.2])) S C hG [0, 1, 2, 3, 4, 5, 6, 7, 8] (c_X9_follow l K am th rw lg mr en pw sl ly dn iz tz nx st tk vl ef ep hO hB ol rm oz NF A0 A1 A2 A3 A4 A5 A6 (sY NF y) (sD NF y) (sP NF y) hN (by omega) sb.2.2 sb.2.1) rfl rfl 0 rfl rfl (cwV 3 S.2.2.2.2 gX9_followShot_X9_follow rfl rfl rfl (by decide +kernel) ⟨Nat.le_of_ble_eq_true rfl, Nat.le_of_ble_eq_true rfl⟩) rfl hl.1 rfl (Nat.le_of_ble_eq_true rfl) dX9_followShot_28 ⟨Nat.le_of_ble_eq_true rfl, Nat.le_of_ble_eq_true rfl⟩ (fun _ => Nat.le_of_ble_eq_true rfl) (fun _ => rfl) (fun u H locs hp hG => ?_)
    obtain ⟨lg2_28, mr2_28, en2_28, pw2_28, sl2_28, ly2_28, dn2_28, B0_28, B1_28, B2_28, B3_28, B4_28, B5_28, B6_28⟩ := u
    have hf_28 := hp
    have hf_28 : FolR NF (sP NF y) (sY NF y) (sD NF y) lg2_28 mr2_28 en2_28 pw2_28 B0_28 B1_28 B2_28 B3_28 B4_28 B5_28 B6_28 := hf_28
    have hG : gW K A s.heap [gMdl K am th rw lg2_28 mr2_28 en2_28 pw2_28 sl2_28 ly2_28 dn2_28 iz tz nx st tk vl ef ep hO hB ol rm oz, gArr K 95 rw NF, gArr K 60 (am 3) B0_28, gArrZ K 60 (am 4) B1_28, gArr K 60 (am 5) B2_28, gArr K 60 (am 6) B3_28, gArr K 60 (am 7) B4_28, gArr K 60 (am 8) B5_28, gArr K 60 (am 9) B6_28] _ _ := hG
    have hG : gW K A s.heap [gMdl K am th rw lg2_28 mr2_28 en2_28 pw2_28 sl2_28 ly2_28 dn2_28 iz tz nx st tk vl ef ep hO hB ol rm oz, gArr K 95 rw NF, gArr K 60 (am 3) B0_28, gArrZ K 60 (am 4) B1_28, gArr K 60 (am 5) B2_28, gArr K 60 (am 6) B3_28, gArr K 60 (am 7) B4_28, gArr K 60 (am 8) B5_28, gArr K 60 (am 9) B6_28] _ _ := hG
    exact g_vret S hr hlk hQ dX9_followShot_31 (Nat.le_of_ble_eq_true rfl) (Nat.le_of_ble_eq_true rfl) ((lg2_28, mr2_28, en2_28, pw2_28, sl2_28, ly2_28, dn2_28, B0_28, B1_28, B2_28, B3_28, B4_28, B5_28, B6_28) : Int × Int × Int × Int × Int × Int × Int × (Int → Int) × (Int → Int) × (Int → Int) × (Int → Int) × (Int → Int) × (Int → Int) × (Int → Int)) hf_28 hG
  · skip
    refine g_iconst S dX9_followShot_17 ?_
    refine g_top (w := .int (iI (sD NF y))) (congrArg (fun z : Int => Value.int (iI z)) ((by omega))) ?_
    refine lv_goto (tgt := 22) S.1 S.2.1 dX9_followShot_18 (by decide) ?_
    refine lv_aload_n S.1 S.2.1 dX9_followShot_22 rfl (lv_at hl 0 rfl) ?_
    refine lv_iload_n S.1 S.2.1 dX9_followShot_23 rfl (lv_at hl 1 rfl) ?_
    refine g_iconst S dX9_followShot_24 ?_
    refine g_invV (As := [.int (iI y), .int (iI 2)]) (rest := [.int (iI (sD NF y)), .int (iI (sY NF y)), .ref (am 0)]) (gs' := (fun u : Unit => [gMdl K am th rw lg mr en pw sl ly dn iz tz nx st tk vl ef ep hO hB ol rm oz, gArr K 95 rw NF, gArr K 60 (am 3) A0, gArrZ K 60 (am 4) A1, gArr K 60 (am 5) A2, gArr K 60 (am 6) A3, gArr K 60 (am 7) A4, gArr K 60 (am 8) A5, gArr K 60 (am 9) A6])) S C hG [0, 1] (c_X9_ofShot l K am th rw lg mr en pw sl ly dn iz tz nx st tk vl ef ep hO hB ol rm oz NF y 2 (by omega) (by decide)) rfl rfl 0 rfl rfl (cwV 2 S.2.2.2.2 gX9_followShot_X9_ofShot rfl rfl rfl (by decide +kernel) ⟨Nat.le_of_ble_eq_true rfl, Nat.le_of_ble_eq_true rfl⟩) rfl hl.1 rfl (Nat.le_of_ble_eq_true rfl) dX9_followShot_25 ⟨Nat.le_of_ble_eq_true rfl, Nat.le_of_ble_eq_true rfl⟩ (fun _ => Nat.le_of_ble_eq_true rfl) (fun _ => rfl) (fun v u H locs hp hG => ?_)
    subst hp
    refine g_top (w := .int (iI (sP NF y))) (congrArg (fun z : Int => Value.int (iI z)) (rfl)) ?_
    refine g_invVv (As := [.int (iI (sY NF y)), .int (iI (sD NF y)), .int (iI (sP NF y))]) (rest := []) (gs' := (fun u : Int × Int × Int × Int × Int × Int × Int × (Int → Int) × (Int → Int) × (Int → Int) × (Int → Int) × (Int → Int) × (Int → Int) × (Int → Int) => [gMdl K am th rw u.1 u.2.1 u.2.2.1 u.2.2.2.1 u.2.2.2.2.1 u.2.2.2.2.2.1 u.2.2.2.2.2.2.1 iz tz nx st tk vl ef ep hO hB ol rm oz, gArr K 95 rw NF, gArr K 60 (am 3) u.2.2.2.2.2.2.2.1, gArrZ K 60 (am 4) u.2.2.2.2.2.2.2.2.1, gArr K 60 (am 5) u.2.2.2.2.2.2.2.2.2.1, gArr K 60 (am 6) u.2.2.2.2.2.2.2.2.2.2.1, gArr K 60 (am 7) u.2.2.2.2.2.2.2.2.2.2.2.1, gArr K 60 (am 8) u.2.2.2.2.2.2.2.2.2.2.2.2.1, gArr K 60 (am 9) u.2.2.2.2.2.2.2.2.2.2.2.2.2])) S C hG [0, 1, 2, 3, 4, 5, 6, 7, 8] (c_X9_follow l K am th rw lg mr en pw sl ly dn iz tz nx st tk vl ef ep hO hB ol rm oz NF A0 A1 A2 A3 A4 A5 A6 (sY NF y) (sD NF y) (sP NF y) hN (by omega) sb.2.2 sb.2.1) rfl rfl 0 rfl rfl (cwV 3 S.2.2.2.2 gX9_followShot_X9_follow rfl rfl rfl (by decide +kernel) ⟨Nat.le_of_ble_eq_true rfl, Nat.le_of_ble_eq_true rfl⟩) rfl hl.1 rfl (Nat.le_of_ble_eq_true rfl) dX9_followShot_28 ⟨Nat.le_of_ble_eq_true rfl, Nat.le_of_ble_eq_true rfl⟩ (fun _ => Nat.le_of_ble_eq_true rfl) (fun _ => rfl) (fun u H locs hp hG => ?_)
    obtain ⟨lg2_28, mr2_28, en2_28, pw2_28, sl2_28, ly2_28, dn2_28, B0_28, B1_28, B2_28, B3_28, B4_28, B5_28, B6_28⟩ := u
    have hf_28 := hp
    have hf_28 : FolR NF (sP NF y) (sY NF y) (sD NF y) lg2_28 mr2_28 en2_28 pw2_28 B0_28 B1_28 B2_28 B3_28 B4_28 B5_28 B6_28 := hf_28
    have hG : gW K A s.heap [gMdl K am th rw lg2_28 mr2_28 en2_28 pw2_28 sl2_28 ly2_28 dn2_28 iz tz nx st tk vl ef ep hO hB ol rm oz, gArr K 95 rw NF, gArr K 60 (am 3) B0_28, gArrZ K 60 (am 4) B1_28, gArr K 60 (am 5) B2_28, gArr K 60 (am 6) B3_28, gArr K 60 (am 7) B4_28, gArr K 60 (am 8) B5_28, gArr K 60 (am 9) B6_28] _ _ := hG
    have hG : gW K A s.heap [gMdl K am th rw lg2_28 mr2_28 en2_28 pw2_28 sl2_28 ly2_28 dn2_28 iz tz nx st tk vl ef ep hO hB ol rm oz, gArr K 95 rw NF, gArr K 60 (am 3) B0_28, gArrZ K 60 (am 4) B1_28, gArr K 60 (am 5) B2_28, gArr K 60 (am 6) B3_28, gArr K 60 (am 7) B4_28, gArr K 60 (am 8) B5_28, gArr K 60 (am 9) B6_28] _ _ := hG
    exact g_vret S hr hlk hQ dX9_followShot_31 (Nat.le_of_ble_eq_true rfl) (Nat.le_of_ble_eq_true rfl) ((lg2_28, mr2_28, en2_28, pw2_28, sl2_28, ly2_28, dn2_28, B0_28, B1_28, B2_28, B3_28, B4_28, B5_28, B6_28) : Int × Int × Int × Int × Int × Int × Int × (Int → Int) × (Int → Int) × (Int → Int) × (Int → Int) × (Int → Int) × (Int → Int) × (Int → Int)) hf_28 hG

set_option maxHeartbeats 1000000 in
set_option maxRecDepth 100000 in
theorem c_X9_endOfShot (l : Launch) (K : KC) (am : Nat → Nat) (th : Int) (rw : Nat) (lg : Int) (mr : Int) (en : Int) (pw : Int) (sl : Int) (ly : Int) (dn : Int) (iz : Int) (tz : Int) (nx : Int) (st : Int) (tk : Int) (vl : Int) (ef : Int) (ep : Int) (hO : Int) (hB : Int) (ol : Int) (rm : Int) (oz : Int) (NF : Int → Int) (A0 : Int → Int) (A1 : Int → Int) (A2 : Int → Int) (A3 : Int → Int) (A4 : Int → Int) (A5 : Int → Int) (A6 : Int → Int) (y : Int) (hN : NOk0 NF) (hs : 0 ≤ y ∧ y < NF 4) : mG l yX9_endOfShot wsX9_endOfShot 6 135 K [.ref (am 0), .int (iI y)] [gMdl K am th rw lg mr en pw sl ly dn iz tz nx st tk vl ef ep hO hB ol rm oz, gArr K 95 rw NF, gArr K 60 (am 3) A0, gArrZ K 60 (am 4) A1, gArr K 60 (am 5) A2, gArr K 60 (am 6) A3, gArr K 60 (am 7) A4, gArr K 60 (am 8) A5, gArr K 60 (am 9) A6] (fun (v : Value) (u : Int × Int × Int × Int × Int × Int × Int × (Int → Int) × (Int → Int) × (Int → Int) × (Int → Int) × (Int → Int) × (Int → Int) × (Int → Int)) => (v = .int (iI (eS NF y))) ∧ (FolS NF y u.1 u.2.1 u.2.2.1 u.2.2.2.1 u.2.2.2.2.2.2.2.1 u.2.2.2.2.2.2.2.2.1 u.2.2.2.2.2.2.2.2.2.1 u.2.2.2.2.2.2.2.2.2.2.1 u.2.2.2.2.2.2.2.2.2.2.2.1 u.2.2.2.2.2.2.2.2.2.2.2.2.1 u.2.2.2.2.2.2.2.2.2.2.2.2.2)) (fun (u : Int × Int × Int × Int × Int × Int × Int × (Int → Int) × (Int → Int) × (Int → Int) × (Int → Int) × (Int → Int) × (Int → Int) × (Int → Int)) => [gMdl K am th rw u.1 u.2.1 u.2.2.1 u.2.2.2.1 u.2.2.2.2.1 u.2.2.2.2.2.1 u.2.2.2.2.2.2.1 iz tz nx st tk vl ef ep hO hB ol rm oz, gArr K 95 rw NF, gArr K 60 (am 3) u.2.2.2.2.2.2.2.1, gArrZ K 60 (am 4) u.2.2.2.2.2.2.2.2.1, gArr K 60 (am 5) u.2.2.2.2.2.2.2.2.2.1, gArr K 60 (am 6) u.2.2.2.2.2.2.2.2.2.2.1, gArr K 60 (am 7) u.2.2.2.2.2.2.2.2.2.2.2.1, gArr K 60 (am 8) u.2.2.2.2.2.2.2.2.2.2.2.2.1, gArr K 60 (am 9) u.2.2.2.2.2.2.2.2.2.2.2.2.2]) 0 0 := by
  refine mG_of cX9_endOfShot 2 (by decide) rfl (Nat.le_of_ble_eq_true rfl) ?_
  intro p e s m below meth c A ls Q S C hG hl hr hlk hin hQ
  have S : CallFix p m c cX9_endOfShot 2 s ([.ref (am 0), .int (iI y)] : List Value).toArray wsX9_endOfShot RX9 := S
  have iX90 : ∀ w ∈ wsX90, w ∈ wsX9_endOfShot := fun _ h => List.mem_cons_of_mem _ (List.mem_append_right _ (h))
  have hl : lv_has ls 2 [(0, .ref (am 0)), (1, .int (iI y))] := hl
  have hG : gW K A s.heap [gMdl K am th rw lg mr en pw sl ly dn iz tz nx st tk vl ef ep hO hB ol rm oz, gArr K 95 rw NF, gArr K 60 (am 3) A0, gArrZ K 60 (am 4) A1, gArr K 60 (am 5) A2, gArr K 60 (am 6) A3, gArr K 60 (am 7) A4, gArr K 60 (am 8) A5, gArr K 60 (am 9) A6] s.heap [] := hG
  refine lv_aload_n S.1 S.2.1 dX9_endOfShot_0 rfl (lv_at hl 0 rfl) ?_
  refine lv_iload_n S.1 S.2.1 dX9_endOfShot_1 rfl (lv_at hl 1 rfl) ?_
  refine g_invVv (As := [.int (iI y)]) (rest := []) (gs' := (fun u : Int × Int × Int × Int × Int × Int × Int × (Int → Int) × (Int → Int) × (Int → Int) × (Int → Int) × (Int → Int) × (Int → Int) × (Int → Int) => [gMdl K am th rw u.1 u.2.1 u.2.2.1 u.2.2.2.1 u.2.2.2.2.1 u.2.2.2.2.2.1 u.2.2.2.2.2.2.1 iz tz nx st tk vl ef ep hO hB ol rm oz, gArr K 95 rw NF, gArr K 60 (am 3) u.2.2.2.2.2.2.2.1, gArrZ K 60 (am 4) u.2.2.2.2.2.2.2.2.1, gArr K 60 (am 5) u.2.2.2.2.2.2.2.2.2.1, gArr K 60 (am 6) u.2.2.2.2.2.2.2.2.2.2.1, gArr K 60 (am 7) u.2.2.2.2.2.2.2.2.2.2.2.1, gArr K 60 (am 8) u.2.2.2.2.2.2.2.2.2.2.2.2.1, gArr K 60 (am 9) u.2.2.2.2.2.2.2.2.2.2.2.2.2])) S C hG [0, 1, 2, 3, 4, 5, 6, 7, 8] (c_X9_followShot l K am th rw lg mr en pw sl ly dn iz tz nx st tk vl ef ep hO hB ol rm oz NF A0 A1 A2 A3 A4 A5 A6 y hN hs) rfl rfl 0 rfl rfl (cwV 1 S.2.2.2.2 gX9_endOfShot_X9_followShot rfl rfl rfl (by decide +kernel) ⟨Nat.le_of_ble_eq_true rfl, Nat.le_of_ble_eq_true rfl⟩) rfl hl.1 rfl (Nat.le_of_ble_eq_true rfl) dX9_endOfShot_2 ⟨Nat.le_of_ble_eq_true rfl, Nat.le_of_ble_eq_true rfl⟩ (fun _ => Nat.le_of_ble_eq_true rfl) (fun _ => rfl) (fun u H locs hp hG => ?_)
  obtain ⟨lg2_2, mr2_2, en2_2, pw2_2, sl2_2, ly2_2, dn2_2, B0_2, B1_2, B2_2, B3_2, B4_2, B5_2, B6_2⟩ := u
  have hf_2 := hp
  have hf_2 : FolS NF y lg2_2 mr2_2 en2_2 pw2_2 B0_2 B1_2 B2_2 B3_2 B4_2 B5_2 B6_2 := hf_2
  have hG : gW K A s.heap [gMdl K am th rw lg2_2 mr2_2 en2_2 pw2_2 sl2_2 ly2_2 dn2_2 iz tz nx st tk vl ef ep hO hB ol rm oz, gArr K 95 rw NF, gArr K 60 (am 3) B0_2, gArrZ K 60 (am 4) B1_2, gArr K 60 (am 5) B2_2, gArr K 60 (am 6) B3_2, gArr K 60 (am 7) B4_2, gArr K 60 (am 8) B5_2, gArr K 60 (am 9) B6_2] _ _ := hG
  refine lv_aload_n S.1 S.2.1 dX9_endOfShot_5 rfl (lv_at hl 0 rfl) ?_
  refine g_get S C hG iX90 0 rfl rfl 13 (by decide) (List.mem_of_getElem? (i := 1) rfl) rfl dX9_endOfShot_6 ?_
  have hG : gW K A s.heap [gMdl K am th rw lg2_2 mr2_2 en2_2 pw2_2 sl2_2 ly2_2 dn2_2 iz tz nx st tk vl ef ep hO hB ol rm oz, gArr K 95 rw NF, gArr K 60 (am 3) B0_2, gArrZ K 60 (am 4) B1_2, gArr K 60 (am 5) B2_2, gArr K 60 (am 6) B3_2, gArr K 60 (am 7) B4_2, gArr K 60 (am 8) B5_2, gArr K 60 (am 9) B6_2] _ _ := hG
  exact g_iret S hr hlk hQ dX9_endOfShot_9 (Nat.le_of_ble_eq_true rfl) (Nat.le_of_ble_eq_true rfl) ((lg2_2, mr2_2, en2_2, pw2_2, sl2_2, ly2_2, dn2_2, B0_2, B1_2, B2_2, B3_2, B4_2, B5_2, B6_2) : Int × Int × Int × Int × Int × Int × Int × (Int → Int) × (Int → Int) × (Int → Int) × (Int → Int) × (Int → Int) × (Int → Int) × (Int → Int)) ⟨(congrArg (fun z : Int => Value.int (iI z)) hf_2.2.2.1), hf_2⟩ hG
