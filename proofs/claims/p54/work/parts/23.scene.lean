set_option maxHeartbeats 1000000 in
set_option maxRecDepth 100000 in
theorem c_X5_setBottom (l : Launch) (K : KC) (a : Nat) (la : Nat) (sa : Nat) (ou : Int) (mi : Int) (bo : Int) (x : Int) (y : Int) (h0 : x = 0 ∨ x = 1) : mV l yX5_setBottom wsX5_setBottom 0 0 K [.ref a, .int (iI x), .int (iI y)] [gScC K a la sa ou mi bo] (fun (u : Unit) => True) (fun (u : Unit) => [gScC K a la sa ou x y]) 0 0 := by
  refine mV_of cX5_setBottom 3 (by decide) rfl (Nat.le_of_ble_eq_true rfl) ?_
  intro p e s m below meth c A ls Q S C hG hl hr hlk hin hQ
  have S : CallFix p m c cX5_setBottom 3 s ([.ref a, .int (iI x), .int (iI y)] : List Value).toArray wsX5_setBottom RX5 := S
  have iX50 : ∀ w ∈ wsX50, w ∈ wsX5_setBottom := fun _ h => List.mem_cons_of_mem _ (List.mem_append_right _ (h))
  have hl : lv_has ls 3 [(0, .ref a), (1, .int (iI x)), (2, .int (iI y))] := hl
  have hG : gW K A s.heap [gScC K a la sa ou mi bo] s.heap [] := hG
  refine lv_aload_n S.1 S.2.1 dX5_setBottom_0 rfl (lv_at hl 0 rfl) ?_
  refine lv_iload_n S.1 S.2.1 dX5_setBottom_1 rfl (lv_at hl 1 rfl) ?_
  refine g_put (gs' := [gScC K a la sa ou x bo]) S C hG iX50 tyX5 tyX5_ok nmX5 0 rfl rfl 3 (by decide) (List.mem_of_getElem? (i := 1) rfl) rfl (nz_b h0) (fz_b h0) (Nat.le_of_ble_eq_true rfl) rfl dX5_setBottom_2 (fun H locs hG => ?_)
  refine lv_aload_n S.1 S.2.1 dX5_setBottom_5 rfl (lv_at hl 0 rfl) ?_
  refine lv_iload_n S.1 S.2.1 dX5_setBottom_6 rfl (lv_at hl 2 rfl) ?_
  refine g_put (gs' := [gScC K a la sa ou x y]) S C hG iX50 tyX5 tyX5_ok nmX5 0 rfl rfl 4 (by decide) (List.mem_of_getElem? (i := 2) rfl) rfl rfl rfl (Nat.le_of_ble_eq_true rfl) rfl dX5_setBottom_7 (fun H locs hG => ?_)
  have hG : gW K A s.heap [gScC K a la sa ou x y] _ _ := hG
  exact g_vret S hr hlk hQ dX5_setBottom_10 (Nat.le_of_ble_eq_true rfl) (Nat.le_of_ble_eq_true rfl) (() : Unit) trivial hG
set_option maxHeartbeats 1000000 in
set_option maxRecDepth 100000 in
theorem c_X5_depthOf (l : Launch) (K : KC) (a : Nat) (la : Nat) (lb : Nat) (sa : Nat) (sb : Nat) (ou : Int) (mi : Int) (bo : Int) (ln : Int) (LF : Int → Int) (sn : Int) (SF : Int → Int) (N : Int → Int) (i : Int) (hS : ScOk N ou mi bo ln LF sn SF) (hN : NOk0 N) (h0 : 0 ≤ i ∧ i ≤ ln) : mG l yX5_depthOf wsX5_depthOf 1 23 K [.ref a, .int (iI i)] [gScn K a la lb sa sb ou mi bo ln LF sn SF] (fun (v : Value) (u : Unit) => (v = .int (iI (depN N i.toNat)))) (fun (u : Unit) => [gScn K a la lb sa sb ou mi bo ln LF sn SF]) 0 0 := by
  refine mG_of cX5_depthOf 4 (by decide) rfl (Nat.le_of_ble_eq_true rfl) ?_
  intro p e s m below meth c A ls Q S C hG hl hr hlk hin hQ
  have S : CallFix p m c cX5_depthOf 4 s ([.ref a, .int (iI i)] : List Value).toArray wsX5_depthOf RX5 := S
  have iX50 : ∀ w ∈ wsX50, w ∈ wsX5_depthOf := fun _ h => List.mem_cons_of_mem _ (List.mem_append_left _ (List.mem_append_right _ (h)))
  have iX70 : ∀ w ∈ wsX70, w ∈ wsX5_depthOf := fun _ h => List.mem_cons_of_mem _ (List.mem_append_right _ (h))
  have hl : lv_has ls 4 [(0, .ref a), (1, .int (iI i))] := hl
  have hG : gW K A s.heap [gScn K a la lb sa sb ou mi bo ln LF sn SF] s.heap [] := hG
  obtain ⟨e0, e1, e2, e3, e4, e5, e6⟩ := id hS
  obtain ⟨n0, n1, n2, n3, n4, n5⟩ := id hN
  refine g_iconst S dX5_depthOf_0 ?_
  refine lv_istore_n (lv' := [(2, .int (iI 0)), (0, .ref a), (1, .int (iI i))]) S.1 S.2.1 dX5_depthOf_1 rfl hl (by decide) rfl (fun ls hl => ?_)
  refine g_iconst S dX5_depthOf_2 ?_
  refine lv_istore_n (lv' := [(3, .int (iI 0)), (2, .int (iI 0)), (0, .ref a), (1, .int (iI i))]) S.1 S.2.1 dX5_depthOf_3 rfl hl (by decide) rfl (fun ls hl => ?_)
  have L4 : ∀ (fu : Nat) (w : Int) (d : Int) (H : Heap) (locs : List Loc) (ls : Array Slot), ((i - w).toNat) < fu → (0 ≤ w ∧ w ≤ i) → (d = depN N w.toNat) → lv_has ls 4 [(0, .ref a), (1, .int (iI i)), (2, .int (iI d)), (3, .int (iI w))] → gW K A s.heap [gScn K a la lb sa sb ou mi bo ln LF sn SF] H locs → W p l e { frames := 1, cells := 0, slots := 0, locals := 23 } s m ([.ref a, .int (iI i)] : List Value).toArray below meth c H locs 0 0 Q (F0 m 4 ls []) := by
    intro fu
    induction fu with
    | zero => intro w d H locs ls hfu; exact absurd hfu (Nat.not_lt_zero _)
    | succ fu ih =>
      intro w d H locs ls hfu hw hd hl hG
      refine lv_iload_n S.1 S.2.1 dX5_depthOf_4 rfl (lv_at hl 3 rfl) ?_
      refine lv_iload_n S.1 S.2.1 dX5_depthOf_5 rfl (lv_at hl 1 rfl) ?_
      refine g_icmp_ge (tgt := 38) S dX5_depthOf_6 (by decide) (by omega) (by omega) (fun q6 => ?_) (fun q6 => ?_)
      · skip
        refine lv_iload_n S.1 S.2.1 dX5_depthOf_38 rfl (lv_at hl 2 rfl) ?_
        have hG : gW K A s.heap [gScn K a la lb sa sb ou mi bo ln LF sn SF] _ _ := hG
        exact g_iret S hr hlk hQ dX5_depthOf_39 (Nat.le_of_ble_eq_true rfl) (Nat.le_of_ble_eq_true rfl) (() : Unit) (congrArg (fun z : Int => Value.int (iI z)) (by rw [hd, show w = i by omega])) hG
      · skip
        refine lv_iload_n S.1 S.2.1 dX5_depthOf_9 rfl (lv_at hl 3 rfl) ?_
        refine lv_aload_n S.1 S.2.1 dX5_depthOf_10 rfl (lv_at hl 0 rfl) ?_
        refine g_get S C hG iX50 0 rfl rfl 0 (by decide) (List.mem_of_getElem? (i := 1) rfl) rfl dX5_depthOf_11 ?_
        refine g_get S C hG iX70 1 rfl rfl 1 (by decide) (List.mem_of_getElem? (i := 2) rfl) rfl dX5_depthOf_14 ?_
        refine g_icmp_ge (tgt := 38) S dX5_depthOf_17 (by decide) (by omega) (by omega) (fun q17 => ?_) (fun q17 => ?_)
        · skip
          omega
        · skip
          refine lv_iload_n S.1 S.2.1 dX5_depthOf_20 rfl (lv_at hl 2 rfl) ?_
          refine lv_aload_n S.1 S.2.1 dX5_depthOf_21 rfl (lv_at hl 0 rfl) ?_
          refine g_get S C hG iX50 0 rfl rfl 0 (by decide) (List.mem_of_getElem? (i := 1) rfl) rfl dX5_depthOf_22 ?_
          refine lv_iload_n S.1 S.2.1 dX5_depthOf_25 rfl (lv_at hl 3 rfl) ?_
          refine g_iconst S dX5_depthOf_26 ?_
          have hG : gW K A s.heap [gScC K a la sa ou mi bo, gTab K la lb ln LF, gTabC K sa sb sn, gArr K 60 sb SF] _ _ := hG
          refine g_invV (As := [.int (iI w), .int (iI 1)]) (rest := [.int (iI d)]) (gs' := (fun u : Unit => [gScC K a la sa ou mi bo, gTab K la lb ln LF, gTabC K sa sb sn, gArr K 60 sb SF])) S C hG [1] (c_X7_get l K la lb ln LF w 1 (by omega) (by omega)) rfl rfl 0 rfl rfl (cwV 2 S.2.2.2.2 gX5_depthOf_X7_get rfl rfl rfl (by decide +kernel) ⟨Nat.le_of_ble_eq_true rfl, Nat.le_of_ble_eq_true rfl⟩) rfl hl.1 rfl (Nat.le_of_ble_eq_true rfl) dX5_depthOf_27 ⟨Nat.le_of_ble_eq_true rfl, Nat.le_of_ble_eq_true rfl⟩ (fun _ => Nat.le_of_ble_eq_true rfl) (fun _ => rfl) (fun v u H locs hp hG => ?_)
          subst hp
          refine g_iadd S dX5_depthOf_30 rfl ?_
          refine lv_istore_n (lv' := [(2, .int (iI (d + (LF (w * 3 + 1))))), (0, .ref a), (1, .int (iI i)), (3, .int (iI w))]) S.1 S.2.1 dX5_depthOf_31 rfl hl (by decide) rfl (fun ls hl => ?_)
          refine lv_iinc (v := iI (w + 1)) (lv' := [(3, .int (iI (w + 1))), (2, .int (iI (d + (LF (w * 3 + 1))))), (0, .ref a), (1, .int (iI i))]) S.1 S.2.1 dX5_depthOf_32 hl (k := 3) rfl (g_iinc rfl) (by decide) rfl (fun ls hl => ?_)
          refine lv_goto (tgt := 4) S.1 S.2.1 dX5_depthOf_35 (by decide) ?_
          have hG : gW K A s.heap [gScn K a la lb sa sb ou mi bo ln LF sn SF] _ _ := hG
          exact ih (w + 1) (d + (LF (w * 3 + 1))) _ _ _ (by omega) (by omega) (by rw [show (w + 1).toNat = w.toNat + 1 by omega, depN, ← hd, e5 w 1 (by omega) (by omega) (by omega) (by omega), Int.toNat_of_nonneg (by omega)]) (lv_sub hl [2, 3, 1, 0] rfl) hG
  exact L4 (Nat.succ ((i - 0).toNat)) 0 0 _ _ _ (Nat.lt_succ_self _) (by omega) rfl (lv_sub hl [2, 3, 1, 0] rfl) hG
set_option maxHeartbeats 1000000 in
set_option maxRecDepth 100000 in
theorem c_X5_isMirrorAt (l : Launch) (K : KC) (a : Nat) (la : Nat) (lb : Nat) (sa : Nat) (sb : Nat) (ou : Int) (mi : Int) (bo : Int) (ln : Int) (LF : Int → Int) (sn : Int) (SF : Int → Int) (N : Int → Int) (i : Int) (hS : ScOk N ou mi bo ln LF sn SF) (hN : NOk0 N) (h0 : -2147483648 ≤ i ∧ i < 2147483648) : mG l yX5_isMirrorAt wsX5_isMirrorAt 0 0 K [.ref a, .int (iI i)] [gScn K a la lb sa sb ou mi bo ln LF sn SF] (fun (v : Value) (u : Unit) => (v = .int (iI (bI (N 2 = 1 ∧ N 0 ≤ i))))) (fun (u : Unit) => [gScn K a la lb sa sb ou mi bo ln LF sn SF]) 0 0 := by
  refine mG_of cX5_isMirrorAt 2 (by decide) rfl (Nat.le_of_ble_eq_true rfl) ?_
  intro p e s m below meth c A ls Q S C hG hl hr hlk hin hQ
  have S : CallFix p m c cX5_isMirrorAt 2 s ([.ref a, .int (iI i)] : List Value).toArray wsX5_isMirrorAt RX5 := S
  have iX50 : ∀ w ∈ wsX50, w ∈ wsX5_isMirrorAt := fun _ h => List.mem_cons_of_mem _ (List.mem_append_left _ (List.mem_append_right _ (h)))
  have iX70 : ∀ w ∈ wsX70, w ∈ wsX5_isMirrorAt := fun _ h => List.mem_cons_of_mem _ (List.mem_append_right _ (h))
  have hl : lv_has ls 2 [(0, .ref a), (1, .int (iI i))] := hl
  have hG : gW K A s.heap [gScn K a la lb sa sb ou mi bo ln LF sn SF] s.heap [] := hG
  obtain ⟨e0, e1, e2, e3, e4, e5, e6⟩ := id hS
  obtain ⟨n0, n1, n2, n3, n4, n5⟩ := id hN
  refine lv_aload_n S.1 S.2.1 dX5_isMirrorAt_0 rfl (lv_at hl 0 rfl) ?_
  refine g_get S C hG iX50 0 rfl rfl 3 (by decide) (List.mem_of_getElem? (i := 1) rfl) rfl dX5_isMirrorAt_1 ?_
  refine g_if_eq (tgt := 22) S dX5_isMirrorAt_4 (by decide) (by omega) (fun q4 => ?_) (fun q4 => ?_)
  · skip
    refine g_iconst S dX5_isMirrorAt_22 ?_
    have hG : gW K A s.heap [gScn K a la lb sa sb ou mi bo ln LF sn SF] _ _ := hG
    exact g_zret S hr hlk hQ (Or.inl rfl) dX5_isMirrorAt_23 (Nat.le_of_ble_eq_true rfl) (Nat.le_of_ble_eq_true rfl) (() : Unit) (congrArg (fun z : Int => Value.int (iI z)) (bI_f (by omega)).symm) hG
  · skip
    refine lv_iload_n S.1 S.2.1 dX5_isMirrorAt_7 rfl (lv_at hl 1 rfl) ?_
    refine lv_aload_n S.1 S.2.1 dX5_isMirrorAt_8 rfl (lv_at hl 0 rfl) ?_
    refine g_get S C hG iX50 0 rfl rfl 0 (by decide) (List.mem_of_getElem? (i := 2) rfl) rfl dX5_isMirrorAt_9 ?_
    refine g_get S C hG iX70 1 rfl rfl 1 (by decide) (List.mem_of_getElem? (i := 3) rfl) rfl dX5_isMirrorAt_12 ?_
    refine g_icmp_lt (tgt := 22) S dX5_isMirrorAt_15 (by decide) (by omega) (by omega) (fun q15 => ?_) (fun q15 => ?_)
    · skip
      refine g_iconst S dX5_isMirrorAt_22 ?_
      have hG : gW K A s.heap [gScn K a la lb sa sb ou mi bo ln LF sn SF] _ _ := hG
      exact g_zret S hr hlk hQ (Or.inl rfl) dX5_isMirrorAt_23 (Nat.le_of_ble_eq_true rfl) (Nat.le_of_ble_eq_true rfl) (() : Unit) (congrArg (fun z : Int => Value.int (iI z)) (bI_f (by omega)).symm) hG
    · skip
      refine g_iconst S dX5_isMirrorAt_18 ?_
      refine lv_goto (tgt := 23) S.1 S.2.1 dX5_isMirrorAt_19 (by decide) ?_
      have hG : gW K A s.heap [gScn K a la lb sa sb ou mi bo ln LF sn SF] _ _ := hG
      exact g_zret S hr hlk hQ (Or.inr rfl) dX5_isMirrorAt_23 (Nat.le_of_ble_eq_true rfl) (Nat.le_of_ble_eq_true rfl) (() : Unit) (congrArg (fun z : Int => Value.int (iI z)) (bI_t (by omega)).symm) hG
set_option maxHeartbeats 1000000 in
set_option maxRecDepth 100000 in
theorem c_X5_indexAt (l : Launch) (K : KC) (a : Nat) (la : Nat) (lb : Nat) (sa : Nat) (sb : Nat) (ou : Int) (mi : Int) (bo : Int) (ln : Int) (LF : Int → Int) (sn : Int) (SF : Int → Int) (N : Int → Int) (i : Int) (hS : ScOk N ou mi bo ln LF sn SF) (hN : NOk0 N) (h0 : -2147483648 ≤ i ∧ i < 2147483648) : mG l yX5_indexAt wsX5_indexAt 1 23 K [.ref a, .int (iI i)] [gScn K a la lb sa sb ou mi bo ln LF sn SF] (fun (v : Value) (u : Unit) => (v = .int (iI (ixN N i)))) (fun (u : Unit) => [gScn K a la lb sa sb ou mi bo ln LF sn SF]) 0 0 := by
  refine mG_of cX5_indexAt 2 (by decide) rfl (Nat.le_of_ble_eq_true rfl) ?_
  intro p e s m below meth c A ls Q S C hG hl hr hlk hin hQ
  have S : CallFix p m c cX5_indexAt 2 s ([.ref a, .int (iI i)] : List Value).toArray wsX5_indexAt RX5 := S
  have iX50 : ∀ w ∈ wsX50, w ∈ wsX5_indexAt := fun _ h => List.mem_cons_of_mem _ (List.mem_append_left _ (List.mem_append_right _ (h)))
  have iX70 : ∀ w ∈ wsX70, w ∈ wsX5_indexAt := fun _ h => List.mem_cons_of_mem _ (List.mem_append_right _ (h))
  have hl : lv_has ls 2 [(0, .ref a), (1, .int (iI i))] := hl
  have hG : gW K A s.heap [gScn K a la lb sa sb ou mi bo ln LF sn SF] s.heap [] := hG
  obtain ⟨e0, e1, e2, e3, e4, e5, e6⟩ := id hS
  obtain ⟨n0, n1, n2, n3, n4, n5⟩ := id hN
  refine lv_iload_n S.1 S.2.1 dX5_indexAt_0 rfl (lv_at hl 1 rfl) ?_
  refine g_if_ge (tgt := 9) S dX5_indexAt_1 (by decide) (by omega) (fun q1 => ?_) (fun q1 => ?_)
  · skip
    refine lv_iload_n S.1 S.2.1 dX5_indexAt_9 rfl (lv_at hl 1 rfl) ?_
    refine lv_aload_n S.1 S.2.1 dX5_indexAt_10 rfl (lv_at hl 0 rfl) ?_
    refine g_get S C hG iX50 0 rfl rfl 0 (by decide) (List.mem_of_getElem? (i := 2) rfl) rfl dX5_indexAt_11 ?_
    refine g_get S C hG iX70 1 rfl rfl 1 (by decide) (List.mem_of_getElem? (i := 3) rfl) rfl dX5_indexAt_14 ?_
    refine g_icmp_lt (tgt := 36) S dX5_indexAt_17 (by decide) (by omega) (by omega) (fun q17 => ?_) (fun q17 => ?_)
    · skip
      refine lv_aload_n S.1 S.2.1 dX5_indexAt_36 rfl (lv_at hl 0 rfl) ?_
      refine g_get S C hG iX50 0 rfl rfl 0 (by decide) (List.mem_of_getElem? (i := 2) rfl) rfl dX5_indexAt_37 ?_
      refine lv_iload_n S.1 S.2.1 dX5_indexAt_40 rfl (lv_at hl 1 rfl) ?_
      refine g_iconst S dX5_indexAt_41 ?_
      have hG : gW K A s.heap [gScC K a la sa ou mi bo, gTab K la lb ln LF, gTabC K sa sb sn, gArr K 60 sb SF] _ _ := hG
      refine g_invV (As := [.int (iI i), .int (iI 0)]) (rest := []) (gs' := (fun u : Unit => [gScC K a la sa ou mi bo, gTab K la lb ln LF, gTabC K sa sb sn, gArr K 60 sb SF])) S C hG [1] (c_X7_get l K la lb ln LF i 0 (by omega) (by omega)) rfl rfl 0 rfl rfl (cwV 2 S.2.2.2.2 gX5_indexAt_X7_get rfl rfl rfl (by decide +kernel) ⟨Nat.le_of_ble_eq_true rfl, Nat.le_of_ble_eq_true rfl⟩) rfl hl.1 rfl (Nat.le_of_ble_eq_true rfl) dX5_indexAt_42 ⟨Nat.le_of_ble_eq_true rfl, Nat.le_of_ble_eq_true rfl⟩ (fun _ => Nat.le_of_ble_eq_true rfl) (fun _ => rfl) (fun v u H locs hp hG => ?_)
      subst hp
      have z := e5 i 0 (by omega) (by omega) (by omega) (by omega)
      have hG : gW K A s.heap [gScn K a la lb sa sb ou mi bo ln LF sn SF] _ _ := hG
      exact g_iret S hr hlk hQ dX5_indexAt_45 (Nat.le_of_ble_eq_true rfl) (Nat.le_of_ble_eq_true rfl) (() : Unit) (congrArg (fun z : Int => Value.int (iI z)) (by unfold ixN; (repeat' split) <;> omega)) hG
    · skip
      refine lv_aload_n S.1 S.2.1 dX5_indexAt_20 rfl (lv_at hl 0 rfl) ?_
      refine g_get S C hG iX50 0 rfl rfl 3 (by decide) (List.mem_of_getElem? (i := 4) rfl) rfl dX5_indexAt_21 ?_
      refine g_if_eq (tgt := 31) S dX5_indexAt_24 (by decide) (by omega) (fun q24 => ?_) (fun q24 => ?_)
      · skip
        refine lv_aload_n S.1 S.2.1 dX5_indexAt_31 rfl (lv_at hl 0 rfl) ?_
        refine g_get S C hG iX50 0 rfl rfl 4 (by decide) (List.mem_of_getElem? (i := 5) rfl) rfl dX5_indexAt_32 ?_
        have hG : gW K A s.heap [gScn K a la lb sa sb ou mi bo ln LF sn SF] _ _ := hG
        exact g_iret S hr hlk hQ dX5_indexAt_35 (Nat.le_of_ble_eq_true rfl) (Nat.le_of_ble_eq_true rfl) (() : Unit) (congrArg (fun z : Int => Value.int (iI z)) (by unfold ixN; (repeat' split) <;> omega)) hG
      · skip
        refine g_iconst S dX5_indexAt_27 ?_
        refine lv_goto (tgt := 35) S.1 S.2.1 dX5_indexAt_28 (by decide) ?_
        have hG : gW K A s.heap [gScn K a la lb sa sb ou mi bo ln LF sn SF] _ _ := hG
        exact g_iret S hr hlk hQ dX5_indexAt_35 (Nat.le_of_ble_eq_true rfl) (Nat.le_of_ble_eq_true rfl) (() : Unit) (congrArg (fun z : Int => Value.int (iI z)) (by unfold ixN; (repeat' split) <;> omega)) hG
  · skip
    refine lv_aload_n S.1 S.2.1 dX5_indexAt_4 rfl (lv_at hl 0 rfl) ?_
    refine g_get S C hG iX50 0 rfl rfl 2 (by decide) (List.mem_of_getElem? (i := 1) rfl) rfl dX5_indexAt_5 ?_
    have hG : gW K A s.heap [gScn K a la lb sa sb ou mi bo ln LF sn SF] _ _ := hG
    exact g_iret S hr hlk hQ dX5_indexAt_8 (Nat.le_of_ble_eq_true rfl) (Nat.le_of_ble_eq_true rfl) (() : Unit) (congrArg (fun z : Int => Value.int (iI z)) (by unfold ixN; (repeat' split) <;> omega)) hG
set_option maxHeartbeats 1000000 in
set_option maxRecDepth 100000 in
theorem c_X5_canBegin (l : Launch) (K : KC) (a : Nat) (la : Nat) (lb : Nat) (sa : Nat) (sb : Nat) (ou : Int) (mi : Int) (bo : Int) (ln : Int) (LF : Int → Int) (sn : Int) (SF : Int → Int) (N : Int → Int) (i : Int) (x : Int) (hS : ScOk N ou mi bo ln LF sn SF) (hN : NOk0 N) (h0 : -2147483648 ≤ i ∧ i < 2147483648) (h1 : -2147483648 ≤ x ∧ x < 2147483648) : mG l yX5_canBegin wsX5_canBegin 1 23 K [.ref a, .int (iI i), .int (iI x)] [gScn K a la lb sa sb ou mi bo ln LF sn SF] (fun (v : Value) (u : Unit) => (v = .int (iI (bI (begN N i x))))) (fun (u : Unit) => [gScn K a la lb sa sb ou mi bo ln LF sn SF]) 0 0 := by
  refine mG_of cX5_canBegin 3 (by decide) rfl (Nat.le_of_ble_eq_true rfl) ?_
  intro p e s m below meth c A ls Q S C hG hl hr hlk hin hQ
  have S : CallFix p m c cX5_canBegin 3 s ([.ref a, .int (iI i), .int (iI x)] : List Value).toArray wsX5_canBegin RX5 := S
  have iX50 : ∀ w ∈ wsX50, w ∈ wsX5_canBegin := fun _ h => List.mem_cons_of_mem _ (List.mem_append_left _ (List.mem_append_right _ (h)))
  have iX70 : ∀ w ∈ wsX70, w ∈ wsX5_canBegin := fun _ h => List.mem_cons_of_mem _ (List.mem_append_right _ (h))
  have hl : lv_has ls 3 [(0, .ref a), (1, .int (iI i)), (2, .int (iI x))] := hl
  have hG : gW K A s.heap [gScn K a la lb sa sb ou mi bo ln LF sn SF] s.heap [] := hG
  obtain ⟨e0, e1, e2, e3, e4, e5, e6⟩ := id hS
  obtain ⟨n0, n1, n2, n3, n4, n5⟩ := id hN
  refine lv_aload_n S.1 S.2.1 dX5_canBegin_0 rfl (lv_at hl 0 rfl) ?_
  refine g_get S C hG iX50 0 rfl rfl 0 (by decide) (List.mem_of_getElem? (i := 1) rfl) rfl dX5_canBegin_1 ?_
  refine lv_iload_n S.1 S.2.1 dX5_canBegin_4 rfl (lv_at hl 1 rfl) ?_
  have hG : gW K A s.heap [gScC K a la sa ou mi bo, gTab K la lb ln LF, gTabC K sa sb sn, gArr K 60 sb SF] _ _ := hG
  refine g_invV (As := [.int (iI i)]) (rest := []) (gs' := (fun u : Unit => [gScC K a la sa ou mi bo, gTab K la lb ln LF, gTabC K sa sb sn, gArr K 60 sb SF])) S C hG [1] (c_X7_has l K la lb ln LF i h0 (by omega)) rfl rfl 0 rfl rfl (cwV 1 S.2.2.2.2 gX5_canBegin_X7_has rfl rfl rfl (by decide +kernel) ⟨Nat.le_of_ble_eq_true rfl, Nat.le_of_ble_eq_true rfl⟩) rfl hl.1 rfl (Nat.le_of_ble_eq_true rfl) dX5_canBegin_5 ⟨Nat.le_of_ble_eq_true rfl, Nat.le_of_ble_eq_true rfl⟩ (fun _ => Nat.le_of_ble_eq_true rfl) (fun _ => rfl) (fun v u H locs hp hG => ?_)
  subst hp
  refine g_ifeq_b (B := (0 ≤ i ∧ i < ln)) (tgt := 28) S dX5_canBegin_8 (by decide) (fun q8 => ?_) (fun q8 => ?_)
  · skip
    refine g_iconst S dX5_canBegin_28 ?_
    have hG : gW K A s.heap [gScn K a la lb sa sb ou mi bo ln LF sn SF] _ _ := hG
    exact g_zret S hr hlk hQ (Or.inl rfl) dX5_canBegin_29 (Nat.le_of_ble_eq_true rfl) (Nat.le_of_ble_eq_true rfl) (() : Unit) (congrArg (fun z : Int => Value.int (iI z)) (bI_f (by show _; omega)).symm) hG
  · skip
    refine lv_iload_n S.1 S.2.1 dX5_canBegin_11 rfl (lv_at hl 2 rfl) ?_
    refine lv_aload_n S.1 S.2.1 dX5_canBegin_12 rfl (lv_at hl 0 rfl) ?_
    refine g_get S C hG iX50 0 rfl rfl 0 (by decide) (List.mem_of_getElem? (i := 1) rfl) rfl dX5_canBegin_13 ?_
    refine lv_iload_n S.1 S.2.1 dX5_canBegin_16 rfl (lv_at hl 1 rfl) ?_
    refine g_iconst S dX5_canBegin_17 ?_
    refine g_invV (As := [.int (iI i), .int (iI 0)]) (rest := [.int (iI x)]) (gs' := (fun u : Unit => [gScC K a la sa ou mi bo, gTab K la lb ln LF, gTabC K sa sb sn, gArr K 60 sb SF])) S C hG [1] (c_X7_get l K la lb ln LF i 0 (by omega) (by omega)) rfl rfl 0 rfl rfl (cwV 2 S.2.2.2.2 gX5_canBegin_X7_get rfl rfl rfl (by decide +kernel) ⟨Nat.le_of_ble_eq_true rfl, Nat.le_of_ble_eq_true rfl⟩) rfl hl.1 rfl (Nat.le_of_ble_eq_true rfl) dX5_canBegin_18 ⟨Nat.le_of_ble_eq_true rfl, Nat.le_of_ble_eq_true rfl⟩ (fun _ => Nat.le_of_ble_eq_true rfl) (fun _ => rfl) (fun v u H locs hp hG => ?_)
    subst hp
    have z := e5 i 0 (by omega) (by omega) (by omega) (by omega)
    have z2 := (n4 i (by omega) (by omega)).1
    refine g_icmp_ge (tgt := 28) S dX5_canBegin_21 (by decide) (by omega) (by omega) (fun q21 => ?_) (fun q21 => ?_)
    · skip
      refine g_iconst S dX5_canBegin_28 ?_
      have hG : gW K A s.heap [gScn K a la lb sa sb ou mi bo ln LF sn SF] _ _ := hG
      exact g_zret S hr hlk hQ (Or.inl rfl) dX5_canBegin_29 (Nat.le_of_ble_eq_true rfl) (Nat.le_of_ble_eq_true rfl) (() : Unit) (congrArg (fun z : Int => Value.int (iI z)) (bI_f (by show _; omega)).symm) hG
    · skip
      refine g_iconst S dX5_canBegin_24 ?_
      refine lv_goto (tgt := 29) S.1 S.2.1 dX5_canBegin_25 (by decide) ?_
      have hG : gW K A s.heap [gScn K a la lb sa sb ou mi bo ln LF sn SF] _ _ := hG
      exact g_zret S hr hlk hQ (Or.inr rfl) dX5_canBegin_29 (Nat.le_of_ble_eq_true rfl) (Nat.le_of_ble_eq_true rfl) (() : Unit) (congrArg (fun z : Int => Value.int (iI z)) (bI_t (by show _; omega)).symm) hG
set_option maxHeartbeats 1000000 in
set_option maxRecDepth 100000 in
theorem c_X5_empty (l : Launch) (K : KC) (a : Nat) (la : Nat) (lb : Nat) (sa : Nat) (sb : Nat) (ou : Int) (mi : Int) (bo : Int) (ln : Int) (LF : Int → Int) (sn : Int) (SF : Int → Int) : mV l yX5_empty wsX5_empty 1 22 K [.ref a] [gScn K a la lb sa sb ou mi bo ln LF sn SF] (fun (u : Unit) => True) (fun (u : Unit) => [gScn K a la lb sa sb 1000 0 1000 0 LF 0 SF]) 0 0 := by
  refine mV_of cX5_empty 1 (by decide) rfl (Nat.le_of_ble_eq_true rfl) ?_
  intro p e s m below meth c A ls Q S C hG hl hr hlk hin hQ
  have S : CallFix p m c cX5_empty 1 s ([.ref a] : List Value).toArray wsX5_empty RX5 := S
  have iX50 : ∀ w ∈ wsX50, w ∈ wsX5_empty := fun _ h => List.mem_cons_of_mem _ (List.mem_append_left _ (List.mem_append_right _ (h)))
  have iX70 : ∀ w ∈ wsX70, w ∈ wsX5_empty := fun _ h => List.mem_cons_of_mem _ (List.mem_append_right _ (h))
  have hl : lv_has ls 1 [(0, .ref a)] := hl
  have hG : gW K A s.heap [gScn K a la lb sa sb ou mi bo ln LF sn SF] s.heap [] := hG
  refine lv_aload_n S.1 S.2.1 dX5_empty_0 rfl (lv_at hl 0 rfl) ?_
  refine g_get S C hG iX50 0 rfl rfl 0 (by decide) (List.mem_of_getElem? (i := 1) rfl) rfl dX5_empty_1 ?_
  refine g_iconst S dX5_empty_4 ?_
  refine g_put (gs' := [gScn K a la lb sa sb ou mi bo 0 LF sn SF]) S C hG iX70 tyX7 tyX7_ok nmX7 1 rfl rfl 1 (by decide) (List.mem_of_getElem? (i := 2) rfl) rfl rfl rfl (Nat.le_of_ble_eq_true rfl) rfl dX5_empty_5 (fun H locs hG => ?_)
  refine lv_aload_n S.1 S.2.1 dX5_empty_8 rfl (lv_at hl 0 rfl) ?_
  refine g_get S C hG iX50 0 rfl rfl 1 (by decide) (List.mem_of_getElem? (i := 3) rfl) rfl dX5_empty_9 ?_
  refine g_iconst S dX5_empty_12 ?_
  refine g_put (gs' := [gScn K a la lb sa sb ou mi bo 0 LF 0 SF]) S C hG iX70 tyX7 tyX7_ok nmX7 3 rfl rfl 1 (by decide) (List.mem_of_getElem? (i := 2) rfl) rfl rfl rfl (Nat.le_of_ble_eq_true rfl) rfl dX5_empty_13 (fun H locs hG => ?_)
  refine lv_aload_n S.1 S.2.1 dX5_empty_16 rfl (lv_at hl 0 rfl) ?_
  refine g_sipush S dX5_empty_17 (by decide) ?_
  refine g_put (gs' := [gScn K a la lb sa sb 1000 mi bo 0 LF 0 SF]) S C hG iX50 tyX5 tyX5_ok nmX5 0 rfl rfl 2 (by decide) (List.mem_of_getElem? (i := 4) rfl) rfl rfl rfl (Nat.le_of_ble_eq_true rfl) rfl dX5_empty_20 (fun H locs hG => ?_)
  refine lv_aload_n S.1 S.2.1 dX5_empty_23 rfl (lv_at hl 0 rfl) ?_
  refine g_iconst S dX5_empty_24 ?_
  refine g_sipush S dX5_empty_25 (by decide) ?_
  have hG : gW K A s.heap [gScC K a la sa 1000 mi bo, gTabC K la lb 0, gArr K 60 lb LF, gTabC K sa sb 0, gArr K 60 sb SF] _ _ := hG
  refine g_invVv (As := [.int (iI 0), .int (iI 1000)]) (rest := []) (gs' := (fun u : Unit => [gScC K a la sa 1000 0 1000, gTabC K la lb 0, gArr K 60 lb LF, gTabC K sa sb 0, gArr K 60 sb SF])) S C hG [0] (c_X5_setBottom l K a la sa 1000 mi bo 0 1000 (by omega)) rfl rfl 0 rfl rfl (cwV 2 S.2.2.2.2 gX5_empty_X5_setBottom rfl rfl rfl (by decide +kernel) ⟨Nat.le_of_ble_eq_true rfl, Nat.le_of_ble_eq_true rfl⟩) rfl hl.1 rfl (Nat.le_of_ble_eq_true rfl) dX5_empty_28 ⟨Nat.le_of_ble_eq_true rfl, Nat.le_of_ble_eq_true rfl⟩ (fun _ => Nat.le_of_ble_eq_true rfl) (fun _ => rfl) (fun u H locs hp hG => ?_)
  have hG : gW K A s.heap [gScn K a la lb sa sb 1000 0 1000 0 LF 0 SF] _ _ := hG
  exact g_vret S hr hlk hQ dX5_empty_31 (Nat.le_of_ble_eq_true rfl) (Nat.le_of_ble_eq_true rfl) (() : Unit) trivial hG
set_option maxHeartbeats 1000000 in
set_option maxRecDepth 100000 in
theorem c_X5_become (l : Launch) (K : KC) (a : Nat) (la : Nat) (lb : Nat) (sa : Nat) (sb : Nat) (ou : Int) (mi : Int) (bo : Int) (ln : Int) (LF : Int → Int) (sn : Int) (SF : Int → Int) (a2 : Nat) (la2 : Nat) (lb2 : Nat) (sa2 : Nat) (sb2 : Nat) (ou2 : Int) (mi2 : Int) (bo2 : Int) (ln2 : Int) (LF2 : Int → Int) (sn2 : Int) (SF2 : Int → Int) (h0 : mi2 = 0 ∨ mi2 = 1) : mV l yX5_become wsX5_become 2 81 K [.ref a, .ref a2] [gScn K a la lb sa sb ou mi bo ln LF sn SF, gScn K a2 la2 lb2 sa2 sb2 ou2 mi2 bo2 ln2 LF2 sn2 SF2] (fun (u : Unit) => True) (fun (u : Unit) => [gScn K a la lb sa sb ou2 mi2 bo2 ln2 (cpyI LF2 LF 60) sn2 (cpyI SF2 SF 60), gScn K a2 la2 lb2 sa2 sb2 ou2 mi2 bo2 ln2 LF2 sn2 SF2]) 0 0 := by
  refine mV_of cX5_become 2 (by decide) rfl (Nat.le_of_ble_eq_true rfl) ?_
  intro p e s m below meth c A ls Q S C hG hl hr hlk hin hQ
  have S : CallFix p m c cX5_become 2 s ([.ref a, .ref a2] : List Value).toArray wsX5_become RX5 := S
  have iX50 : ∀ w ∈ wsX50, w ∈ wsX5_become := fun _ h => List.mem_cons_of_mem _ (List.mem_append_left _ (List.mem_append_right _ (h)))
  have iX70 : ∀ w ∈ wsX70, w ∈ wsX5_become := fun _ h => List.mem_cons_of_mem _ (List.mem_append_right _ (h))
  have hl : lv_has ls 2 [(0, .ref a), (1, .ref a2)] := hl
  have hG : gW K A s.heap [gScn K a la lb sa sb ou mi bo ln LF sn SF, gScn K a2 la2 lb2 sa2 sb2 ou2 mi2 bo2 ln2 LF2 sn2 SF2] s.heap [] := hG
  refine lv_aload_n S.1 S.2.1 dX5_become_0 rfl (lv_at hl 0 rfl) ?_
  refine g_get S C hG iX50 0 rfl rfl 0 (by decide) (List.mem_of_getElem? (i := 1) rfl) rfl dX5_become_1 ?_
  refine lv_aload_n S.1 S.2.1 dX5_become_4 rfl (lv_at hl 1 rfl) ?_
  refine g_get S C hG iX50 5 rfl rfl 0 (by decide) (List.mem_of_getElem? (i := 1) rfl) rfl dX5_become_5 ?_
  have hG : gW K A s.heap [gScC K a la sa ou mi bo, gTab K la lb ln LF, gTabC K sa sb sn, gArr K 60 sb SF, gScC K a2 la2 sa2 ou2 mi2 bo2, gTab K la2 lb2 ln2 LF2, gTabC K sa2 sb2 sn2, gArr K 60 sb2 SF2] _ _ := hG
  refine g_invVv (As := [.ref la2]) (rest := []) (gs' := (fun u : Unit => [gScC K a la sa ou mi bo, gTab K la lb ln2 (cpyI LF2 LF 60), gTabC K sa sb sn, gArr K 60 sb SF, gScC K a2 la2 sa2 ou2 mi2 bo2, gTab K la2 lb2 ln2 LF2, gTabC K sa2 sb2 sn2, gArr K 60 sb2 SF2])) S C hG [1, 5] (c_X7_become l K la lb ln LF la2 lb2 ln2 LF2) rfl rfl 0 rfl rfl (cwV 1 S.2.2.2.2 gX5_become_X7_become rfl rfl rfl (by decide +kernel) ⟨Nat.le_of_ble_eq_true rfl, Nat.le_of_ble_eq_true rfl⟩) rfl hl.1 rfl (Nat.le_of_ble_eq_true rfl) dX5_become_8 ⟨Nat.le_of_ble_eq_true rfl, Nat.le_of_ble_eq_true rfl⟩ (fun _ => Nat.le_of_ble_eq_true rfl) (fun _ => rfl) (fun u H locs hp hG => ?_)
  refine lv_aload_n S.1 S.2.1 dX5_become_11 rfl (lv_at hl 0 rfl) ?_
  refine g_get S C hG iX50 0 rfl rfl 1 (by decide) (List.mem_of_getElem? (i := 2) rfl) rfl dX5_become_12 ?_
  refine lv_aload_n S.1 S.2.1 dX5_become_15 rfl (lv_at hl 1 rfl) ?_
  refine g_get S C hG iX50 5 rfl rfl 1 (by decide) (List.mem_of_getElem? (i := 2) rfl) rfl dX5_become_16 ?_
  have hG : gW K A s.heap [gScC K a la sa ou mi bo, gTab K la lb ln2 (cpyI LF2 LF 60), gTab K sa sb sn SF, gScC K a2 la2 sa2 ou2 mi2 bo2, gTab K la2 lb2 ln2 LF2, gTab K sa2 sb2 sn2 SF2] _ _ := hG
  refine g_invVv (As := [.ref sa2]) (rest := []) (gs' := (fun u : Unit => [gScC K a la sa ou mi bo, gTab K la lb ln2 (cpyI LF2 LF 60), gTab K sa sb sn2 (cpyI SF2 SF 60), gScC K a2 la2 sa2 ou2 mi2 bo2, gTab K la2 lb2 ln2 LF2, gTab K sa2 sb2 sn2 SF2])) S C hG [2, 5] (c_X7_become l K sa sb sn SF sa2 sb2 sn2 SF2) rfl rfl 0 rfl rfl (cwV 1 S.2.2.2.2 gX5_become_X7_become rfl rfl rfl (by decide +kernel) ⟨Nat.le_of_ble_eq_true rfl, Nat.le_of_ble_eq_true rfl⟩) rfl hl.1 rfl (Nat.le_of_ble_eq_true rfl) dX5_become_19 ⟨Nat.le_of_ble_eq_true rfl, Nat.le_of_ble_eq_true rfl⟩ (fun _ => Nat.le_of_ble_eq_true rfl) (fun _ => rfl) (fun u H locs hp hG => ?_)
  refine lv_aload_n S.1 S.2.1 dX5_become_22 rfl (lv_at hl 0 rfl) ?_
  refine lv_aload_n S.1 S.2.1 dX5_become_23 rfl (lv_at hl 1 rfl) ?_
  refine g_get S C hG iX50 5 rfl rfl 2 (by decide) (List.mem_of_getElem? (i := 3) rfl) rfl dX5_become_24 ?_
  refine g_put (gs' := [gScC K a la sa ou2 mi bo, gTab K la lb ln2 (cpyI LF2 LF 60), gTab K sa sb sn2 (cpyI SF2 SF 60), gScC K a2 la2 sa2 ou2 mi2 bo2, gTab K la2 lb2 ln2 LF2, gTab K sa2 sb2 sn2 SF2]) S C hG iX50 tyX5 tyX5_ok nmX5 0 rfl rfl 2 (by decide) (List.mem_of_getElem? (i := 3) rfl) rfl rfl rfl (Nat.le_of_ble_eq_true rfl) rfl dX5_become_27 (fun H locs hG => ?_)
  refine lv_aload_n S.1 S.2.1 dX5_become_30 rfl (lv_at hl 0 rfl) ?_
  refine lv_aload_n S.1 S.2.1 dX5_become_31 rfl (lv_at hl 1 rfl) ?_
  refine g_get S C hG iX50 5 rfl rfl 3 (by decide) (List.mem_of_getElem? (i := 4) rfl) rfl dX5_become_32 ?_
  refine lv_aload_n S.1 S.2.1 dX5_become_35 rfl (lv_at hl 1 rfl) ?_
  refine g_get S C hG iX50 5 rfl rfl 4 (by decide) (List.mem_of_getElem? (i := 5) rfl) rfl dX5_become_36 ?_
  refine g_invVv (As := [.int (iI mi2), .int (iI bo2)]) (rest := []) (gs' := (fun u : Unit => [gScC K a la sa ou2 mi2 bo2, gTab K la lb ln2 (cpyI LF2 LF 60), gTab K sa sb sn2 (cpyI SF2 SF 60), gScC K a2 la2 sa2 ou2 mi2 bo2, gTab K la2 lb2 ln2 LF2, gTab K sa2 sb2 sn2 SF2])) S C hG [0] (c_X5_setBottom l K a la sa ou2 mi bo mi2 bo2 h0) rfl rfl 0 rfl rfl (cwV 2 S.2.2.2.2 gX5_become_X5_setBottom rfl rfl rfl (by decide +kernel) ⟨Nat.le_of_ble_eq_true rfl, Nat.le_of_ble_eq_true rfl⟩) rfl hl.1 rfl (Nat.le_of_ble_eq_true rfl) dX5_become_39 ⟨Nat.le_of_ble_eq_true rfl, Nat.le_of_ble_eq_true rfl⟩ (fun _ => Nat.le_of_ble_eq_true rfl) (fun _ => rfl) (fun u H locs hp hG => ?_)
  have hG : gW K A s.heap [gScn K a la lb sa sb ou2 mi2 bo2 ln2 (cpyI LF2 LF 60) sn2 (cpyI SF2 SF 60), gScn K a2 la2 lb2 sa2 sb2 ou2 mi2 bo2 ln2 LF2 sn2 SF2] _ _ := hG
  exact g_vret S hr hlk hQ dX5_become_42 (Nat.le_of_ble_eq_true rfl) (Nat.le_of_ble_eq_true rfl) (() : Unit) trivial hG
