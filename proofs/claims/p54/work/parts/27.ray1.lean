set_option maxHeartbeats 1000000 in
set_option maxRecDepth 100000 in
theorem c_J7_fill_53178 (l : Launch) (K : KC) (n : Nat) (b : Nat) (F : Int → Int) (x : Int) (h0 : n ≤ 1000) : mV l yJ7_fill_53178 wsJ7_fill_53178 0 0 K [.ref b, .int (iI x)] [gArr K n b F] (fun (u : (Int → Int)) => (∀ j : Int, 0 ≤ j → j < (n : Int) → u j = x)) (fun (u : (Int → Int)) => [gArr K n b u]) 0 0 := by
  refine mV_of cJ7_fill_53178 4 (by decide) rfl (Nat.le_of_ble_eq_true rfl) ?_
  intro p e s m below meth c A ls Q S C hG hl hr hlk hin hQ
  have S : CallFix p m c cJ7_fill_53178 4 s ([.ref b, .int (iI x)] : List Value).toArray wsJ7_fill_53178 RJ7 := S
  have hl : lv_has ls 4 [(0, .ref b), (1, .int (iI x))] := hl
  have hG : gW K A s.heap [gArr K n b F] s.heap [] := hG
  refine g_iconst S dJ7_fill_53178_0 ?_
  refine lv_istore_n (lv' := [(2, .int (iI 0)), (0, .ref b), (1, .int (iI x))]) S.1 S.2.1 dJ7_fill_53178_1 rfl hl (by decide) rfl (fun ls hl => ?_)
  refine lv_aload_n S.1 S.2.1 dJ7_fill_53178_2 rfl (lv_at hl 1 rfl) ?_
  refine g_alen (z := (n : Int)) S C hG 0 0 rfl rfl rfl dJ7_fill_53178_3 ?_
  refine lv_istore_n (lv' := [(3, .int (iI (n : Int))), (2, .int (iI 0)), (0, .ref b), (1, .int (iI x))]) S.1 S.2.1 dJ7_fill_53178_4 rfl hl (by decide) rfl (fun ls hl => ?_)
  have L5 : ∀ (fu : Nat) (w : Int) (F1 : Int → Int) (H : Heap) (locs : List Loc) (ls : Array Slot), (((n : Int) - w).toNat) < fu → (0 ≤ w ∧ w ≤ (n : Int)) → (∀ j : Int, 0 ≤ j → j < w → F1 j = x) → lv_has ls 4 [(0, .ref b), (1, .int (iI x)), (2, .int (iI w)), (3, .int (iI (n : Int)))] → gW K A s.heap [gArr K n b F1] H locs → W p l e { frames := 0, cells := 0, slots := 0, locals := 0 } s m ([.ref b, .int (iI x)] : List Value).toArray below meth c H locs 0 0 Q (F0 m 5 ls []) := by
    intro fu
    induction fu with
    | zero => intro w F1 H locs ls hfu; exact absurd hfu (Nat.not_lt_zero _)
    | succ fu ih =>
      intro w F1 H locs ls hfu hw hF1 hl hG
      refine lv_iload_n S.1 S.2.1 dJ7_fill_53178_5 rfl (lv_at hl 2 rfl) ?_
      refine lv_iload_n S.1 S.2.1 dJ7_fill_53178_6 rfl (lv_at hl 3 rfl) ?_
      refine g_icmp_ge (tgt := 20) S dJ7_fill_53178_7 (by decide) (by omega) (by omega) (fun q7 => ?_) (fun q7 => ?_)
      · skip
        have hG : gW K A s.heap [gArr K n b F1] _ _ := hG
        exact g_vret S hr hlk hQ dJ7_fill_53178_20 (Nat.le_of_ble_eq_true rfl) (Nat.le_of_ble_eq_true rfl) ((F1) : (Int → Int)) (fun j h1 h2 => hF1 j h1 (by omega)) hG
      · skip
        refine lv_aload_n S.1 S.2.1 dJ7_fill_53178_10 rfl (lv_at hl 0 rfl) ?_
        refine lv_iload_n S.1 S.2.1 dJ7_fill_53178_11 rfl (lv_at hl 2 rfl) ?_
        refine lv_iload_n S.1 S.2.1 dJ7_fill_53178_12 rfl (lv_at hl 1 rfl) ?_
        refine g_iast (gs' := [gArr K n b (upI F1 w x)]) S C hG 0 rfl (by omega) (by omega) (by omega) rfl dJ7_fill_53178_13 (fun H locs hG => ?_)
        refine lv_iinc (v := iI (w + 1)) (lv' := [(2, .int (iI (w + 1))), (0, .ref b), (1, .int (iI x)), (3, .int (iI (n : Int)))]) S.1 S.2.1 dJ7_fill_53178_14 hl (k := 2) rfl (g_iinc rfl) (by decide) rfl (fun ls hl => ?_)
        refine lv_goto (tgt := 5) S.1 S.2.1 dJ7_fill_53178_17 (by decide) ?_
        exact ih (w + 1) (upI F1 w x) _ _ _ (by omega) (by omega) (by intro j h1 h2; unfold upI; split <;> first | rfl | exact hF1 j h1 (by omega)) (lv_sub hl [1, 2, 0, 3] rfl) hG
  exact L5 (Nat.succ (((n : Int) - 0).toNat)) 0 F _ _ _ (Nat.lt_succ_self _) (by omega) (by intro j h1 h2; omega) (lv_sub hl [2, 3, 1, 0] rfl) hG
set_option maxHeartbeats 1000000 in
set_option maxRecDepth 100000 in
theorem c_X4_rootOf (l : Launch) (K : KC) (x : Int) (h0 : 0 ≤ x ∧ x < 16777216) : mG l yX4_rootOf wsX4_rootOf 0 0 K [.int (iI x)] [] (fun (v : Value) (u : Unit) => (v = .int (iI (rt x)))) (fun (u : Unit) => []) 0 0 := by
  refine mG_of cX4_rootOf 4 (by decide) rfl (Nat.le_of_ble_eq_true rfl) ?_
  intro p e s m below meth c A ls Q S C hG hl hr hlk hin hQ
  have S : CallFix p m c cX4_rootOf 4 s ([.int (iI x)] : List Value).toArray wsX4_rootOf RX4 := S
  have hl : lv_has ls 4 [(0, .int (iI x))] := hl
  have hG : gW K A s.heap [] s.heap [] := hG
  refine g_iconst S dX4_rootOf_0 ?_
  refine lv_istore_n (lv' := [(1, .int (iI 0)), (0, .int (iI x))]) S.1 S.2.1 dX4_rootOf_1 rfl hl (by decide) rfl (fun ls hl => ?_)
  refine g_sipush S dX4_rootOf_2 (by decide) ?_
  refine lv_istore_n (lv' := [(2, .int (iI 2048)), (1, .int (iI 0)), (0, .int (iI x))]) S.1 S.2.1 dX4_rootOf_5 rfl hl (by decide) rfl (fun ls hl => ?_)
  have L6 : ∀ (fu : Nat) (k : Nat) (r : Int) (w : Int) (H : Heap) (locs : List Loc) (ls : Array Slot), k < fu → (k ≤ 12) → (w = bt k) → (0 ≤ r ∧ r ≤ 4096 - 2 * w) → (rtA x k r = rt x) → lv_has ls 4 [(0, .int (iI x)), (1, .int (iI r)), (2, .int (iI w))] → gW K A s.heap [] H locs → W p l e { frames := 0, cells := 0, slots := 0, locals := 0 } s m ([.int (iI x)] : List Value).toArray below meth c H locs 0 0 Q (F0 m 6 ls []) := by
    intro fu
    induction fu with
    | zero => intro k r w H locs ls hfu; exact absurd hfu (Nat.not_lt_zero _)
    | succ fu ih =>
      intro k r w H locs ls hfu hk hw hr0 hrt hl hG
      have hb := bt_bd k hk
      refine lv_iload_n S.1 S.2.1 dX4_rootOf_6 rfl (lv_at hl 2 rfl) ?_
      refine g_if_le (tgt := 30) S dX4_rootOf_7 (by decide) (by omega) (fun q7 => ?_) (fun q7 => ?_)
      · skip
        have hk0 : k = 0 := by
              rcases k with _ | j
              · rfl
              · have := bt_pos j; omega
        refine lv_iload_n S.1 S.2.1 dX4_rootOf_30 rfl (lv_at hl 1 rfl) ?_
        have hG : gW K A s.heap [] _ _ := hG
        exact g_iret S hr hlk hQ dX4_rootOf_31 (Nat.le_of_ble_eq_true rfl) (Nat.le_of_ble_eq_true rfl) (() : Unit) (congrArg (fun z : Int => Value.int (iI z)) (by rw [← hrt, hk0]; rfl)) hG
      · skip
        obtain ⟨j, rfl⟩ : ∃ j, k = j + 1 := ⟨k - 1, by rcases k with _ | j <;> first | rfl | (rw [bt_0] at hw; omega)⟩
        have hp := bt_pos j
        have hh := bt_half j
        have hb2 := bt_bd j (by omega)
        have hs : (r + w) * (r + w) ≤ 4096 * 4096 := sq_mono (by omega) (by omega)
        have hs0 : 0 ≤ (r + w) * (r + w) := Int.mul_nonneg (by omega) (by omega)
        refine lv_iload_n S.1 S.2.1 dX4_rootOf_10 rfl (lv_at hl 1 rfl) ?_
        refine lv_iload_n S.1 S.2.1 dX4_rootOf_11 rfl (lv_at hl 2 rfl) ?_
        refine g_iadd S dX4_rootOf_12 rfl ?_
        refine lv_istore_n (lv' := [(3, .int (iI (r + w))), (0, .int (iI x)), (1, .int (iI r)), (2, .int (iI w))]) S.1 S.2.1 dX4_rootOf_13 rfl hl (by decide) rfl (fun ls hl => ?_)
        refine lv_iload_n S.1 S.2.1 dX4_rootOf_14 rfl (lv_at hl 0 rfl) ?_
        refine lv_iload_n S.1 S.2.1 dX4_rootOf_15 rfl (lv_at hl 0 rfl) ?_
        refine g_imul S dX4_rootOf_16 rfl ?_
        refine lv_iload_n S.1 S.2.1 dX4_rootOf_17 rfl (lv_at hl 1 rfl) ?_
        refine g_icmp_gt (tgt := 23) S dX4_rootOf_18 (by decide) (by omega) (by omega) (fun q18 => ?_) (fun q18 => ?_)
        · skip
          refine lv_iload_n S.1 S.2.1 dX4_rootOf_23 rfl (lv_at hl 3 rfl) ?_
          refine g_iconst S dX4_rootOf_24 ?_
          refine g_idiv S dX4_rootOf_25 (by omega) (by omega) rfl ?_
          refine lv_istore_n (lv' := [(2, .int (iI (w / 2))), (3, .int (iI (r + w))), (0, .int (iI x)), (1, .int (iI r))]) S.1 S.2.1 dX4_rootOf_26 rfl hl (by decide) rfl (fun ls hl => ?_)
          refine lv_goto (tgt := 6) S.1 S.2.1 dX4_rootOf_27 (by decide) ?_
          exact ih j r (w / 2) _ _ _ (by omega) (by omega) (by rw [hw]; exact hh) (by omega) (by first | (rw [← hrt, rtA, ← hw, if_pos (by omega)]; done) | (rw [← hrt, rtA, ← hw, if_neg (by omega)]; done)) (lv_sub hl [2, 3, 0] rfl) hG
        · skip
          refine lv_iload_n S.1 S.2.1 dX4_rootOf_21 rfl (lv_at hl 0 rfl) ?_
          refine lv_istore_n (lv' := [(1, .int (iI (r + w))), (3, .int (iI (r + w))), (0, .int (iI x)), (2, .int (iI w))]) S.1 S.2.1 dX4_rootOf_22 rfl hl (by decide) rfl (fun ls hl => ?_)
          refine lv_iload_n S.1 S.2.1 dX4_rootOf_23 rfl (lv_at hl 3 rfl) ?_
          refine g_iconst S dX4_rootOf_24 ?_
          refine g_idiv S dX4_rootOf_25 (by omega) (by omega) rfl ?_
          refine lv_istore_n (lv' := [(2, .int (iI (w / 2))), (1, .int (iI (r + w))), (3, .int (iI (r + w))), (0, .int (iI x))]) S.1 S.2.1 dX4_rootOf_26 rfl hl (by decide) rfl (fun ls hl => ?_)
          refine lv_goto (tgt := 6) S.1 S.2.1 dX4_rootOf_27 (by decide) ?_
          exact ih j (r + w) (w / 2) _ _ _ (by omega) (by omega) (by rw [hw]; exact hh) (by omega) (by first | (rw [← hrt, rtA, ← hw, if_pos (by omega)]; done) | (rw [← hrt, rtA, ← hw, if_neg (by omega)]; done)) (lv_sub hl [3, 1, 0] rfl) hG
  exact L6 (Nat.succ (12)) 12 0 2048 _ _ _ (Nat.lt_succ_self _) (by decide) (by decide) (by decide) rfl (lv_sub hl [2, 1, 0] rfl) hG
set_option maxHeartbeats 1000000 in
set_option maxRecDepth 100000 in
theorem c_X4_isUnderWay (l : Launch) (K : KC) (ra : Nat) (xa : Nat) (sha : Nat) (lea : Nat) (tma : Nat) (sc : Nat) (pp : Int) (ly : Int) (dn : Int) (lg : Int) (en : Int) (sh : Int) (le : Int) (tm : Int) (pw : Int) (tr : Int) (mr : Int) (cr : Int) (de : Int) (XF : Int → Int) (HF : Int → Int) (EF : Int → Int) (TF : Int → Int) (h0 : -1 ≤ en ∧ en ≤ 4) : mG l yX4_isUnderWay wsX4_isUnderWay 0 0 K [.ref ra] [gRay K ra xa sha lea tma sc pp ly dn lg en sh le tm pw tr mr cr de XF HF EF TF] (fun (v : Value) (u : Unit) => (v = .int (iI (bI (en = -1))))) (fun (u : Unit) => [gRay K ra xa sha lea tma sc pp ly dn lg en sh le tm pw tr mr cr de XF HF EF TF]) 0 0 := by
  refine mG_of cX4_isUnderWay 1 (by decide) rfl (Nat.le_of_ble_eq_true rfl) ?_
  intro p e s m below meth c A ls Q S C hG hl hr hlk hin hQ
  have S : CallFix p m c cX4_isUnderWay 1 s ([.ref ra] : List Value).toArray wsX4_isUnderWay RX4 := S
  have iX40 : ∀ w ∈ wsX40, w ∈ wsX4_isUnderWay := fun _ h => List.mem_cons_of_mem _ (List.mem_append_right _ (h))
  have hl : lv_has ls 1 [(0, .ref ra)] := hl
  have hG : gW K A s.heap [gRay K ra xa sha lea tma sc pp ly dn lg en sh le tm pw tr mr cr de XF HF EF TF] s.heap [] := hG
  refine lv_aload_n S.1 S.2.1 dX4_isUnderWay_0 rfl (lv_at hl 0 rfl) ?_
  refine g_get S C hG iX40 0 rfl rfl 9 (by decide) (List.mem_of_getElem? (i := 1) rfl) rfl dX4_isUnderWay_1 ?_
  refine g_iconst S dX4_isUnderWay_4 ?_
  refine g_icmp_ne (tgt := 12) S dX4_isUnderWay_5 (by decide) (by omega) (by omega) (fun q5 => ?_) (fun q5 => ?_)
  · skip
    refine g_iconst S dX4_isUnderWay_12 ?_
    have hG : gW K A s.heap [gRay K ra xa sha lea tma sc pp ly dn lg en sh le tm pw tr mr cr de XF HF EF TF] _ _ := hG
    exact g_zret S hr hlk hQ (Or.inl rfl) dX4_isUnderWay_13 (Nat.le_of_ble_eq_true rfl) (Nat.le_of_ble_eq_true rfl) (() : Unit) (congrArg (fun z : Int => Value.int (iI z)) (bI_f (by omega)).symm) hG
  · skip
    refine g_iconst S dX4_isUnderWay_8 ?_
    refine lv_goto (tgt := 13) S.1 S.2.1 dX4_isUnderWay_9 (by decide) ?_
    have hG : gW K A s.heap [gRay K ra xa sha lea tma sc pp ly dn lg en sh le tm pw tr mr cr de XF HF EF TF] _ _ := hG
    exact g_zret S hr hlk hQ (Or.inr rfl) dX4_isUnderWay_13 (Nat.le_of_ble_eq_true rfl) (Nat.le_of_ble_eq_true rfl) (() : Unit) (congrArg (fun z : Int => Value.int (iI z)) (bI_t (by omega)).symm) hG
set_option maxHeartbeats 1000000 in
set_option maxRecDepth 100000 in
theorem c_X4_shiftIn (l : Launch) (K : KC) (ra : Nat) (xa : Nat) (sha : Nat) (lea : Nat) (tma : Nat) (sc : Nat) (pp : Int) (ly : Int) (dn : Int) (lg : Int) (en : Int) (sh : Int) (le : Int) (tm : Int) (pw : Int) (tr : Int) (mr : Int) (cr : Int) (de : Int) (XF : Int → Int) (HF : Int → Int) (EF : Int → Int) (TF : Int → Int) (y : Int) (h0 : 0 ≤ y ∧ y < 10) : mG l yX4_shiftIn wsX4_shiftIn 1 21 K [.ref ra, .int (iI y)] [gRay K ra xa sha lea tma sc pp ly dn lg en sh le tm pw tr mr cr de XF HF EF TF] (fun (v : Value) (u : Unit) => (v = .int (iI (HF y)))) (fun (u : Unit) => [gRay K ra xa sha lea tma sc pp ly dn lg en sh le tm pw tr mr cr de XF HF EF TF]) 0 0 := by
  refine mG_of cX4_shiftIn 2 (by decide) rfl (Nat.le_of_ble_eq_true rfl) ?_
  intro p e s m below meth c A ls Q S C hG hl hr hlk hin hQ
  have S : CallFix p m c cX4_shiftIn 2 s ([.ref ra, .int (iI y)] : List Value).toArray wsX4_shiftIn RX4 := S
  have iX40 : ∀ w ∈ wsX40, w ∈ wsX4_shiftIn := fun _ h => List.mem_cons_of_mem _ (List.mem_append_right _ (h))
  have hl : lv_has ls 2 [(0, .ref ra), (1, .int (iI y))] := hl
  have hG : gW K A s.heap [gRay K ra xa sha lea tma sc pp ly dn lg en sh le tm pw tr mr cr de XF HF EF TF] s.heap [] := hG
  refine lv_aload_n S.1 S.2.1 dX4_shiftIn_0 rfl (lv_at hl 0 rfl) ?_
  refine g_get S C hG iX40 0 rfl rfl 1 (by decide) (List.mem_of_getElem? (i := 1) rfl) rfl dX4_shiftIn_1 ?_
  refine lv_iload_n S.1 S.2.1 dX4_shiftIn_4 rfl (lv_at hl 1 rfl) ?_
  have hG : gW K A s.heap [gRayC K ra xa sha lea tma sc pp ly dn lg en sh le tm pw tr mr cr de, gArr K 12 xa XF, gArr K 10 sha HF, gArr K 10 lea EF, gArr K 10 tma TF] _ _ := hG
  refine g_invSN (As := [.ref sha, .int (iI y)]) (rest := []) (gs' := (fun u : Unit => [gRayC K ra xa sha lea tma sc pp ly dn lg en sh le tm pw tr mr cr de, gArr K 12 xa XF, gArr K 10 sha HF, gArr K 10 lea EF, gArr K 10 tma TF])) S C hG [2] (c_X8_at l K 10 sha HF y h0 (by omega)) rfl rfl ⟨va_cnB 2 S.2.2.2.2 gX4_shiftIn_X8_at_n114 rfl rfl rfl (C.1.2.1 _ (List.mem_of_getElem? (i := 8) rfl)) (S.2.2.2.2 _ (List.mem_of_getElem? (i := 3) rfl)) (by decide +kernel) ⟨Nat.le_of_ble_eq_true rfl, Nat.le_of_ble_eq_true rfl⟩, (S.2.2.2.2 _ (List.mem_of_getElem? (i := 2) rfl)), trivial⟩ rfl hl.1 rfl (Nat.le_of_ble_eq_true rfl) dX4_shiftIn_5 ⟨Nat.le_of_ble_eq_true rfl, Nat.le_of_ble_eq_true rfl⟩ (fun _ => Nat.le_of_ble_eq_true rfl) (fun _ => rfl) (fun v u H locs hp hG => ?_)
  subst hp
  have hG : gW K A s.heap [gRay K ra xa sha lea tma sc pp ly dn lg en sh le tm pw tr mr cr de XF HF EF TF] _ _ := hG
  exact g_iret S hr hlk hQ dX4_shiftIn_8 (Nat.le_of_ble_eq_true rfl) (Nat.le_of_ble_eq_true rfl) (() : Unit) rfl hG
set_option maxHeartbeats 1000000 in
set_option maxRecDepth 100000 in
theorem c_X4_lengthIn (l : Launch) (K : KC) (ra : Nat) (xa : Nat) (sha : Nat) (lea : Nat) (tma : Nat) (sc : Nat) (pp : Int) (ly : Int) (dn : Int) (lg : Int) (en : Int) (sh : Int) (le : Int) (tm : Int) (pw : Int) (tr : Int) (mr : Int) (cr : Int) (de : Int) (XF : Int → Int) (HF : Int → Int) (EF : Int → Int) (TF : Int → Int) (y : Int) (h0 : 0 ≤ y ∧ y < 10) : mG l yX4_lengthIn wsX4_lengthIn 1 21 K [.ref ra, .int (iI y)] [gRay K ra xa sha lea tma sc pp ly dn lg en sh le tm pw tr mr cr de XF HF EF TF] (fun (v : Value) (u : Unit) => (v = .int (iI (EF y)))) (fun (u : Unit) => [gRay K ra xa sha lea tma sc pp ly dn lg en sh le tm pw tr mr cr de XF HF EF TF]) 0 0 := by
  refine mG_of cX4_lengthIn 2 (by decide) rfl (Nat.le_of_ble_eq_true rfl) ?_
  intro p e s m below meth c A ls Q S C hG hl hr hlk hin hQ
  have S : CallFix p m c cX4_lengthIn 2 s ([.ref ra, .int (iI y)] : List Value).toArray wsX4_lengthIn RX4 := S
  have iX40 : ∀ w ∈ wsX40, w ∈ wsX4_lengthIn := fun _ h => List.mem_cons_of_mem _ (List.mem_append_right _ (h))
  have hl : lv_has ls 2 [(0, .ref ra), (1, .int (iI y))] := hl
  have hG : gW K A s.heap [gRay K ra xa sha lea tma sc pp ly dn lg en sh le tm pw tr mr cr de XF HF EF TF] s.heap [] := hG
  refine lv_aload_n S.1 S.2.1 dX4_lengthIn_0 rfl (lv_at hl 0 rfl) ?_
  refine g_get S C hG iX40 0 rfl rfl 2 (by decide) (List.mem_of_getElem? (i := 1) rfl) rfl dX4_lengthIn_1 ?_
  refine lv_iload_n S.1 S.2.1 dX4_lengthIn_4 rfl (lv_at hl 1 rfl) ?_
  have hG : gW K A s.heap [gRayC K ra xa sha lea tma sc pp ly dn lg en sh le tm pw tr mr cr de, gArr K 12 xa XF, gArr K 10 sha HF, gArr K 10 lea EF, gArr K 10 tma TF] _ _ := hG
  refine g_invSN (As := [.ref lea, .int (iI y)]) (rest := []) (gs' := (fun u : Unit => [gRayC K ra xa sha lea tma sc pp ly dn lg en sh le tm pw tr mr cr de, gArr K 12 xa XF, gArr K 10 sha HF, gArr K 10 lea EF, gArr K 10 tma TF])) S C hG [3] (c_X8_at l K 10 lea EF y h0 (by omega)) rfl rfl ⟨va_cnB 2 S.2.2.2.2 gX4_lengthIn_X8_at_n114 rfl rfl rfl (C.1.2.1 _ (List.mem_of_getElem? (i := 8) rfl)) (S.2.2.2.2 _ (List.mem_of_getElem? (i := 3) rfl)) (by decide +kernel) ⟨Nat.le_of_ble_eq_true rfl, Nat.le_of_ble_eq_true rfl⟩, (S.2.2.2.2 _ (List.mem_of_getElem? (i := 2) rfl)), trivial⟩ rfl hl.1 rfl (Nat.le_of_ble_eq_true rfl) dX4_lengthIn_5 ⟨Nat.le_of_ble_eq_true rfl, Nat.le_of_ble_eq_true rfl⟩ (fun _ => Nat.le_of_ble_eq_true rfl) (fun _ => rfl) (fun v u H locs hp hG => ?_)
  subst hp
  have hG : gW K A s.heap [gRay K ra xa sha lea tma sc pp ly dn lg en sh le tm pw tr mr cr de XF HF EF TF] _ _ := hG
  exact g_iret S hr hlk hQ dX4_lengthIn_8 (Nat.le_of_ble_eq_true rfl) (Nat.le_of_ble_eq_true rfl) (() : Unit) rfl hG
set_option maxHeartbeats 1000000 in
set_option maxRecDepth 100000 in
theorem c_X4_timeIn (l : Launch) (K : KC) (ra : Nat) (xa : Nat) (sha : Nat) (lea : Nat) (tma : Nat) (sc : Nat) (pp : Int) (ly : Int) (dn : Int) (lg : Int) (en : Int) (sh : Int) (le : Int) (tm : Int) (pw : Int) (tr : Int) (mr : Int) (cr : Int) (de : Int) (XF : Int → Int) (HF : Int → Int) (EF : Int → Int) (TF : Int → Int) (y : Int) (h0 : 0 ≤ y ∧ y < 10) : mG l yX4_timeIn wsX4_timeIn 1 21 K [.ref ra, .int (iI y)] [gRay K ra xa sha lea tma sc pp ly dn lg en sh le tm pw tr mr cr de XF HF EF TF] (fun (v : Value) (u : Unit) => (v = .int (iI (TF y)))) (fun (u : Unit) => [gRay K ra xa sha lea tma sc pp ly dn lg en sh le tm pw tr mr cr de XF HF EF TF]) 0 0 := by
  refine mG_of cX4_timeIn 2 (by decide) rfl (Nat.le_of_ble_eq_true rfl) ?_
  intro p e s m below meth c A ls Q S C hG hl hr hlk hin hQ
  have S : CallFix p m c cX4_timeIn 2 s ([.ref ra, .int (iI y)] : List Value).toArray wsX4_timeIn RX4 := S
  have iX40 : ∀ w ∈ wsX40, w ∈ wsX4_timeIn := fun _ h => List.mem_cons_of_mem _ (List.mem_append_right _ (h))
  have hl : lv_has ls 2 [(0, .ref ra), (1, .int (iI y))] := hl
  have hG : gW K A s.heap [gRay K ra xa sha lea tma sc pp ly dn lg en sh le tm pw tr mr cr de XF HF EF TF] s.heap [] := hG
  refine lv_aload_n S.1 S.2.1 dX4_timeIn_0 rfl (lv_at hl 0 rfl) ?_
  refine g_get S C hG iX40 0 rfl rfl 3 (by decide) (List.mem_of_getElem? (i := 1) rfl) rfl dX4_timeIn_1 ?_
  refine lv_iload_n S.1 S.2.1 dX4_timeIn_4 rfl (lv_at hl 1 rfl) ?_
  have hG : gW K A s.heap [gRayC K ra xa sha lea tma sc pp ly dn lg en sh le tm pw tr mr cr de, gArr K 12 xa XF, gArr K 10 sha HF, gArr K 10 lea EF, gArr K 10 tma TF] _ _ := hG
  refine g_invSN (As := [.ref tma, .int (iI y)]) (rest := []) (gs' := (fun u : Unit => [gRayC K ra xa sha lea tma sc pp ly dn lg en sh le tm pw tr mr cr de, gArr K 12 xa XF, gArr K 10 sha HF, gArr K 10 lea EF, gArr K 10 tma TF])) S C hG [4] (c_X8_at l K 10 tma TF y h0 (by omega)) rfl rfl ⟨va_cnB 2 S.2.2.2.2 gX4_timeIn_X8_at_n114 rfl rfl rfl (C.1.2.1 _ (List.mem_of_getElem? (i := 8) rfl)) (S.2.2.2.2 _ (List.mem_of_getElem? (i := 3) rfl)) (by decide +kernel) ⟨Nat.le_of_ble_eq_true rfl, Nat.le_of_ble_eq_true rfl⟩, (S.2.2.2.2 _ (List.mem_of_getElem? (i := 2) rfl)), trivial⟩ rfl hl.1 rfl (Nat.le_of_ble_eq_true rfl) dX4_timeIn_5 ⟨Nat.le_of_ble_eq_true rfl, Nat.le_of_ble_eq_true rfl⟩ (fun _ => Nat.le_of_ble_eq_true rfl) (fun _ => rfl) (fun v u H locs hp hG => ?_)
  subst hp
  have hG : gW K A s.heap [gRay K ra xa sha lea tma sc pp ly dn lg en sh le tm pw tr mr cr de XF HF EF TF] _ _ := hG
  exact g_iret S hr hlk hQ dX4_timeIn_8 (Nat.le_of_ble_eq_true rfl) (Nat.le_of_ble_eq_true rfl) (() : Unit) rfl hG
set_option maxHeartbeats 1000000 in
set_option maxRecDepth 100000 in
theorem c_X4_endWith (l : Launch) (K : KC) (ra : Nat) (xa : Nat) (sha : Nat) (lea : Nat) (tma : Nat) (sc : Nat) (pp : Int) (ly : Int) (dn : Int) (lg : Int) (en : Int) (sh : Int) (le : Int) (tm : Int) (pw : Int) (tr : Int) (mr : Int) (cr : Int) (de : Int) (XF : Int → Int) (HF : Int → Int) (EF : Int → Int) (TF : Int → Int) (x : Int) (y : Int) : mG l yX4_endWith wsX4_endWith 0 0 K [.ref ra, .int (iI x), .int (iI y)] [gRay K ra xa sha lea tma sc pp ly dn lg en sh le tm pw tr mr cr de XF HF EF TF] (fun (v : Value) (u : Unit) => (v = .int (iI y))) (fun (u : Unit) => [gRay K ra xa sha lea tma sc pp ly dn lg x sh le tm pw tr mr cr de XF HF EF TF]) 0 0 := by
  refine mG_of cX4_endWith 3 (by decide) rfl (Nat.le_of_ble_eq_true rfl) ?_
  intro p e s m below meth c A ls Q S C hG hl hr hlk hin hQ
  have S : CallFix p m c cX4_endWith 3 s ([.ref ra, .int (iI x), .int (iI y)] : List Value).toArray wsX4_endWith RX4 := S
  have iX40 : ∀ w ∈ wsX40, w ∈ wsX4_endWith := fun _ h => List.mem_cons_of_mem _ (List.mem_append_right _ (h))
  have hl : lv_has ls 3 [(0, .ref ra), (1, .int (iI x)), (2, .int (iI y))] := hl
  have hG : gW K A s.heap [gRay K ra xa sha lea tma sc pp ly dn lg en sh le tm pw tr mr cr de XF HF EF TF] s.heap [] := hG
  refine lv_aload_n S.1 S.2.1 dX4_endWith_0 rfl (lv_at hl 0 rfl) ?_
  refine lv_iload_n S.1 S.2.1 dX4_endWith_1 rfl (lv_at hl 1 rfl) ?_
  refine g_put (gs' := [gRay K ra xa sha lea tma sc pp ly dn lg x sh le tm pw tr mr cr de XF HF EF TF]) S C hG iX40 tyX4 tyX4_ok nmX4 0 rfl rfl 9 (by decide) (List.mem_of_getElem? (i := 1) rfl) rfl rfl rfl (Nat.le_of_ble_eq_true rfl) rfl dX4_endWith_2 (fun H locs hG => ?_)
  refine lv_iload_n S.1 S.2.1 dX4_endWith_5 rfl (lv_at hl 2 rfl) ?_
  have hG : gW K A s.heap [gRay K ra xa sha lea tma sc pp ly dn lg x sh le tm pw tr mr cr de XF HF EF TF] _ _ := hG
  exact g_iret S hr hlk hQ dX4_endWith_6 (Nat.le_of_ble_eq_true rfl) (Nat.le_of_ble_eq_true rfl) (() : Unit) rfl hG
set_option maxHeartbeats 1000000 in
set_option maxRecDepth 100000 in
theorem c_X4_enter (l : Launch) (K : KC) (ra : Nat) (xa : Nat) (sha : Nat) (lea : Nat) (tma : Nat) (sc : Nat) (pp : Int) (ly : Int) (dn : Int) (lg : Int) (en : Int) (sh : Int) (le : Int) (tm : Int) (pw : Int) (tr : Int) (mr : Int) (cr : Int) (de : Int) (XF : Int → Int) (HF : Int → Int) (EF : Int → Int) (TF : Int → Int) (s2 : Nat) (la : Nat) (lb : Nat) (sa : Nat) (sb : Nat) (ou : Int) (mi : Int) (bo : Int) (ln : Int) (LF : Int → Int) (sn : Int) (SF : Int → Int) (N : Int → Int) (hS : ScOk N ou mi bo ln LF sn SF) (hN : NOk0 N) : mV l yX4_enter wsX4_enter 2 44 K [.ref ra, .ref s2] [gRay K ra xa sha lea tma sc pp ly dn lg en sh le tm pw tr mr cr de XF HF EF TF, gScn K s2 la lb sa sb ou mi bo ln LF sn SF] (fun (u : (Int → Int)) => (EntOk N u)) (fun (u : (Int → Int)) => [gRay K ra xa sha lea tma s2 pp ly dn lg en sh le tm pw tr mr cr de u HF EF TF, gScn K s2 la lb sa sb ou mi bo ln LF sn SF]) 0 0 := by
  refine mV_of cX4_enter 3 (by decide) rfl (Nat.le_of_ble_eq_true rfl) ?_
  intro p e s m below meth c A ls Q S C hG hl hr hlk hin hQ
  have S : CallFix p m c cX4_enter 3 s ([.ref ra, .ref s2] : List Value).toArray wsX4_enter RX4 := S
  have iX40 : ∀ w ∈ wsX40, w ∈ wsX4_enter := fun _ h => List.mem_cons_of_mem _ (List.mem_append_left _ (List.mem_append_left _ (List.mem_append_right _ (h))))
  have iX50 : ∀ w ∈ wsX50, w ∈ wsX4_enter := fun _ h => List.mem_cons_of_mem _ (List.mem_append_left _ (List.mem_append_right _ (h)))
  have iX70 : ∀ w ∈ wsX70, w ∈ wsX4_enter := fun _ h => List.mem_cons_of_mem _ (List.mem_append_right _ (h))
  have hl : lv_has ls 3 [(0, .ref ra), (1, .ref s2)] := hl
  have hG : gW K A s.heap [gRay K ra xa sha lea tma sc pp ly dn lg en sh le tm pw tr mr cr de XF HF EF TF, gScn K s2 la lb sa sb ou mi bo ln LF sn SF] s.heap [] := hG
  obtain ⟨e0, e1, e2, e3, e4, e5, e6⟩ := id hS
  have n0 := hN.1
  refine lv_aload_n S.1 S.2.1 dX4_enter_0 rfl (lv_at hl 0 rfl) ?_
  refine lv_aload_n S.1 S.2.1 dX4_enter_1 rfl (lv_at hl 1 rfl) ?_
  refine g_put (gs' := [gRay K ra xa sha lea tma s2 pp ly dn lg en sh le tm pw tr mr cr de XF HF EF TF, gScn K s2 la lb sa sb ou mi bo ln LF sn SF]) S C hG iX40 tyX4 tyX4_ok nmX4 0 rfl rfl 4 (by decide) (List.mem_of_getElem? (i := 1) rfl) rfl rfl rfl (Nat.le_of_ble_eq_true rfl) rfl dX4_enter_2 (fun H locs hG => ?_)
  refine g_iconst S dX4_enter_5 ?_
  refine lv_istore_n (lv' := [(2, .int (iI (-1))), (0, .ref ra), (1, .ref s2)]) S.1 S.2.1 dX4_enter_6 rfl hl (by decide) rfl (fun ls hl => ?_)
  have L7 : ∀ (fu : Nat) (w : Int) (X1 : Int → Int) (H : Heap) (locs : List Loc) (ls : Array Slot), ((ln + 1 - w).toNat) < fu → (-1 ≤ w ∧ w ≤ ln + 1) → (∀ z : Int, -1 ≤ z → z < w → X1 (z + 1) = ixN N z) → lv_has ls 3 [(0, .ref ra), (1, .ref s2), (2, .int (iI w))] → gW K A s.heap [gRay K ra xa sha lea tma s2 pp ly dn lg en sh le tm pw tr mr cr de X1 HF EF TF, gScn K s2 la lb sa sb ou mi bo ln LF sn SF] H locs → W p l e { frames := 2, cells := 0, slots := 0, locals := 44 } s m ([.ref ra, .ref s2] : List Value).toArray below meth c H locs 0 0 Q (F0 m 7 ls []) := by
    intro fu
    induction fu with
    | zero => intro w X1 H locs ls hfu; exact absurd hfu (Nat.not_lt_zero _)
    | succ fu ih =>
      intro w X1 H locs ls hfu hw hX hl hG
      refine lv_iload_n S.1 S.2.1 dX4_enter_7 rfl (lv_at hl 2 rfl) ?_
      refine lv_aload_n S.1 S.2.1 dX4_enter_8 rfl (lv_at hl 0 rfl) ?_
      refine g_get S C hG iX40 0 rfl rfl 4 (by decide) (List.mem_of_getElem? (i := 1) rfl) rfl dX4_enter_9 ?_
      refine g_get S C hG iX50 5 rfl rfl 0 (by decide) (List.mem_of_getElem? (i := 2) rfl) rfl dX4_enter_12 ?_
      refine g_get S C hG iX70 6 rfl rfl 1 (by decide) (List.mem_of_getElem? (i := 3) rfl) rfl dX4_enter_15 ?_
      refine g_icmp_gt (tgt := 45) S dX4_enter_18 (by decide) (by omega) (by omega) (fun q18 => ?_) (fun q18 => ?_)
      · skip
        have hG : gW K A s.heap [gRay K ra xa sha lea tma s2 pp ly dn lg en sh le tm pw tr mr cr de X1 HF EF TF, gScn K s2 la lb sa sb ou mi bo ln LF sn SF] _ _ := hG
        exact g_vret S hr hlk hQ dX4_enter_45 (Nat.le_of_ble_eq_true rfl) (Nat.le_of_ble_eq_true rfl) ((X1) : (Int → Int)) (fun z h1 h2 => hX z h1 (by omega)) hG
      · skip
        refine lv_aload_n S.1 S.2.1 dX4_enter_21 rfl (lv_at hl 0 rfl) ?_
        refine g_get S C hG iX40 0 rfl rfl 0 (by decide) (List.mem_of_getElem? (i := 4) rfl) rfl dX4_enter_22 ?_
        refine lv_iload_n S.1 S.2.1 dX4_enter_25 rfl (lv_at hl 2 rfl) ?_
        refine g_iconst S dX4_enter_26 ?_
        refine g_iadd S dX4_enter_27 rfl ?_
        refine lv_aload_n S.1 S.2.1 dX4_enter_28 rfl (lv_at hl 0 rfl) ?_
        refine g_get S C hG iX40 0 rfl rfl 4 (by decide) (List.mem_of_getElem? (i := 1) rfl) rfl dX4_enter_29 ?_
        refine lv_iload_n S.1 S.2.1 dX4_enter_32 rfl (lv_at hl 2 rfl) ?_
        refine g_invV (As := [.int (iI w)]) (rest := [.int (iI (w + 1)), .ref xa]) (gs' := (fun u : Unit => [gRay K ra xa sha lea tma s2 pp ly dn lg en sh le tm pw tr mr cr de X1 HF EF TF, gScn K s2 la lb sa sb ou mi bo ln LF sn SF])) S C hG [1] (c_X5_indexAt l K s2 la lb sa sb ou mi bo ln LF sn SF N w hS hN (by omega)) rfl rfl 0 rfl rfl (cwV 1 S.2.2.2.2 gX4_enter_X5_indexAt rfl rfl rfl (by decide +kernel) ⟨Nat.le_of_ble_eq_true rfl, Nat.le_of_ble_eq_true rfl⟩) rfl hl.1 rfl (Nat.le_of_ble_eq_true rfl) dX4_enter_33 ⟨Nat.le_of_ble_eq_true rfl, Nat.le_of_ble_eq_true rfl⟩ (fun _ => Nat.le_of_ble_eq_true rfl) (fun _ => rfl) (fun v u H locs hp hG => ?_)
        subst hp
        have hG : gW K A s.heap [gRayC K ra xa sha lea tma s2 pp ly dn lg en sh le tm pw tr mr cr de, gArr K 12 xa X1, gArr K 10 sha HF, gArr K 10 lea EF, gArr K 10 tma TF, gScn K s2 la lb sa sb ou mi bo ln LF sn SF] _ _ := hG
        refine g_invSNv (As := [.ref xa, .int (iI (w + 1)), .int (iI (ixN N w))]) (rest := []) (gs' := (fun u : Unit => [gRayC K ra xa sha lea tma s2 pp ly dn lg en sh le tm pw tr mr cr de, gArr K 12 xa (upI X1 (w + 1) (ixN N w)), gArr K 10 sha HF, gArr K 10 lea EF, gArr K 10 tma TF, gScn K s2 la lb sa sb ou mi bo ln LF sn SF])) S C hG [1] (c_X8_put l K 12 xa X1 (w + 1) (ixN N w) (by omega) (by omega)) rfl rfl ⟨va_cnB 3 S.2.2.2.2 gX4_enter_X8_put_n44 rfl rfl rfl (C.1.2.1 _ (List.mem_of_getElem? (i := 7) rfl)) (S.2.2.2.2 _ (List.mem_of_getElem? (i := 22) rfl)) (by decide +kernel) ⟨Nat.le_of_ble_eq_true rfl, Nat.le_of_ble_eq_true rfl⟩, (S.2.2.2.2 _ (List.mem_of_getElem? (i := 21) rfl)), trivial⟩ rfl hl.1 rfl (Nat.le_of_ble_eq_true rfl) dX4_enter_36 ⟨Nat.le_of_ble_eq_true rfl, Nat.le_of_ble_eq_true rfl⟩ (fun _ => Nat.le_of_ble_eq_true rfl) (fun _ => rfl) (fun u H locs hp hG => ?_)
        refine lv_iinc (v := iI (w + 1)) (lv' := [(2, .int (iI (w + 1))), (0, .ref ra), (1, .ref s2)]) S.1 S.2.1 dX4_enter_39 hl (k := 2) rfl (g_iinc rfl) (by decide) rfl (fun ls hl => ?_)
        refine lv_goto (tgt := 7) S.1 S.2.1 dX4_enter_42 (by decide) ?_
        have hG : gW K A s.heap [gRay K ra xa sha lea tma s2 pp ly dn lg en sh le tm pw tr mr cr de (upI X1 (w + 1) (ixN N w)) HF EF TF, gScn K s2 la lb sa sb ou mi bo ln LF sn SF] _ _ := hG
        exact ih (w + 1) (upI X1 (w + 1) (ixN N w)) _ _ _ (by omega) (by omega) (by intro z h1 h2; unfold upI; split <;> first | (rw [show z = w by omega]; done) | exact hX z h1 (by omega)) (lv_sub hl [1, 2, 0] rfl) hG
  exact L7 (Nat.succ ((ln + 1 - (-1)).toNat)) (-1) XF _ _ _ (Nat.lt_succ_self _) (by omega) (by intro z h1 h2; omega) (lv_sub hl [1, 2, 0] rfl) hG
set_option maxHeartbeats 1000000 in
set_option maxRecDepth 100000 in
theorem c_X4_begin (l : Launch) (K : KC) (ra : Nat) (xa : Nat) (sha : Nat) (lea : Nat) (tma : Nat) (sc : Nat) (pp : Int) (ly : Int) (dn : Int) (lg : Int) (en : Int) (sh : Int) (le : Int) (tm : Int) (pw : Int) (tr : Int) (mr : Int) (cr : Int) (de : Int) (XF : Int → Int) (HF : Int → Int) (EF : Int → Int) (TF : Int → Int) (la : Nat) (lb : Nat) (sa : Nat) (sb : Nat) (ou : Int) (mi : Int) (bo : Int) (ln : Int) (LF : Int → Int) (sn : Int) (SF : Int → Int) (N : Int → Int) (y0 : Int) (e0 : Int) (x : Int) (hS : ScOk N ou mi bo ln LF sn SF) (hN : NOk0 N) (h0 : -2147483648 ≤ y0 ∧ y0 < 2147483648) (h1 : 0 ≤ x ∧ x ≤ 3999) (h2 : e0 = 0 ∨ e0 = 1) : mV l yX4_begin wsX4_begin 2 45 K [.ref ra, .int (iI y0), .int (iI e0), .int (iI x)] [gRay K ra xa sha lea tma sc pp ly dn lg en sh le tm pw tr mr cr de XF HF EF TF, gScn K sc la lb sa sb ou mi bo ln LF sn SF] (fun (u : Int × Int × (Int → Int)) => (begN N y0 x ∧ u.1 = -1 ∧ u.2.1 = 1000000 ∨ ¬ begN N y0 x ∧ u.1 = 4 ∧ u.2.1 = 0) ∧ (∀ y : Int, 0 ≤ y → y < 10 → u.2.2 y = 0)) (fun (u : Int × Int × (Int → Int)) => [gRay K ra xa sha lea tma sc x y0 e0 0 u.1 0 0 0 u.2.1 0 0 0 (-1) XF HF EF u.2.2, gScn K sc la lb sa sb ou mi bo ln LF sn SF]) 0 0 := by
  refine mV_of cX4_begin 5 (by decide) rfl (Nat.le_of_ble_eq_true rfl) ?_
  intro p e s m below meth c A ls Q S C hG hl hr hlk hin hQ
  have S : CallFix p m c cX4_begin 5 s ([.ref ra, .int (iI y0), .int (iI e0), .int (iI x)] : List Value).toArray wsX4_begin RX4 := S
  have iX40 : ∀ w ∈ wsX40, w ∈ wsX4_begin := fun _ h => List.mem_cons_of_mem _ (List.mem_append_left _ (List.mem_append_left _ (List.mem_append_right _ (h))))
  have iX50 : ∀ w ∈ wsX50, w ∈ wsX4_begin := fun _ h => List.mem_cons_of_mem _ (List.mem_append_left _ (List.mem_append_right _ (h)))
  have iX70 : ∀ w ∈ wsX70, w ∈ wsX4_begin := fun _ h => List.mem_cons_of_mem _ (List.mem_append_right _ (h))
  have hl : lv_has ls 5 [(0, .ref ra), (1, .int (iI y0)), (2, .int (iI e0)), (3, .int (iI x))] := hl
  have hG : gW K A s.heap [gRay K ra xa sha lea tma sc pp ly dn lg en sh le tm pw tr mr cr de XF HF EF TF, gScn K sc la lb sa sb ou mi bo ln LF sn SF] s.heap [] := hG
  refine lv_aload_n S.1 S.2.1 dX4_begin_0 rfl (lv_at hl 0 rfl) ?_
  refine lv_iload_n S.1 S.2.1 dX4_begin_1 rfl (lv_at hl 1 rfl) ?_
  refine g_put (gs' := [gRay K ra xa sha lea tma sc pp y0 dn lg en sh le tm pw tr mr cr de XF HF EF TF, gScn K sc la lb sa sb ou mi bo ln LF sn SF]) S C hG iX40 tyX4 tyX4_ok nmX4 0 rfl rfl 6 (by decide) (List.mem_of_getElem? (i := 1) rfl) rfl rfl rfl (Nat.le_of_ble_eq_true rfl) rfl dX4_begin_2 (fun H locs hG => ?_)
  refine lv_aload_n S.1 S.2.1 dX4_begin_5 rfl (lv_at hl 0 rfl) ?_
  refine lv_iload_n S.1 S.2.1 dX4_begin_6 rfl (lv_at hl 2 rfl) ?_
  refine g_put (gs' := [gRay K ra xa sha lea tma sc pp y0 e0 lg en sh le tm pw tr mr cr de XF HF EF TF, gScn K sc la lb sa sb ou mi bo ln LF sn SF]) S C hG iX40 tyX4 tyX4_ok nmX4 0 rfl rfl 7 (by decide) (List.mem_of_getElem? (i := 2) rfl) rfl (nz_b h2) (fz_b h2) (Nat.le_of_ble_eq_true rfl) rfl dX4_begin_7 (fun H locs hG => ?_)
  refine lv_aload_n S.1 S.2.1 dX4_begin_10 rfl (lv_at hl 0 rfl) ?_
  refine lv_iload_n S.1 S.2.1 dX4_begin_11 rfl (lv_at hl 3 rfl) ?_
  refine g_put (gs' := [gRay K ra xa sha lea tma sc x y0 e0 lg en sh le tm pw tr mr cr de XF HF EF TF, gScn K sc la lb sa sb ou mi bo ln LF sn SF]) S C hG iX40 tyX4 tyX4_ok nmX4 0 rfl rfl 5 (by decide) (List.mem_of_getElem? (i := 3) rfl) rfl rfl rfl (Nat.le_of_ble_eq_true rfl) rfl dX4_begin_12 (fun H locs hG => ?_)
  refine lv_aload_n S.1 S.2.1 dX4_begin_15 rfl (lv_at hl 0 rfl) ?_
  refine g_iconst S dX4_begin_16 ?_
  refine g_put (gs' := [gRay K ra xa sha lea tma sc x y0 e0 0 en sh le tm pw tr mr cr de XF HF EF TF, gScn K sc la lb sa sb ou mi bo ln LF sn SF]) S C hG iX40 tyX4 tyX4_ok nmX4 0 rfl rfl 8 (by decide) (List.mem_of_getElem? (i := 4) rfl) rfl rfl rfl (Nat.le_of_ble_eq_true rfl) rfl dX4_begin_17 (fun H locs hG => ?_)
  refine lv_aload_n S.1 S.2.1 dX4_begin_20 rfl (lv_at hl 0 rfl) ?_
  refine g_iconst S dX4_begin_21 ?_
  refine g_put (gs' := [gRay K ra xa sha lea tma sc x y0 e0 0 en 0 le tm pw tr mr cr de XF HF EF TF, gScn K sc la lb sa sb ou mi bo ln LF sn SF]) S C hG iX40 tyX4 tyX4_ok nmX4 0 rfl rfl 10 (by decide) (List.mem_of_getElem? (i := 5) rfl) rfl rfl rfl (Nat.le_of_ble_eq_true rfl) rfl dX4_begin_22 (fun H locs hG => ?_)
  refine lv_aload_n S.1 S.2.1 dX4_begin_25 rfl (lv_at hl 0 rfl) ?_
  refine g_iconst S dX4_begin_26 ?_
  refine g_put (gs' := [gRay K ra xa sha lea tma sc x y0 e0 0 en 0 0 tm pw tr mr cr de XF HF EF TF, gScn K sc la lb sa sb ou mi bo ln LF sn SF]) S C hG iX40 tyX4 tyX4_ok nmX4 0 rfl rfl 11 (by decide) (List.mem_of_getElem? (i := 6) rfl) rfl rfl rfl (Nat.le_of_ble_eq_true rfl) rfl dX4_begin_27 (fun H locs hG => ?_)
  refine lv_aload_n S.1 S.2.1 dX4_begin_30 rfl (lv_at hl 0 rfl) ?_
  refine g_iconst S dX4_begin_31 ?_
  refine g_put (gs' := [gRay K ra xa sha lea tma sc x y0 e0 0 en 0 0 0 pw tr mr cr de XF HF EF TF, gScn K sc la lb sa sb ou mi bo ln LF sn SF]) S C hG iX40 tyX4 tyX4_ok nmX4 0 rfl rfl 12 (by decide) (List.mem_of_getElem? (i := 7) rfl) rfl rfl rfl (Nat.le_of_ble_eq_true rfl) rfl dX4_begin_32 (fun H locs hG => ?_)
  refine lv_aload_n S.1 S.2.1 dX4_begin_35 rfl (lv_at hl 0 rfl) ?_
  refine g_iconst S dX4_begin_36 ?_
  refine g_put (gs' := [gRay K ra xa sha lea tma sc x y0 e0 0 en 0 0 0 pw 0 mr cr de XF HF EF TF, gScn K sc la lb sa sb ou mi bo ln LF sn SF]) S C hG iX40 tyX4 tyX4_ok nmX4 0 rfl rfl 14 (by decide) (List.mem_of_getElem? (i := 8) rfl) rfl rfl rfl (Nat.le_of_ble_eq_true rfl) rfl dX4_begin_37 (fun H locs hG => ?_)
  refine lv_aload_n S.1 S.2.1 dX4_begin_40 rfl (lv_at hl 0 rfl) ?_
  refine g_iconst S dX4_begin_41 ?_
  refine g_put (gs' := [gRay K ra xa sha lea tma sc x y0 e0 0 en 0 0 0 pw 0 0 cr de XF HF EF TF, gScn K sc la lb sa sb ou mi bo ln LF sn SF]) S C hG iX40 tyX4 tyX4_ok nmX4 0 rfl rfl 15 (by decide) (List.mem_of_getElem? (i := 9) rfl) rfl rfl rfl (Nat.le_of_ble_eq_true rfl) rfl dX4_begin_42 (fun H locs hG => ?_)
  refine lv_aload_n S.1 S.2.1 dX4_begin_45 rfl (lv_at hl 0 rfl) ?_
  refine g_iconst S dX4_begin_46 ?_
  refine g_put (gs' := [gRay K ra xa sha lea tma sc x y0 e0 0 en 0 0 0 pw 0 0 0 de XF HF EF TF, gScn K sc la lb sa sb ou mi bo ln LF sn SF]) S C hG iX40 tyX4 tyX4_ok nmX4 0 rfl rfl 16 (by decide) (List.mem_of_getElem? (i := 10) rfl) rfl rfl rfl (Nat.le_of_ble_eq_true rfl) rfl dX4_begin_47 (fun H locs hG => ?_)
  refine lv_aload_n S.1 S.2.1 dX4_begin_50 rfl (lv_at hl 0 rfl) ?_
  refine g_iconst S dX4_begin_51 ?_
  refine g_put (gs' := [gRay K ra xa sha lea tma sc x y0 e0 0 en 0 0 0 pw 0 0 0 (-1) XF HF EF TF, gScn K sc la lb sa sb ou mi bo ln LF sn SF]) S C hG iX40 tyX4 tyX4_ok nmX4 0 rfl rfl 17 (by decide) (List.mem_of_getElem? (i := 11) rfl) rfl rfl rfl (Nat.le_of_ble_eq_true rfl) rfl dX4_begin_52 (fun H locs hG => ?_)
  refine lv_aload_n S.1 S.2.1 dX4_begin_55 rfl (lv_at hl 0 rfl) ?_
  refine g_get S C hG iX40 0 rfl rfl 4 (by decide) (List.mem_of_getElem? (i := 12) rfl) rfl dX4_begin_56 ?_
  refine lv_aload_n S.1 S.2.1 dX4_begin_59 rfl (lv_at hl 0 rfl) ?_
  refine g_get S C hG iX40 0 rfl rfl 6 (by decide) (List.mem_of_getElem? (i := 1) rfl) rfl dX4_begin_60 ?_
  refine lv_aload_n S.1 S.2.1 dX4_begin_63 rfl (lv_at hl 0 rfl) ?_
  refine g_get S C hG iX40 0 rfl rfl 5 (by decide) (List.mem_of_getElem? (i := 3) rfl) rfl dX4_begin_64 ?_
  refine g_invV (As := [.int (iI y0), .int (iI x)]) (rest := []) (gs' := (fun u : Unit => [gRay K ra xa sha lea tma sc x y0 e0 0 en 0 0 0 pw 0 0 0 (-1) XF HF EF TF, gScn K sc la lb sa sb ou mi bo ln LF sn SF])) S C hG [1] (c_X5_canBegin l K sc la lb sa sb ou mi bo ln LF sn SF N y0 x hS hN h0 (by omega)) rfl rfl 0 rfl rfl (cwV 2 S.2.2.2.2 gX4_begin_X5_canBegin rfl rfl rfl (by decide +kernel) ⟨Nat.le_of_ble_eq_true rfl, Nat.le_of_ble_eq_true rfl⟩) rfl hl.1 rfl (Nat.le_of_ble_eq_true rfl) dX4_begin_67 ⟨Nat.le_of_ble_eq_true rfl, Nat.le_of_ble_eq_true rfl⟩ (fun _ => Nat.le_of_ble_eq_true rfl) (fun _ => rfl) (fun v u H locs hp hG => ?_)
  subst hp
  refine lv_istore (lv' := [(4, .int (iI (bI (begN N y0 x)))), (0, .ref ra), (1, .int (iI y0)), (2, .int (iI e0)), (3, .int (iI x))]) S.1 S.2.1 dX4_begin_70 hl (by decide) rfl (fun ls hl => ?_)
  refine lv_aload_n S.1 S.2.1 dX4_begin_72 rfl (lv_at hl 1 rfl) ?_
  refine lv_iload S.1 S.2.1 dX4_begin_73 (lv_at hl 0 rfl) ?_
  refine g_ifeq_b (B := (begN N y0 x)) (tgt := 82) S dX4_begin_75 (by decide) (fun q75 => ?_) (fun q75 => ?_)
  · skip
    refine g_iconst S dX4_begin_82 ?_
    refine g_put (gs' := [gRay K ra xa sha lea tma sc x y0 e0 0 4 0 0 0 pw 0 0 0 (-1) XF HF EF TF, gScn K sc la lb sa sb ou mi bo ln LF sn SF]) S C hG iX40 tyX4 tyX4_ok nmX4 0 rfl rfl 9 (by decide) (List.mem_of_getElem? (i := 13) rfl) rfl rfl rfl (Nat.le_of_ble_eq_true rfl) rfl dX4_begin_83 (fun H locs hG => ?_)
    refine lv_aload_n S.1 S.2.1 dX4_begin_86 rfl (lv_at hl 1 rfl) ?_
    refine lv_iload S.1 S.2.1 dX4_begin_87 (lv_at hl 0 rfl) ?_
    refine g_ifeq_b (B := (begN N y0 x)) (tgt := 97) S dX4_begin_89 (by decide) (fun q89 => ?_) (fun q89 => ?_)
    · skip
      refine g_iconst S dX4_begin_97 ?_
      refine g_put (gs' := [gRay K ra xa sha lea tma sc x y0 e0 0 4 0 0 0 0 0 0 0 (-1) XF HF EF TF, gScn K sc la lb sa sb ou mi bo ln LF sn SF]) S C hG iX40 tyX4 tyX4_ok nmX4 0 rfl rfl 13 (by decide) (List.mem_of_getElem? (i := 15) rfl) rfl rfl rfl (Nat.le_of_ble_eq_true rfl) rfl dX4_begin_98 (fun H locs hG => ?_)
      refine lv_aload_n S.1 S.2.1 dX4_begin_101 rfl (lv_at hl 1 rfl) ?_
      refine g_get S C hG iX40 0 rfl rfl 3 (by decide) (List.mem_of_getElem? (i := 16) rfl) rfl dX4_begin_102 ?_
      refine g_iconst S dX4_begin_105 ?_
      have hG : gW K A s.heap [gRayC K ra xa sha lea tma sc x y0 e0 0 4 0 0 0 0 0 0 0 (-1), gArr K 12 xa XF, gArr K 10 sha HF, gArr K 10 lea EF, gArr K 10 tma TF, gScn K sc la lb sa sb ou mi bo ln LF sn SF] _ _ := hG
      refine g_invSv (As := [.ref tma, .int (iI 0)]) (rest := []) (gs' := (fun u : (Int → Int) => [gRayC K ra xa sha lea tma sc x y0 e0 0 4 0 0 0 0 0 0 0 (-1), gArr K 12 xa XF, gArr K 10 sha HF, gArr K 10 lea EF, gArr K 10 tma u, gScn K sc la lb sa sb ou mi bo ln LF sn SF])) S C hG [4] (c_J7_fill_53178 l K 10 tma TF 0 (by omega)) rfl rfl (va_cwS 2 S.2.2.2.2 gX4_begin_J7_fill_53178 rfl rfl rfl (by decide +kernel) ⟨Nat.le_of_ble_eq_true rfl, Nat.le_of_ble_eq_true rfl⟩) rfl hl.1 rfl (Nat.le_of_ble_eq_true rfl) dX4_begin_106 ⟨Nat.le_of_ble_eq_true rfl, Nat.le_of_ble_eq_true rfl⟩ (fun _ => Nat.le_of_ble_eq_true rfl) (fun _ => rfl) (fun u H locs hp hG => ?_)
      obtain ⟨F2_106, rfl⟩ : ∃ z, z = u := ⟨_, rfl⟩
      have hF_106 := hp
      have hF_106 : ∀ j : Int, 0 ≤ j → j < (10 : Int) → F2_106 j = 0 := hF_106
      have hG : gW K A s.heap [gRayC K ra xa sha lea tma sc x y0 e0 0 4 0 0 0 0 0 0 0 (-1), gArr K 12 xa XF, gArr K 10 sha HF, gArr K 10 lea EF, gArr K 10 tma F2_106, gScn K sc la lb sa sb ou mi bo ln LF sn SF] _ _ := hG
      have hG : gW K A s.heap [gRay K ra xa sha lea tma sc x y0 e0 0 4 0 0 0 0 0 0 0 (-1) XF HF EF F2_106, gScn K sc la lb sa sb ou mi bo ln LF sn SF] _ _ := hG
      exact g_vret S hr hlk hQ dX4_begin_109 (Nat.le_of_ble_eq_true rfl) (Nat.le_of_ble_eq_true rfl) ((4, 0, F2_106) : Int × Int × (Int → Int)) ⟨(by first | exact Or.inl ⟨q75, rfl, rfl⟩ | exact Or.inr ⟨q75, rfl, rfl⟩), (fun y h1 h2 => hF_106 y h1 (by omega))⟩ hG
    · skip
      exact absurd q89 q75
  · skip
    refine g_iconst S dX4_begin_78 ?_
    refine lv_goto (tgt := 83) S.1 S.2.1 dX4_begin_79 (by decide) ?_
    refine g_put (gs' := [gRay K ra xa sha lea tma sc x y0 e0 0 (-1) 0 0 0 pw 0 0 0 (-1) XF HF EF TF, gScn K sc la lb sa sb ou mi bo ln LF sn SF]) S C hG iX40 tyX4 tyX4_ok nmX4 0 rfl rfl 9 (by decide) (List.mem_of_getElem? (i := 13) rfl) rfl rfl rfl (Nat.le_of_ble_eq_true rfl) rfl dX4_begin_83 (fun H locs hG => ?_)
    refine lv_aload_n S.1 S.2.1 dX4_begin_86 rfl (lv_at hl 1 rfl) ?_
    refine lv_iload S.1 S.2.1 dX4_begin_87 (lv_at hl 0 rfl) ?_
    refine g_ifeq_b (B := (begN N y0 x)) (tgt := 97) S dX4_begin_89 (by decide) (fun q89 => ?_) (fun q89 => ?_)
    · skip
      exact absurd q75 q89
    · skip
      refine g_ldc (z := 1000000) S dX4_begin_92 (List.mem_of_getElem? (i := 14) rfl) rfl ?_
      refine lv_goto (tgt := 98) S.1 S.2.1 dX4_begin_94 (by decide) ?_
      refine g_put (gs' := [gRay K ra xa sha lea tma sc x y0 e0 0 (-1) 0 0 0 1000000 0 0 0 (-1) XF HF EF TF, gScn K sc la lb sa sb ou mi bo ln LF sn SF]) S C hG iX40 tyX4 tyX4_ok nmX4 0 rfl rfl 13 (by decide) (List.mem_of_getElem? (i := 15) rfl) rfl rfl rfl (Nat.le_of_ble_eq_true rfl) rfl dX4_begin_98 (fun H locs hG => ?_)
      refine lv_aload_n S.1 S.2.1 dX4_begin_101 rfl (lv_at hl 1 rfl) ?_
      refine g_get S C hG iX40 0 rfl rfl 3 (by decide) (List.mem_of_getElem? (i := 16) rfl) rfl dX4_begin_102 ?_
      refine g_iconst S dX4_begin_105 ?_
      have hG : gW K A s.heap [gRayC K ra xa sha lea tma sc x y0 e0 0 (-1) 0 0 0 1000000 0 0 0 (-1), gArr K 12 xa XF, gArr K 10 sha HF, gArr K 10 lea EF, gArr K 10 tma TF, gScn K sc la lb sa sb ou mi bo ln LF sn SF] _ _ := hG
      refine g_invSv (As := [.ref tma, .int (iI 0)]) (rest := []) (gs' := (fun u : (Int → Int) => [gRayC K ra xa sha lea tma sc x y0 e0 0 (-1) 0 0 0 1000000 0 0 0 (-1), gArr K 12 xa XF, gArr K 10 sha HF, gArr K 10 lea EF, gArr K 10 tma u, gScn K sc la lb sa sb ou mi bo ln LF sn SF])) S C hG [4] (c_J7_fill_53178 l K 10 tma TF 0 (by omega)) rfl rfl (va_cwS 2 S.2.2.2.2 gX4_begin_J7_fill_53178 rfl rfl rfl (by decide +kernel) ⟨Nat.le_of_ble_eq_true rfl, Nat.le_of_ble_eq_true rfl⟩) rfl hl.1 rfl (Nat.le_of_ble_eq_true rfl) dX4_begin_106 ⟨Nat.le_of_ble_eq_true rfl, Nat.le_of_ble_eq_true rfl⟩ (fun _ => Nat.le_of_ble_eq_true rfl) (fun _ => rfl) (fun u H locs hp hG => ?_)
      obtain ⟨F2_106, rfl⟩ : ∃ z, z = u := ⟨_, rfl⟩
      have hF_106 := hp
      have hF_106 : ∀ j : Int, 0 ≤ j → j < (10 : Int) → F2_106 j = 0 := hF_106
      have hG : gW K A s.heap [gRayC K ra xa sha lea tma sc x y0 e0 0 (-1) 0 0 0 1000000 0 0 0 (-1), gArr K 12 xa XF, gArr K 10 sha HF, gArr K 10 lea EF, gArr K 10 tma F2_106, gScn K sc la lb sa sb ou mi bo ln LF sn SF] _ _ := hG
      have hG : gW K A s.heap [gRay K ra xa sha lea tma sc x y0 e0 0 (-1) 0 0 0 1000000 0 0 0 (-1) XF HF EF F2_106, gScn K sc la lb sa sb ou mi bo ln LF sn SF] _ _ := hG
      exact g_vret S hr hlk hQ dX4_begin_109 (Nat.le_of_ble_eq_true rfl) (Nat.le_of_ble_eq_true rfl) (((-1), 1000000, F2_106) : Int × Int × (Int → Int)) ⟨(by first | exact Or.inl ⟨q75, rfl, rfl⟩ | exact Or.inr ⟨q75, rfl, rfl⟩), (fun y h1 h2 => hF_106 y h1 (by omega))⟩ hG
