set_option maxHeartbeats 4000000 in
set_option maxRecDepth 100000 in
theorem c_X8_at60 (l : Launch) (K : KC) (b : Nat) (F : Int → Int) (j : Int) (h0 : 0 ≤ j) (h1 : j < 60) : mG l yX8_at wsX8_at 0 0 K [.ref b, .int (iI j)] [[aI K b 60 F]] (fun (v : Value) (u : Unit) => (v = .int (iI (F j)))) (fun (u : Unit) => [[aI K b 60 F]]) 0 0 := by
  refine mG_of cX8_at 2 (by decide) rfl (Nat.le_of_ble_eq_true rfl) ?_
  intro p e s m below meth c A ls Q S C hG hl hr hlk hin hQ
  have S : CallFix p m c cX8_at 2 s ([.ref b, .int (iI j)] : List Value).toArray wsX8_at RX8 := S
  have hl : lv_has ls 2 [(0, .ref b), (1, .int (iI j))] := hl
  have hG : gW K A s.heap [[aI K b 60 F]] s.heap [] := hG
  refine lv_aload_n S.1 S.2.1 dX8_at_0 rfl (lv_at hl 0 rfl) ?_
  refine lv_ifnull S.1 S.2.1 dX8_at_1 ?_
  refine lv_iload_n S.1 S.2.1 dX8_at_4 rfl (lv_at hl 1 rfl) ?_
  refine g_if_lt (tgt := 20) S dX8_at_5 (by decide) (by omega) (fun q5 => ?_) (fun q5 => ?_)
  · skip
    omega
  · skip
    refine lv_iload_n S.1 S.2.1 dX8_at_8 rfl (lv_at hl 1 rfl) ?_
    refine lv_aload_n S.1 S.2.1 dX8_at_9 rfl (lv_at hl 0 rfl) ?_
    refine g_alen (z := 60) S C hG 0 0 rfl rfl rfl dX8_at_10 ?_
    refine g_icmp_ge (tgt := 20) S dX8_at_11 (by decide) (by omega) (by omega) (fun q11 => ?_) (fun q11 => ?_)
    · skip
      omega
    · skip
      refine lv_aload_n S.1 S.2.1 dX8_at_14 rfl (lv_at hl 0 rfl) ?_
      refine lv_iload_n S.1 S.2.1 dX8_at_15 rfl (lv_at hl 1 rfl) ?_
      refine g_iald S C hG 0 rfl (by omega) (by omega) (by decide) dX8_at_16 ?_
      refine lv_goto (tgt := 21) S.1 S.2.1 dX8_at_17 (by decide) ?_
      have hG : gW K A s.heap [[aI K b 60 F]] _ _ := hG
      exact g_iret S hr hlk hQ dX8_at_21 (Nat.le_of_ble_eq_true rfl) (Nat.le_of_ble_eq_true rfl) (() : Unit) rfl hG

set_option maxHeartbeats 4000000 in
set_option maxRecDepth 100000 in
theorem c_X7_has (l : Launch) (K : KC) (a : Nat) (b : Nat) (n : Int) (F : Int → Int) (i : Int) (h0 : -2147483648 ≤ i ∧ i < 2147483648) (h1 : -2147483648 ≤ n ∧ n < 2147483648) : mG l yX7_has wsX7_has 0 0 K [.ref a, .int (iI i)] [gTab K a b n F] (fun (v : Value) (u : Unit) => (v = .int (iI (bI (0 ≤ i ∧ i < n))))) (fun (u : Unit) => [gTab K a b n F]) 0 0 := by
  refine mG_of cX7_has 2 (by decide) rfl (Nat.le_of_ble_eq_true rfl) ?_
  intro p e s m below meth c A ls Q S C hG hl hr hlk hin hQ
  have S : CallFix p m c cX7_has 2 s ([.ref a, .int (iI i)] : List Value).toArray wsX7_has RX7 := S
  have iX70 : ∀ w ∈ wsX70, w ∈ wsX7_has := fun _ h => List.mem_cons_of_mem _ (List.mem_append_right _ (h))
  have hl : lv_has ls 2 [(0, .ref a), (1, .int (iI i))] := hl
  have hG : gW K A s.heap [gTab K a b n F] s.heap [] := hG
  refine lv_iload_n S.1 S.2.1 dX7_has_0 rfl (lv_at hl 1 rfl) ?_
  refine g_if_lt (tgt := 16) S dX7_has_1 (by decide) (by omega) (fun q1 => ?_) (fun q1 => ?_)
  · skip
    refine g_iconst S dX7_has_16 ?_
    have hG : gW K A s.heap [gTab K a b n F] _ _ := hG
    exact g_zret S hr hlk hQ (Or.inl rfl) dX7_has_17 (Nat.le_of_ble_eq_true rfl) (Nat.le_of_ble_eq_true rfl) (() : Unit) (congrArg (fun z : Int => Value.int (iI z)) (bI_f (by omega)).symm) hG
  · skip
    refine lv_iload_n S.1 S.2.1 dX7_has_4 rfl (lv_at hl 1 rfl) ?_
    refine lv_aload_n S.1 S.2.1 dX7_has_5 rfl (lv_at hl 0 rfl) ?_
    refine g_get S C hG iX70 0 rfl rfl 1 (by decide) (List.mem_of_getElem? (i := 1) rfl) rfl dX7_has_6 ?_
    refine g_icmp_ge (tgt := 16) S dX7_has_9 (by decide) (by omega) (by omega) (fun q9 => ?_) (fun q9 => ?_)
    · skip
      refine g_iconst S dX7_has_16 ?_
      have hG : gW K A s.heap [gTab K a b n F] _ _ := hG
      exact g_zret S hr hlk hQ (Or.inl rfl) dX7_has_17 (Nat.le_of_ble_eq_true rfl) (Nat.le_of_ble_eq_true rfl) (() : Unit) (congrArg (fun z : Int => Value.int (iI z)) (bI_f (by omega)).symm) hG
    · skip
      refine g_iconst S dX7_has_12 ?_
      refine lv_goto (tgt := 17) S.1 S.2.1 dX7_has_13 (by decide) ?_
      have hG : gW K A s.heap [gTab K a b n F] _ _ := hG
      exact g_zret S hr hlk hQ (Or.inr rfl) dX7_has_17 (Nat.le_of_ble_eq_true rfl) (Nat.le_of_ble_eq_true rfl) (() : Unit) (congrArg (fun z : Int => Value.int (iI z)) (bI_t (by omega)).symm) hG

set_option maxHeartbeats 4000000 in
set_option maxRecDepth 100000 in
theorem c_X7_get (l : Launch) (K : KC) (a : Nat) (b : Nat) (n : Int) (F : Int → Int) (i : Int) (k : Int) (h0 : 0 ≤ i ∧ i < 20) (h1 : 0 ≤ k ∧ k < 3) : mG l yX7_get wsX7_get 0 0 K [.ref a, .int (iI i), .int (iI k)] [gTab K a b n F] (fun (v : Value) (u : Unit) => (v = .int (iI (F (i * 3 + k))))) (fun (u : Unit) => [gTab K a b n F]) 0 0 := by
  refine mG_of cX7_get 4 (by decide) rfl (Nat.le_of_ble_eq_true rfl) ?_
  intro p e s m below meth c A ls Q S C hG hl hr hlk hin hQ
  have S : CallFix p m c cX7_get 4 s ([.ref a, .int (iI i), .int (iI k)] : List Value).toArray wsX7_get RX7 := S
  have iX70 : ∀ w ∈ wsX70, w ∈ wsX7_get := fun _ h => List.mem_cons_of_mem _ (List.mem_append_right _ (h))
  have hl : lv_has ls 4 [(0, .ref a), (1, .int (iI i)), (2, .int (iI k))] := hl
  have hG : gW K A s.heap [gTab K a b n F] s.heap [] := hG
  refine lv_iload_n S.1 S.2.1 dX7_get_0 rfl (lv_at hl 1 rfl) ?_
  refine g_iconst S dX7_get_1 ?_
  refine g_imul S dX7_get_2 rfl ?_
  refine lv_iload_n S.1 S.2.1 dX7_get_3 rfl (lv_at hl 2 rfl) ?_
  refine g_iadd S dX7_get_4 rfl ?_
  refine lv_istore_n (lv' := [(3, .int (iI ((i * 3) + k))), (0, .ref a), (1, .int (iI i)), (2, .int (iI k))]) S.1 S.2.1 dX7_get_5 rfl hl (by decide) rfl (fun ls hl => ?_)
  refine lv_iload_n S.1 S.2.1 dX7_get_6 rfl (lv_at hl 0 rfl) ?_
  refine g_if_lt (tgt := 28) S dX7_get_7 (by decide) (by omega) (fun q7 => ?_) (fun q7 => ?_)
  · skip
    omega
  · skip
    refine lv_iload_n S.1 S.2.1 dX7_get_10 rfl (lv_at hl 0 rfl) ?_
    refine lv_aload_n S.1 S.2.1 dX7_get_11 rfl (lv_at hl 1 rfl) ?_
    refine g_get S C hG iX70 0 rfl rfl 0 (by decide) (List.mem_of_getElem? (i := 1) rfl) rfl dX7_get_12 ?_
    refine g_alen (z := 60) S C hG 1 0 rfl rfl rfl dX7_get_15 ?_
    refine g_icmp_ge (tgt := 28) S dX7_get_16 (by decide) (by omega) (by omega) (fun q16 => ?_) (fun q16 => ?_)
    · skip
      omega
    · skip
      refine lv_aload_n S.1 S.2.1 dX7_get_19 rfl (lv_at hl 1 rfl) ?_
      refine g_get S C hG iX70 0 rfl rfl 0 (by decide) (List.mem_of_getElem? (i := 1) rfl) rfl dX7_get_20 ?_
      refine lv_iload_n S.1 S.2.1 dX7_get_23 rfl (lv_at hl 0 rfl) ?_
      refine g_iald S C hG 1 rfl (by omega) (by omega) (by decide) dX7_get_24 ?_
      refine lv_goto (tgt := 29) S.1 S.2.1 dX7_get_25 (by decide) ?_
      have hG : gW K A s.heap [gTab K a b n F] _ _ := hG
      exact g_iret S hr hlk hQ dX7_get_29 (Nat.le_of_ble_eq_true rfl) (Nat.le_of_ble_eq_true rfl) (() : Unit) (congrArg (fun z : Int => Value.int (iI z)) (by first | rfl | omega)) hG
