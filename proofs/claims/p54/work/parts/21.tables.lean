set_option maxHeartbeats 1000000 in
set_option maxRecDepth 100000 in
theorem c_X8_at (l : Launch) (K : KC) (n : Nat) (b : Nat) (F : Int → Int) (j : Int) (h0 : 0 ≤ j ∧ j < n) (h1 : n ≤ 1000) : mG l yX8_at wsX8_at 0 0 K [.ref b, .int (iI j)] [gArr K n b F] (fun (v : Value) (u : Unit) => (v = .int (iI (F j)))) (fun (u : Unit) => [gArr K n b F]) 0 0 := by
  refine mG_of cX8_at 2 (by decide) rfl (Nat.le_of_ble_eq_true rfl) ?_
  intro p e s m below meth c A ls Q S C hG hl hr hlk hin hQ
  have S : CallFix p m c cX8_at 2 s ([.ref b, .int (iI j)] : List Value).toArray wsX8_at RX8 := S
  have hl : lv_has ls 2 [(0, .ref b), (1, .int (iI j))] := hl
  have hG : gW K A s.heap [gArr K n b F] s.heap [] := hG
  refine lv_aload_n S.1 S.2.1 dX8_at_0 rfl (lv_at hl 0 rfl) ?_
  refine lv_ifnull S.1 S.2.1 dX8_at_1 ?_
  refine lv_iload_n S.1 S.2.1 dX8_at_4 rfl (lv_at hl 1 rfl) ?_
  refine g_if_lt (tgt := 20) S dX8_at_5 (by decide) (by omega) (fun q5 => ?_) (fun q5 => ?_)
  · skip
    omega
  · skip
    refine lv_iload_n S.1 S.2.1 dX8_at_8 rfl (lv_at hl 1 rfl) ?_
    refine lv_aload_n S.1 S.2.1 dX8_at_9 rfl (lv_at hl 0 rfl) ?_
    refine g_alen (z := (n : Int)) S C hG 0 0 rfl rfl rfl dX8_at_10 ?_
    refine g_icmp_ge (tgt := 20) S dX8_at_11 (by decide) (by omega) (by omega) (fun q11 => ?_) (fun q11 => ?_)
    · skip
      omega
    · skip
      refine lv_aload_n S.1 S.2.1 dX8_at_14 rfl (lv_at hl 0 rfl) ?_
      refine lv_iload_n S.1 S.2.1 dX8_at_15 rfl (lv_at hl 1 rfl) ?_
      refine g_iald S C hG 0 rfl (by omega) (by omega) (by omega) dX8_at_16 ?_
      refine lv_goto (tgt := 21) S.1 S.2.1 dX8_at_17 (by decide) ?_
      have hG : gW K A s.heap [gArr K n b F] _ _ := hG
      exact g_iret S hr hlk hQ dX8_at_21 (Nat.le_of_ble_eq_true rfl) (Nat.le_of_ble_eq_true rfl) (() : Unit) rfl hG
set_option maxHeartbeats 1000000 in
set_option maxRecDepth 100000 in
theorem c_X8_put (l : Launch) (K : KC) (n : Nat) (b : Nat) (F : Int → Int) (j : Int) (x : Int) (h0 : 0 ≤ j ∧ j < n) (h1 : n ≤ 1000) : mV l yX8_put wsX8_put 0 0 K [.ref b, .int (iI j), .int (iI x)] [gArr K n b F] (fun (u : Unit) => True) (fun (u : Unit) => [gArr K n b (upI F j x)]) 0 0 := by
  refine mV_of cX8_put 3 (by decide) rfl (Nat.le_of_ble_eq_true rfl) ?_
  intro p e s m below meth c A ls Q S C hG hl hr hlk hin hQ
  have S : CallFix p m c cX8_put 3 s ([.ref b, .int (iI j), .int (iI x)] : List Value).toArray wsX8_put RX8 := S
  have hl : lv_has ls 3 [(0, .ref b), (1, .int (iI j)), (2, .int (iI x))] := hl
  have hG : gW K A s.heap [gArr K n b F] s.heap [] := hG
  refine lv_aload_n S.1 S.2.1 dX8_put_0 rfl (lv_at hl 0 rfl) ?_
  refine lv_ifnull S.1 S.2.1 dX8_put_1 ?_
  refine lv_iload_n S.1 S.2.1 dX8_put_4 rfl (lv_at hl 1 rfl) ?_
  refine g_if_lt (tgt := 18) S dX8_put_5 (by decide) (by omega) (fun q5 => ?_) (fun q5 => ?_)
  · skip
    omega
  · skip
    refine lv_iload_n S.1 S.2.1 dX8_put_8 rfl (lv_at hl 1 rfl) ?_
    refine lv_aload_n S.1 S.2.1 dX8_put_9 rfl (lv_at hl 0 rfl) ?_
    refine g_alen (z := (n : Int)) S C hG 0 0 rfl rfl rfl dX8_put_10 ?_
    refine g_icmp_ge (tgt := 18) S dX8_put_11 (by decide) (by omega) (by omega) (fun q11 => ?_) (fun q11 => ?_)
    · skip
      omega
    · skip
      refine lv_aload_n S.1 S.2.1 dX8_put_14 rfl (lv_at hl 0 rfl) ?_
      refine lv_iload_n S.1 S.2.1 dX8_put_15 rfl (lv_at hl 1 rfl) ?_
      refine lv_iload_n S.1 S.2.1 dX8_put_16 rfl (lv_at hl 2 rfl) ?_
      refine g_iast (gs' := [gArr K n b (upI F j x)]) S C hG 0 rfl (by omega) (by omega) (by omega) rfl dX8_put_17 (fun H locs hG => ?_)
      have hG : gW K A s.heap [gArr K n b (upI F j x)] _ _ := hG
      exact g_vret S hr hlk hQ dX8_put_18 (Nat.le_of_ble_eq_true rfl) (Nat.le_of_ble_eq_true rfl) (() : Unit) trivial hG
set_option maxHeartbeats 1000000 in
set_option maxRecDepth 100000 in
theorem c_X7_has (l : Launch) (K : KC) (a : Nat) (b : Nat) (n : Int) (F : Int → Int) (i : Int) (h0 : -2147483648 ≤ i ∧ i < 2147483648) (h1 : -2147483648 ≤ n ∧ n < 2147483648) : mG l yX7_has wsX7_has 0 0 K [.ref a, .int (iI i)] [gTab K a b n F] (fun (v : Value) (u : Unit) => (v = .int (iI (bI (0 ≤ i ∧ i < n))))) (fun (u : Unit) => [gTab K a b n F]) 0 0 := by
  refine mG_of cX7_has 2 (by decide) rfl (Nat.le_of_ble_eq_true rfl) ?_
  intro p e s m below meth c A ls Q S C hG hl hr hlk hin hQ
  have S : CallFix p m c cX7_has 2 s ([.ref a, .int (iI i)] : List Value).toArray wsX7_has RX7 := S
  have iX70 : ∀ w ∈ wsX70, w ∈ wsX7_has := fun _ h => List.mem_cons_of_mem _ (List.mem_append_right _ (h))
  have hl : lv_has ls 2 [(0, .ref a), (1, .int (iI i))] := hl
  have hG : gW K A s.heap [gTab K a b n F] s.heap [] := hG
  refine lv_iload_n S.1 S.2.1 dX7_has_0 rfl (lv_at hl 1 rfl) ?_
  refine g_if_lt (tgt := 16) S dX7_has_1 (by decide) (by omega) (fun q1 => ?_) (fun q1 => ?_)
  · skip
    refine g_iconst S dX7_has_16 ?_
    have hG : gW K A s.heap [gTab K a b n F] _ _ := hG
    exact g_zret S hr hlk hQ (Or.inl rfl) dX7_has_17 (Nat.le_of_ble_eq_true rfl) (Nat.le_of_ble_eq_true rfl) (() : Unit) (congrArg (fun z : Int => Value.int (iI z)) (bI_f (by omega)).symm) hG
  · skip
    refine lv_iload_n S.1 S.2.1 dX7_has_4 rfl (lv_at hl 1 rfl) ?_
    refine lv_aload_n S.1 S.2.1 dX7_has_5 rfl (lv_at hl 0 rfl) ?_
    refine g_get S C hG iX70 0 rfl rfl 1 (by decide) (List.mem_of_getElem? (i := 1) rfl) rfl dX7_has_6 ?_
    refine g_icmp_ge (tgt := 16) S dX7_has_9 (by decide) (by omega) (by omega) (fun q9 => ?_) (fun q9 => ?_)
    · skip
      refine g_iconst S dX7_has_16 ?_
      have hG : gW K A s.heap [gTab K a b n F] _ _ := hG
      exact g_zret S hr hlk hQ (Or.inl rfl) dX7_has_17 (Nat.le_of_ble_eq_true rfl) (Nat.le_of_ble_eq_true rfl) (() : Unit) (congrArg (fun z : Int => Value.int (iI z)) (bI_f (by omega)).symm) hG
    · skip
      refine g_iconst S dX7_has_12 ?_
      refine lv_goto (tgt := 17) S.1 S.2.1 dX7_has_13 (by decide) ?_
      have hG : gW K A s.heap [gTab K a b n F] _ _ := hG
      exact g_zret S hr hlk hQ (Or.inr rfl) dX7_has_17 (Nat.le_of_ble_eq_true rfl) (Nat.le_of_ble_eq_true rfl) (() : Unit) (congrArg (fun z : Int => Value.int (iI z)) (bI_t (by omega)).symm) hG
set_option maxHeartbeats 1000000 in
set_option maxRecDepth 100000 in
theorem c_X7_get (l : Launch) (K : KC) (a : Nat) (b : Nat) (n : Int) (F : Int → Int) (i : Int) (k : Int) (h0 : 0 ≤ i ∧ i < 20) (h1 : 0 ≤ k ∧ k < 3) : mG l yX7_get wsX7_get 0 0 K [.ref a, .int (iI i), .int (iI k)] [gTab K a b n F] (fun (v : Value) (u : Unit) => (v = .int (iI (F (i * 3 + k))))) (fun (u : Unit) => [gTab K a b n F]) 0 0 := by
  refine mG_of cX7_get 4 (by decide) rfl (Nat.le_of_ble_eq_true rfl) ?_
  intro p e s m below meth c A ls Q S C hG hl hr hlk hin hQ
  have S : CallFix p m c cX7_get 4 s ([.ref a, .int (iI i), .int (iI k)] : List Value).toArray wsX7_get RX7 := S
  have iX70 : ∀ w ∈ wsX70, w ∈ wsX7_get := fun _ h => List.mem_cons_of_mem _ (List.mem_append_right _ (h))
  have hl : lv_has ls 4 [(0, .ref a), (1, .int (iI i)), (2, .int (iI k))] := hl
  have hG : gW K A s.heap [gTab K a b n F] s.heap [] := hG
  refine lv_iload_n S.1 S.2.1 dX7_get_0 rfl (lv_at hl 1 rfl) ?_
  refine g_iconst S dX7_get_1 ?_
  refine g_imul S dX7_get_2 rfl ?_
  refine lv_iload_n S.1 S.2.1 dX7_get_3 rfl (lv_at hl 2 rfl) ?_
  refine g_iadd S dX7_get_4 rfl ?_
  refine lv_istore_n (lv' := [(3, .int (iI ((i * 3) + k))), (0, .ref a), (1, .int (iI i)), (2, .int (iI k))]) S.1 S.2.1 dX7_get_5 rfl hl (by decide) rfl (fun ls hl => ?_)
  refine lv_iload_n S.1 S.2.1 dX7_get_6 rfl (lv_at hl 0 rfl) ?_
  refine g_if_lt (tgt := 28) S dX7_get_7 (by decide) (by omega) (fun q7 => ?_) (fun q7 => ?_)
  · skip
    omega
  · skip
    refine lv_iload_n S.1 S.2.1 dX7_get_10 rfl (lv_at hl 0 rfl) ?_
    refine lv_aload_n S.1 S.2.1 dX7_get_11 rfl (lv_at hl 1 rfl) ?_
    refine g_get S C hG iX70 0 rfl rfl 0 (by decide) (List.mem_of_getElem? (i := 1) rfl) rfl dX7_get_12 ?_
    refine g_alen (z := 60) S C hG 1 0 rfl rfl rfl dX7_get_15 ?_
    refine g_icmp_ge (tgt := 28) S dX7_get_16 (by decide) (by omega) (by omega) (fun q16 => ?_) (fun q16 => ?_)
    · skip
      omega
    · skip
      refine lv_aload_n S.1 S.2.1 dX7_get_19 rfl (lv_at hl 1 rfl) ?_
      refine g_get S C hG iX70 0 rfl rfl 0 (by decide) (List.mem_of_getElem? (i := 1) rfl) rfl dX7_get_20 ?_
      refine lv_iload_n S.1 S.2.1 dX7_get_23 rfl (lv_at hl 0 rfl) ?_
      refine g_iald S C hG 1 rfl (by omega) (by omega) (by omega) dX7_get_24 ?_
      refine lv_goto (tgt := 29) S.1 S.2.1 dX7_get_25 (by decide) ?_
      have hG : gW K A s.heap [gTab K a b n F] _ _ := hG
      exact g_iret S hr hlk hQ dX7_get_29 (Nat.le_of_ble_eq_true rfl) (Nat.le_of_ble_eq_true rfl) (() : Unit) (congrArg (fun z : Int => Value.int (iI z)) (by first | rfl | omega)) hG
set_option maxHeartbeats 1000000 in
set_option maxRecDepth 100000 in
theorem c_X7_set (l : Launch) (K : KC) (a : Nat) (b : Nat) (n : Int) (F : Int → Int) (i : Int) (k : Int) (x : Int) (h0 : 0 ≤ i ∧ i < 20) (h1 : 0 ≤ k ∧ k < 3) : mV l yX7_set wsX7_set 1 22 K [.ref a, .int (iI i), .int (iI k), .int (iI x)] [gTab K a b n F] (fun (u : Unit) => True) (fun (u : Unit) => [gTab K a b n (upI F (i * 3 + k) x)]) 0 0 := by
  refine mV_of cX7_set 4 (by decide) rfl (Nat.le_of_ble_eq_true rfl) ?_
  intro p e s m below meth c A ls Q S C hG hl hr hlk hin hQ
  have S : CallFix p m c cX7_set 4 s ([.ref a, .int (iI i), .int (iI k), .int (iI x)] : List Value).toArray wsX7_set RX7 := S
  have iX70 : ∀ w ∈ wsX70, w ∈ wsX7_set := fun _ h => List.mem_cons_of_mem _ (List.mem_append_right _ (h))
  have hl : lv_has ls 4 [(0, .ref a), (1, .int (iI i)), (2, .int (iI k)), (3, .int (iI x))] := hl
  have hG : gW K A s.heap [gTab K a b n F] s.heap [] := hG
  refine lv_aload_n S.1 S.2.1 dX7_set_0 rfl (lv_at hl 0 rfl) ?_
  refine g_get S C hG iX70 0 rfl rfl 0 (by decide) (List.mem_of_getElem? (i := 1) rfl) rfl dX7_set_1 ?_
  refine lv_iload_n S.1 S.2.1 dX7_set_4 rfl (lv_at hl 1 rfl) ?_
  refine g_iconst S dX7_set_5 ?_
  refine g_imul S dX7_set_6 rfl ?_
  refine lv_iload_n S.1 S.2.1 dX7_set_7 rfl (lv_at hl 2 rfl) ?_
  refine g_iadd S dX7_set_8 rfl ?_
  refine lv_iload_n S.1 S.2.1 dX7_set_9 rfl (lv_at hl 3 rfl) ?_
  have hG : gW K A s.heap [gTabC K a b n, gArr K 60 b F] _ _ := hG
  refine g_invSNv (As := [.ref b, .int (iI ((i * 3) + k)), .int (iI x)]) (rest := []) (gs' := (fun u : Unit => [gTabC K a b n, gArr K 60 b (upI F ((i * 3) + k) x)])) S C hG [1] (c_X8_put l K 60 b F ((i * 3) + k) x (by omega) (by omega)) rfl rfl ⟨va_cnB 3 S.2.2.2.2 gX7_set_X8_put_n19 rfl rfl rfl (C.1.2.1 _ (List.mem_of_getElem? (i := 4) rfl)) (S.2.2.2.2 _ (List.mem_of_getElem? (i := 3) rfl)) (by decide +kernel) ⟨Nat.le_of_ble_eq_true rfl, Nat.le_of_ble_eq_true rfl⟩, (S.2.2.2.2 _ (List.mem_of_getElem? (i := 2) rfl)), trivial⟩ rfl hl.1 rfl (Nat.le_of_ble_eq_true rfl) dX7_set_10 ⟨Nat.le_of_ble_eq_true rfl, Nat.le_of_ble_eq_true rfl⟩ (fun _ => Nat.le_of_ble_eq_true rfl) (fun _ => rfl) (fun u H locs hp hG => ?_)
  have hG : gW K A s.heap [gTab K a b n (upI F (i * 3 + k) x)] _ _ := hG
  exact g_vret S hr hlk hQ dX7_set_13 (Nat.le_of_ble_eq_true rfl) (Nat.le_of_ble_eq_true rfl) (() : Unit) trivial hG
set_option maxHeartbeats 1000000 in
set_option maxRecDepth 100000 in
theorem c_X7_copyRow (l : Launch) (K : KC) (a : Nat) (b : Nat) (n : Int) (F : Int → Int) (f : Int) (t : Int) (h0 : 0 ≤ f ∧ f < 20) (h1 : 0 ≤ t ∧ t < 20) (h2 : f ≠ t) : mV l yX7_copyRow wsX7_copyRow 2 45 K [.ref a, .int (iI f), .int (iI t)] [gTab K a b n F] (fun (u : (Int → Int)) => (∀ r k : Int, 0 ≤ k → k < 3 → u (r * 3 + k) = if r = t then F (f * 3 + k) else F (r * 3 + k))) (fun (u : (Int → Int)) => [gTab K a b n u]) 0 0 := by
  refine mV_of cX7_copyRow 4 (by decide) rfl (Nat.le_of_ble_eq_true rfl) ?_
  intro p e s m below meth c A ls Q S C hG hl hr hlk hin hQ
  have S : CallFix p m c cX7_copyRow 4 s ([.ref a, .int (iI f), .int (iI t)] : List Value).toArray wsX7_copyRow RX7 := S
  have iX70 : ∀ w ∈ wsX70, w ∈ wsX7_copyRow := fun _ h => List.mem_cons_of_mem _ (List.mem_append_right _ (h))
  have hl : lv_has ls 4 [(0, .ref a), (1, .int (iI f)), (2, .int (iI t))] := hl
  have hG : gW K A s.heap [gTab K a b n F] s.heap [] := hG
  refine g_iconst S dX7_copyRow_0 ?_
  refine lv_istore_n (lv' := [(3, .int (iI 0)), (0, .ref a), (1, .int (iI f)), (2, .int (iI t))]) S.1 S.2.1 dX7_copyRow_1 rfl hl (by decide) rfl (fun ls hl => ?_)
  refine lv_iload_n S.1 S.2.1 dX7_copyRow_2 rfl (lv_at hl 0 rfl) ?_
  refine g_iconst S dX7_copyRow_3 ?_
  refine g_icmp_ge (tgt := 25) S dX7_copyRow_4 (by decide) (by omega) (by omega) (fun q4 => ?_) (fun q4 => ?_)
  · skip
    exact absurd q4 (by decide)
  · skip
    refine lv_aload_n S.1 S.2.1 dX7_copyRow_7 rfl (lv_at hl 1 rfl) ?_
    refine lv_iload_n S.1 S.2.1 dX7_copyRow_8 rfl (lv_at hl 3 rfl) ?_
    refine lv_iload_n S.1 S.2.1 dX7_copyRow_9 rfl (lv_at hl 0 rfl) ?_
    refine lv_aload_n S.1 S.2.1 dX7_copyRow_10 rfl (lv_at hl 1 rfl) ?_
    refine lv_iload_n S.1 S.2.1 dX7_copyRow_11 rfl (lv_at hl 2 rfl) ?_
    refine lv_iload_n S.1 S.2.1 dX7_copyRow_12 rfl (lv_at hl 0 rfl) ?_
    refine g_invV (As := [.int (iI f), .int (iI 0)]) (rest := [.int (iI 0), .int (iI t), .ref a]) (gs' := (fun u : Unit => [gTab K a b n F])) S C hG [0] (c_X7_get l K a b n F f 0 h0 (by omega)) rfl rfl 0 rfl rfl (cwV 2 S.2.2.2.2 gX7_copyRow_X7_get rfl rfl rfl (by decide +kernel) ⟨Nat.le_of_ble_eq_true rfl, Nat.le_of_ble_eq_true rfl⟩) rfl hl.1 rfl (Nat.le_of_ble_eq_true rfl) dX7_copyRow_13 ⟨Nat.le_of_ble_eq_true rfl, Nat.le_of_ble_eq_true rfl⟩ (fun _ => Nat.le_of_ble_eq_true rfl) (fun _ => rfl) (fun v u H locs hp hG => ?_)
    subst hp
    refine g_invVv (As := [.int (iI t), .int (iI 0), .int (iI (F (f * 3 + 0)))]) (rest := []) (gs' := (fun u : Unit => [gTab K a b n (upI F (t * 3 + 0) (F (f * 3 + 0)))])) S C hG [0] (c_X7_set l K a b n F t 0 (F (f * 3 + 0)) h1 (by omega)) rfl rfl 0 rfl rfl (cwV 3 S.2.2.2.2 gX7_copyRow_X7_set rfl rfl rfl (by decide +kernel) ⟨Nat.le_of_ble_eq_true rfl, Nat.le_of_ble_eq_true rfl⟩) rfl hl.1 rfl (Nat.le_of_ble_eq_true rfl) dX7_copyRow_16 ⟨Nat.le_of_ble_eq_true rfl, Nat.le_of_ble_eq_true rfl⟩ (fun _ => Nat.le_of_ble_eq_true rfl) (fun _ => rfl) (fun u H locs hp hG => ?_)
    refine lv_iinc (v := iI 1) (lv' := [(3, .int (iI 1)), (0, .ref a), (1, .int (iI f)), (2, .int (iI t))]) S.1 S.2.1 dX7_copyRow_19 hl (k := 0) rfl (g_iinc (by decide)) (by decide) rfl (fun ls hl => ?_)
    refine lv_goto (tgt := 2) S.1 S.2.1 dX7_copyRow_22 (by decide) ?_
    refine lv_iload_n S.1 S.2.1 dX7_copyRow_2 rfl (lv_at hl 0 rfl) ?_
    refine g_iconst S dX7_copyRow_3 ?_
    refine g_icmp_ge (tgt := 25) S dX7_copyRow_4 (by decide) (by omega) (by omega) (fun q4 => ?_) (fun q4 => ?_)
    · skip
      exact absurd q4 (by decide)
    · skip
      refine lv_aload_n S.1 S.2.1 dX7_copyRow_7 rfl (lv_at hl 1 rfl) ?_
      refine lv_iload_n S.1 S.2.1 dX7_copyRow_8 rfl (lv_at hl 3 rfl) ?_
      refine lv_iload_n S.1 S.2.1 dX7_copyRow_9 rfl (lv_at hl 0 rfl) ?_
      refine lv_aload_n S.1 S.2.1 dX7_copyRow_10 rfl (lv_at hl 1 rfl) ?_
      refine lv_iload_n S.1 S.2.1 dX7_copyRow_11 rfl (lv_at hl 2 rfl) ?_
      refine lv_iload_n S.1 S.2.1 dX7_copyRow_12 rfl (lv_at hl 0 rfl) ?_
      refine g_invV (As := [.int (iI f), .int (iI 1)]) (rest := [.int (iI 1), .int (iI t), .ref a]) (gs' := (fun u : Unit => [gTab K a b n (upI F (t * 3 + 0) (F (f * 3 + 0)))])) S C hG [0] (c_X7_get l K a b n (upI F (t * 3 + 0) (F (f * 3 + 0))) f 1 h0 (by omega)) rfl rfl 0 rfl rfl (cwV 2 S.2.2.2.2 gX7_copyRow_X7_get rfl rfl rfl (by decide +kernel) ⟨Nat.le_of_ble_eq_true rfl, Nat.le_of_ble_eq_true rfl⟩) rfl hl.1 rfl (Nat.le_of_ble_eq_true rfl) dX7_copyRow_13 ⟨Nat.le_of_ble_eq_true rfl, Nat.le_of_ble_eq_true rfl⟩ (fun _ => Nat.le_of_ble_eq_true rfl) (fun _ => rfl) (fun v u H locs hp hG => ?_)
      subst hp
      refine g_invVv (As := [.int (iI t), .int (iI 1), .int (iI ((upI F (t * 3 + 0) (F (f * 3 + 0))) (f * 3 + 1)))]) (rest := []) (gs' := (fun u : Unit => [gTab K a b n (upI (upI F (t * 3 + 0) (F (f * 3 + 0))) (t * 3 + 1) ((upI F (t * 3 + 0) (F (f * 3 + 0))) (f * 3 + 1)))])) S C hG [0] (c_X7_set l K a b n (upI F (t * 3 + 0) (F (f * 3 + 0))) t 1 ((upI F (t * 3 + 0) (F (f * 3 + 0))) (f * 3 + 1)) h1 (by omega)) rfl rfl 0 rfl rfl (cwV 3 S.2.2.2.2 gX7_copyRow_X7_set rfl rfl rfl (by decide +kernel) ⟨Nat.le_of_ble_eq_true rfl, Nat.le_of_ble_eq_true rfl⟩) rfl hl.1 rfl (Nat.le_of_ble_eq_true rfl) dX7_copyRow_16 ⟨Nat.le_of_ble_eq_true rfl, Nat.le_of_ble_eq_true rfl⟩ (fun _ => Nat.le_of_ble_eq_true rfl) (fun _ => rfl) (fun u H locs hp hG => ?_)
      refine lv_iinc (v := iI 2) (lv' := [(3, .int (iI 2)), (0, .ref a), (1, .int (iI f)), (2, .int (iI t))]) S.1 S.2.1 dX7_copyRow_19 hl (k := 0) rfl (g_iinc (by decide)) (by decide) rfl (fun ls hl => ?_)
      refine lv_goto (tgt := 2) S.1 S.2.1 dX7_copyRow_22 (by decide) ?_
      refine lv_iload_n S.1 S.2.1 dX7_copyRow_2 rfl (lv_at hl 0 rfl) ?_
      refine g_iconst S dX7_copyRow_3 ?_
      refine g_icmp_ge (tgt := 25) S dX7_copyRow_4 (by decide) (by omega) (by omega) (fun q4 => ?_) (fun q4 => ?_)
      · skip
        exact absurd q4 (by decide)
      · skip
        refine lv_aload_n S.1 S.2.1 dX7_copyRow_7 rfl (lv_at hl 1 rfl) ?_
        refine lv_iload_n S.1 S.2.1 dX7_copyRow_8 rfl (lv_at hl 3 rfl) ?_
        refine lv_iload_n S.1 S.2.1 dX7_copyRow_9 rfl (lv_at hl 0 rfl) ?_
        refine lv_aload_n S.1 S.2.1 dX7_copyRow_10 rfl (lv_at hl 1 rfl) ?_
        refine lv_iload_n S.1 S.2.1 dX7_copyRow_11 rfl (lv_at hl 2 rfl) ?_
        refine lv_iload_n S.1 S.2.1 dX7_copyRow_12 rfl (lv_at hl 0 rfl) ?_
        refine g_invV (As := [.int (iI f), .int (iI 2)]) (rest := [.int (iI 2), .int (iI t), .ref a]) (gs' := (fun u : Unit => [gTab K a b n (upI (upI F (t * 3 + 0) (F (f * 3 + 0))) (t * 3 + 1) ((upI F (t * 3 + 0) (F (f * 3 + 0))) (f * 3 + 1)))])) S C hG [0] (c_X7_get l K a b n (upI (upI F (t * 3 + 0) (F (f * 3 + 0))) (t * 3 + 1) ((upI F (t * 3 + 0) (F (f * 3 + 0))) (f * 3 + 1))) f 2 h0 (by omega)) rfl rfl 0 rfl rfl (cwV 2 S.2.2.2.2 gX7_copyRow_X7_get rfl rfl rfl (by decide +kernel) ⟨Nat.le_of_ble_eq_true rfl, Nat.le_of_ble_eq_true rfl⟩) rfl hl.1 rfl (Nat.le_of_ble_eq_true rfl) dX7_copyRow_13 ⟨Nat.le_of_ble_eq_true rfl, Nat.le_of_ble_eq_true rfl⟩ (fun _ => Nat.le_of_ble_eq_true rfl) (fun _ => rfl) (fun v u H locs hp hG => ?_)
        subst hp
        refine g_invVv (As := [.int (iI t), .int (iI 2), .int (iI ((upI (upI F (t * 3 + 0) (F (f * 3 + 0))) (t * 3 + 1) ((upI F (t * 3 + 0) (F (f * 3 + 0))) (f * 3 + 1))) (f * 3 + 2)))]) (rest := []) (gs' := (fun u : Unit => [gTab K a b n (upI (upI (upI F (t * 3 + 0) (F (f * 3 + 0))) (t * 3 + 1) ((upI F (t * 3 + 0) (F (f * 3 + 0))) (f * 3 + 1))) (t * 3 + 2) ((upI (upI F (t * 3 + 0) (F (f * 3 + 0))) (t * 3 + 1) ((upI F (t * 3 + 0) (F (f * 3 + 0))) (f * 3 + 1))) (f * 3 + 2)))])) S C hG [0] (c_X7_set l K a b n (upI (upI F (t * 3 + 0) (F (f * 3 + 0))) (t * 3 + 1) ((upI F (t * 3 + 0) (F (f * 3 + 0))) (f * 3 + 1))) t 2 ((upI (upI F (t * 3 + 0) (F (f * 3 + 0))) (t * 3 + 1) ((upI F (t * 3 + 0) (F (f * 3 + 0))) (f * 3 + 1))) (f * 3 + 2)) h1 (by omega)) rfl rfl 0 rfl rfl (cwV 3 S.2.2.2.2 gX7_copyRow_X7_set rfl rfl rfl (by decide +kernel) ⟨Nat.le_of_ble_eq_true rfl, Nat.le_of_ble_eq_true rfl⟩) rfl hl.1 rfl (Nat.le_of_ble_eq_true rfl) dX7_copyRow_16 ⟨Nat.le_of_ble_eq_true rfl, Nat.le_of_ble_eq_true rfl⟩ (fun _ => Nat.le_of_ble_eq_true rfl) (fun _ => rfl) (fun u H locs hp hG => ?_)
        refine lv_iinc (v := iI 3) (lv' := [(3, .int (iI 3)), (0, .ref a), (1, .int (iI f)), (2, .int (iI t))]) S.1 S.2.1 dX7_copyRow_19 hl (k := 0) rfl (g_iinc (by decide)) (by decide) rfl (fun ls hl => ?_)
        refine lv_goto (tgt := 2) S.1 S.2.1 dX7_copyRow_22 (by decide) ?_
        refine lv_iload_n S.1 S.2.1 dX7_copyRow_2 rfl (lv_at hl 0 rfl) ?_
        refine g_iconst S dX7_copyRow_3 ?_
        refine g_icmp_ge (tgt := 25) S dX7_copyRow_4 (by decide) (by omega) (by omega) (fun q4 => ?_) (fun q4 => ?_)
        · skip
          have hG : gW K A s.heap [gTab K a b n (upI (upI (upI F (t * 3 + 0) (F (f * 3 + 0))) (t * 3 + 1) ((upI F (t * 3 + 0) (F (f * 3 + 0))) (f * 3 + 1))) (t * 3 + 2) ((upI (upI F (t * 3 + 0) (F (f * 3 + 0))) (t * 3 + 1) ((upI F (t * 3 + 0) (F (f * 3 + 0))) (f * 3 + 1))) (f * 3 + 2)))] _ _ := hG
          exact g_vret S hr hlk hQ dX7_copyRow_25 (Nat.le_of_ble_eq_true rfl) (Nat.le_of_ble_eq_true rfl) (((upI (upI (upI F (t * 3 + 0) (F (f * 3 + 0))) (t * 3 + 1) ((upI F (t * 3 + 0) (F (f * 3 + 0))) (f * 3 + 1))) (t * 3 + 2) ((upI (upI F (t * 3 + 0) (F (f * 3 + 0))) (t * 3 + 1) ((upI F (t * 3 + 0) (F (f * 3 + 0))) (f * 3 + 1))) (f * 3 + 2)))) : (Int → Int)) (by intro r k hr hk; simp only [upI]; (repeat' split) <;> first | rfl | omega | (congr 1; omega)) hG
        · skip
          exact absurd q4 (by decide)
set_option maxHeartbeats 1000000 in
set_option maxRecDepth 100000 in
theorem c_X7_insert (l : Launch) (K : KC) (a : Nat) (b : Nat) (n : Int) (F : Int → Int) (i : Int) (u0 : Int) (u1 : Int) (u2 : Int) (h0 : 0 ≤ i ∧ i ≤ n) (h1 : n < 20) : mV l yX7_insert wsX7_insert 3 68 K [.ref a, .int (iI i), .int (iI u0), .int (iI u1), .int (iI u2)] [gTab K a b n F] (fun (u : (Int → Int)) => (∀ r k : Int, 0 ≤ k → k < 3 → u (r * 3 + k) = if r = i then sel3 k u0 u1 u2 else if i < r ∧ r ≤ n then F ((r - 1) * 3 + k) else F (r * 3 + k))) (fun (u : (Int → Int)) => [gTab K a b (n + 1) u]) 0 0 := by
  refine mV_of cX7_insert 6 (by decide) rfl (Nat.le_of_ble_eq_true rfl) ?_
  intro p e s m below meth c A ls Q S C hG hl hr hlk hin hQ
  have S : CallFix p m c cX7_insert 6 s ([.ref a, .int (iI i), .int (iI u0), .int (iI u1), .int (iI u2)] : List Value).toArray wsX7_insert RX7 := S
  have iX70 : ∀ w ∈ wsX70, w ∈ wsX7_insert := fun _ h => List.mem_cons_of_mem _ (List.mem_append_right _ (h))
  have hl : lv_has ls 6 [(0, .ref a), (1, .int (iI i)), (2, .int (iI u0)), (3, .int (iI u1)), (4, .int (iI u2))] := hl
  have hG : gW K A s.heap [gTab K a b n F] s.heap [] := hG
  refine lv_aload_n S.1 S.2.1 dX7_insert_0 rfl (lv_at hl 0 rfl) ?_
  refine g_get S C hG iX70 0 rfl rfl 1 (by decide) (List.mem_of_getElem? (i := 1) rfl) rfl dX7_insert_1 ?_
  refine lv_istore (lv' := [(5, .int (iI n)), (0, .ref a), (1, .int (iI i)), (2, .int (iI u0)), (3, .int (iI u1)), (4, .int (iI u2))]) S.1 S.2.1 dX7_insert_4 hl (by decide) rfl (fun ls hl => ?_)
  have L6 : ∀ (fu : Nat) (w : Int) (F1 : Int → Int) (H : Heap) (locs : List Loc) (ls : Array Slot), ((w - i).toNat) < fu → (i ≤ w ∧ w ≤ n) → (∀ r k : Int, 0 ≤ k → k < 3 → F1 (r * 3 + k) = if w < r ∧ r ≤ n then F ((r - 1) * 3 + k) else F (r * 3 + k)) → lv_has ls 6 [(0, .ref a), (1, .int (iI i)), (2, .int (iI u0)), (3, .int (iI u1)), (4, .int (iI u2)), (5, .int (iI w))] → gW K A s.heap [gTab K a b n F1] H locs → W p l e { frames := 3, cells := 0, slots := 0, locals := 68 } s m ([.ref a, .int (iI i), .int (iI u0), .int (iI u1), .int (iI u2)] : List Value).toArray below meth c H locs 0 0 Q (F0 m 6 ls []) := by
    intro fu
    induction fu with
    | zero => intro w F1 H locs ls hfu; exact absurd hfu (Nat.not_lt_zero _)
    | succ fu ih =>
      intro w F1 H locs ls hfu hm hF1 hl hG
      refine lv_iload S.1 S.2.1 dX7_insert_6 (lv_at hl 5 rfl) ?_
      refine lv_iload_n S.1 S.2.1 dX7_insert_8 rfl (lv_at hl 1 rfl) ?_
      refine g_icmp_le (tgt := 28) S dX7_insert_9 (by decide) (by omega) (by omega) (fun q9 => ?_) (fun q9 => ?_)
      · skip
        refine lv_aload_n S.1 S.2.1 dX7_insert_28 rfl (lv_at hl 0 rfl) ?_
        refine lv_iload_n S.1 S.2.1 dX7_insert_29 rfl (lv_at hl 1 rfl) ?_
        refine g_iconst S dX7_insert_30 ?_
        refine lv_iload_n S.1 S.2.1 dX7_insert_31 rfl (lv_at hl 2 rfl) ?_
        refine g_invVv (As := [.int (iI i), .int (iI 0), .int (iI u0)]) (rest := []) (gs' := (fun u : Unit => [gTab K a b n (upI F1 (i * 3 + 0) u0)])) S C hG [0] (c_X7_set l K a b n F1 i 0 u0 (by omega) (by omega)) rfl rfl 0 rfl rfl (cwV 3 S.2.2.2.2 gX7_insert_X7_set rfl rfl rfl (by decide +kernel) ⟨Nat.le_of_ble_eq_true rfl, Nat.le_of_ble_eq_true rfl⟩) rfl hl.1 rfl (Nat.le_of_ble_eq_true rfl) dX7_insert_32 ⟨Nat.le_of_ble_eq_true rfl, Nat.le_of_ble_eq_true rfl⟩ (fun _ => Nat.le_of_ble_eq_true rfl) (fun _ => rfl) (fun u H locs hp hG => ?_)
        refine lv_aload_n S.1 S.2.1 dX7_insert_35 rfl (lv_at hl 0 rfl) ?_
        refine lv_iload_n S.1 S.2.1 dX7_insert_36 rfl (lv_at hl 1 rfl) ?_
        refine g_iconst S dX7_insert_37 ?_
        refine lv_iload_n S.1 S.2.1 dX7_insert_38 rfl (lv_at hl 3 rfl) ?_
        refine g_invVv (As := [.int (iI i), .int (iI 1), .int (iI u1)]) (rest := []) (gs' := (fun u : Unit => [gTab K a b n (upI (upI F1 (i * 3 + 0) u0) (i * 3 + 1) u1)])) S C hG [0] (c_X7_set l K a b n (upI F1 (i * 3 + 0) u0) i 1 u1 (by omega) (by omega)) rfl rfl 0 rfl rfl (cwV 3 S.2.2.2.2 gX7_insert_X7_set rfl rfl rfl (by decide +kernel) ⟨Nat.le_of_ble_eq_true rfl, Nat.le_of_ble_eq_true rfl⟩) rfl hl.1 rfl (Nat.le_of_ble_eq_true rfl) dX7_insert_39 ⟨Nat.le_of_ble_eq_true rfl, Nat.le_of_ble_eq_true rfl⟩ (fun _ => Nat.le_of_ble_eq_true rfl) (fun _ => rfl) (fun u H locs hp hG => ?_)
        refine lv_aload_n S.1 S.2.1 dX7_insert_42 rfl (lv_at hl 0 rfl) ?_
        refine lv_iload_n S.1 S.2.1 dX7_insert_43 rfl (lv_at hl 1 rfl) ?_
        refine g_iconst S dX7_insert_44 ?_
        refine lv_iload S.1 S.2.1 dX7_insert_45 (lv_at hl 4 rfl) ?_
        refine g_invVv (As := [.int (iI i), .int (iI 2), .int (iI u2)]) (rest := []) (gs' := (fun u : Unit => [gTab K a b n (upI (upI (upI F1 (i * 3 + 0) u0) (i * 3 + 1) u1) (i * 3 + 2) u2)])) S C hG [0] (c_X7_set l K a b n (upI (upI F1 (i * 3 + 0) u0) (i * 3 + 1) u1) i 2 u2 (by omega) (by omega)) rfl rfl 0 rfl rfl (cwV 3 S.2.2.2.2 gX7_insert_X7_set rfl rfl rfl (by decide +kernel) ⟨Nat.le_of_ble_eq_true rfl, Nat.le_of_ble_eq_true rfl⟩) rfl hl.1 rfl (Nat.le_of_ble_eq_true rfl) dX7_insert_47 ⟨Nat.le_of_ble_eq_true rfl, Nat.le_of_ble_eq_true rfl⟩ (fun _ => Nat.le_of_ble_eq_true rfl) (fun _ => rfl) (fun u H locs hp hG => ?_)
        refine lv_aload_n S.1 S.2.1 dX7_insert_50 rfl (lv_at hl 0 rfl) ?_
        refine lv_dup S.1 S.2.1 dX7_insert_51 rfl ?_
        refine g_get S C hG iX70 0 rfl rfl 1 (by decide) (List.mem_of_getElem? (i := 1) rfl) rfl dX7_insert_52 ?_
        refine g_iconst S dX7_insert_55 ?_
        refine g_iadd S dX7_insert_56 rfl ?_
        refine g_put (gs' := [gTab K a b (n + 1) (upI (upI (upI F1 (i * 3 + 0) u0) (i * 3 + 1) u1) (i * 3 + 2) u2)]) S C hG iX70 tyX7 tyX7_ok nmX7 0 rfl rfl 1 (by decide) (List.mem_of_getElem? (i := 1) rfl) rfl rfl rfl (Nat.le_of_ble_eq_true rfl) rfl dX7_insert_57 (fun H locs hG => ?_)
        have hG : gW K A s.heap [gTab K a b (n + 1) (upI (upI (upI F1 (i * 3 + 0) u0) (i * 3 + 1) u1) (i * 3 + 2) u2)] _ _ := hG
        exact g_vret S hr hlk hQ dX7_insert_60 (Nat.le_of_ble_eq_true rfl) (Nat.le_of_ble_eq_true rfl) (((upI (upI (upI F1 (i * 3 + 0) u0) (i * 3 + 1) u1) (i * 3 + 2) u2)) : (Int → Int)) (by intro r k hr hk; simp only [upI, sel3]; have hz := hF1 r k hr hk; (repeat' split) <;> first | rfl | omega | (rw [hz]; (repeat' split) <;> first | rfl | omega)) hG
      · skip
        refine lv_aload_n S.1 S.2.1 dX7_insert_12 rfl (lv_at hl 0 rfl) ?_
        refine lv_iload S.1 S.2.1 dX7_insert_13 (lv_at hl 5 rfl) ?_
        refine g_iconst S dX7_insert_15 ?_
        refine g_isub S dX7_insert_16 rfl ?_
        refine lv_iload S.1 S.2.1 dX7_insert_17 (lv_at hl 5 rfl) ?_
        refine g_invVv (As := [.int (iI (w - 1)), .int (iI w)]) (rest := []) (gs' := (fun u : (Int → Int) => [gTab K a b n u])) S C hG [0] (c_X7_copyRow l K a b n F1 (w - 1) w (by omega) (by omega) (by omega)) rfl rfl 0 rfl rfl (cwV 2 S.2.2.2.2 gX7_insert_X7_copyRow rfl rfl rfl (by decide +kernel) ⟨Nat.le_of_ble_eq_true rfl, Nat.le_of_ble_eq_true rfl⟩) rfl hl.1 rfl (Nat.le_of_ble_eq_true rfl) dX7_insert_19 ⟨Nat.le_of_ble_eq_true rfl, Nat.le_of_ble_eq_true rfl⟩ (fun _ => Nat.le_of_ble_eq_true rfl) (fun _ => rfl) (fun u H locs hp hG => ?_)
        obtain ⟨F2_19, rfl⟩ : ∃ z, z = u := ⟨_, rfl⟩
        have hF_19 := hp
        have hF_19 : ∀ r k : Int, 0 ≤ k → k < 3 → F2_19 (r * 3 + k) = if r = w then F1 ((w - 1) * 3 + k) else F1 (r * 3 + k) := hF_19
        have hG : gW K A s.heap [gTab K a b n F2_19] _ _ := hG
        refine lv_iinc (v := iI (w + (-1))) (lv' := [(5, .int (iI (w + (-1)))), (0, .ref a), (1, .int (iI i)), (2, .int (iI u0)), (3, .int (iI u1)), (4, .int (iI u2))]) S.1 S.2.1 dX7_insert_22 hl (k := 5) rfl (g_iinc rfl) (by decide) rfl (fun ls hl => ?_)
        refine lv_goto (tgt := 6) S.1 S.2.1 dX7_insert_25 (by decide) ?_
        exact ih (w + (-1)) F2_19 _ _ _ (by omega) (by omega) (by intro r k hr hk; rw [hF_19 r k hr hk]; split <;> split <;> first | (rw [hF1 _ _ hr hk]; split <;> first | rfl | omega | (congr 1; omega)) | omega) (lv_sub hl [1, 2, 3, 4, 5, 0] rfl) hG
  exact L6 (Nat.succ ((n - i).toNat)) n F _ _ _ (Nat.lt_succ_self _) (by omega) (by intro r k _ _; rw [if_neg (by omega)]) (lv_sub hl [1, 2, 3, 4, 5, 0] rfl) hG
set_option maxHeartbeats 1000000 in
set_option maxRecDepth 100000 in
theorem c_X7_remove (l : Launch) (K : KC) (a : Nat) (b : Nat) (n : Int) (F : Int → Int) (i : Int) (h0 : 0 ≤ i ∧ i < n) (h1 : n ≤ 20) : mV l yX7_remove wsX7_remove 3 68 K [.ref a, .int (iI i)] [gTab K a b n F] (fun (u : (Int → Int)) => (∀ r k : Int, 0 ≤ k → k < 3 → u (r * 3 + k) = if i ≤ r ∧ r < n - 1 then F ((r + 1) * 3 + k) else F (r * 3 + k))) (fun (u : (Int → Int)) => [gTab K a b (n - 1) u]) 0 0 := by
  refine mV_of cX7_remove 3 (by decide) rfl (Nat.le_of_ble_eq_true rfl) ?_
  intro p e s m below meth c A ls Q S C hG hl hr hlk hin hQ
  have S : CallFix p m c cX7_remove 3 s ([.ref a, .int (iI i)] : List Value).toArray wsX7_remove RX7 := S
  have iX70 : ∀ w ∈ wsX70, w ∈ wsX7_remove := fun _ h => List.mem_cons_of_mem _ (List.mem_append_right _ (h))
  have hl : lv_has ls 3 [(0, .ref a), (1, .int (iI i))] := hl
  have hG : gW K A s.heap [gTab K a b n F] s.heap [] := hG
  refine lv_iload_n S.1 S.2.1 dX7_remove_0 rfl (lv_at hl 1 rfl) ?_
  refine lv_istore_n (lv' := [(2, .int (iI i)), (0, .ref a), (1, .int (iI i))]) S.1 S.2.1 dX7_remove_1 rfl hl (by decide) rfl (fun ls hl => ?_)
  have L2 : ∀ (fu : Nat) (w : Int) (F1 : Int → Int) (H : Heap) (locs : List Loc) (ls : Array Slot), ((n - w).toNat) < fu → (i ≤ w ∧ w ≤ n - 1) → (∀ r k : Int, 0 ≤ k → k < 3 → F1 (r * 3 + k) = if i ≤ r ∧ r < w then F ((r + 1) * 3 + k) else F (r * 3 + k)) → lv_has ls 3 [(0, .ref a), (1, .int (iI i)), (2, .int (iI w))] → gW K A s.heap [gTab K a b n F1] H locs → W p l e { frames := 3, cells := 0, slots := 0, locals := 68 } s m ([.ref a, .int (iI i)] : List Value).toArray below meth c H locs 0 0 Q (F0 m 2 ls []) := by
    intro fu
    induction fu with
    | zero => intro w F1 H locs ls hfu; exact absurd hfu (Nat.not_lt_zero _)
    | succ fu ih =>
      intro w F1 H locs ls hfu hm hF1 hl hG
      refine lv_iload_n S.1 S.2.1 dX7_remove_2 rfl (lv_at hl 2 rfl) ?_
      refine g_iconst S dX7_remove_3 ?_
      refine g_iadd S dX7_remove_4 rfl ?_
      refine lv_aload_n S.1 S.2.1 dX7_remove_5 rfl (lv_at hl 0 rfl) ?_
      refine g_get S C hG iX70 0 rfl rfl 1 (by decide) (List.mem_of_getElem? (i := 1) rfl) rfl dX7_remove_6 ?_
      refine g_icmp_ge (tgt := 26) S dX7_remove_9 (by decide) (by omega) (by omega) (fun q9 => ?_) (fun q9 => ?_)
      · skip
        refine lv_aload_n S.1 S.2.1 dX7_remove_26 rfl (lv_at hl 0 rfl) ?_
        refine lv_dup S.1 S.2.1 dX7_remove_27 rfl ?_
        refine g_get S C hG iX70 0 rfl rfl 1 (by decide) (List.mem_of_getElem? (i := 1) rfl) rfl dX7_remove_28 ?_
        refine g_iconst S dX7_remove_31 ?_
        refine g_isub S dX7_remove_32 rfl ?_
        refine g_put (gs' := [gTab K a b (n - 1) F1]) S C hG iX70 tyX7 tyX7_ok nmX7 0 rfl rfl 1 (by decide) (List.mem_of_getElem? (i := 1) rfl) rfl rfl rfl (Nat.le_of_ble_eq_true rfl) rfl dX7_remove_33 (fun H locs hG => ?_)
        have hG : gW K A s.heap [gTab K a b (n - 1) F1] _ _ := hG
        exact g_vret S hr hlk hQ dX7_remove_36 (Nat.le_of_ble_eq_true rfl) (Nat.le_of_ble_eq_true rfl) ((F1) : (Int → Int)) (by intro r k hr hk; rw [hF1 r k hr hk]; (repeat' split) <;> first | rfl | omega) hG
      · skip
        refine lv_aload_n S.1 S.2.1 dX7_remove_12 rfl (lv_at hl 0 rfl) ?_
        refine lv_iload_n S.1 S.2.1 dX7_remove_13 rfl (lv_at hl 2 rfl) ?_
        refine g_iconst S dX7_remove_14 ?_
        refine g_iadd S dX7_remove_15 rfl ?_
        refine lv_iload_n S.1 S.2.1 dX7_remove_16 rfl (lv_at hl 2 rfl) ?_
        refine g_invVv (As := [.int (iI (w + 1)), .int (iI w)]) (rest := []) (gs' := (fun u : (Int → Int) => [gTab K a b n u])) S C hG [0] (c_X7_copyRow l K a b n F1 (w + 1) w (by omega) (by omega) (by omega)) rfl rfl 0 rfl rfl (cwV 2 S.2.2.2.2 gX7_remove_X7_copyRow rfl rfl rfl (by decide +kernel) ⟨Nat.le_of_ble_eq_true rfl, Nat.le_of_ble_eq_true rfl⟩) rfl hl.1 rfl (Nat.le_of_ble_eq_true rfl) dX7_remove_17 ⟨Nat.le_of_ble_eq_true rfl, Nat.le_of_ble_eq_true rfl⟩ (fun _ => Nat.le_of_ble_eq_true rfl) (fun _ => rfl) (fun u H locs hp hG => ?_)
        obtain ⟨F2_17, rfl⟩ : ∃ z, z = u := ⟨_, rfl⟩
        have hF_17 := hp
        have hF_17 : ∀ r k : Int, 0 ≤ k → k < 3 → F2_17 (r * 3 + k) = if r = w then F1 ((w + 1) * 3 + k) else F1 (r * 3 + k) := hF_17
        have hG : gW K A s.heap [gTab K a b n F2_17] _ _ := hG
        refine lv_iinc (v := iI (w + 1)) (lv' := [(2, .int (iI (w + 1))), (0, .ref a), (1, .int (iI i))]) S.1 S.2.1 dX7_remove_20 hl (k := 2) rfl (g_iinc rfl) (by decide) rfl (fun ls hl => ?_)
        refine lv_goto (tgt := 2) S.1 S.2.1 dX7_remove_23 (by decide) ?_
        exact ih (w + 1) F2_17 _ _ _ (by omega) (by omega) (by intro r k hr hk; rw [hF_17 r k hr hk]; (repeat' split) <;> first | omega | (rw [hF1 _ _ hr hk]; (repeat' split) <;> first | rfl | omega | (congr 1; omega))) (lv_sub hl [1, 2, 0] rfl) hG
  exact L2 (Nat.succ ((n - i).toNat)) i F _ _ _ (Nat.lt_succ_self _) (by omega) (by intro r k _ _; rw [if_neg (by omega)]) (lv_sub hl [1, 2, 0] rfl) hG
set_option maxHeartbeats 1000000 in
set_option maxRecDepth 100000 in
theorem c_X7_swap (l : Launch) (K : KC) (a : Nat) (b : Nat) (n : Int) (F : Int → Int) (i : Int) (o : Int) (h0 : 0 ≤ i ∧ i < 20) (h1 : 0 ≤ o ∧ o < 20) (h2 : i ≠ o) : mV l yX7_swap wsX7_swap 2 45 K [.ref a, .int (iI i), .int (iI o)] [gTab K a b n F] (fun (u : (Int → Int)) => (∀ r k : Int, 0 ≤ k → k < 3 → u (r * 3 + k) = if r = i then F (o * 3 + k) else if r = o then F (i * 3 + k) else F (r * 3 + k))) (fun (u : (Int → Int)) => [gTab K a b n u]) 0 0 := by
  refine mV_of cX7_swap 5 (by decide) rfl (Nat.le_of_ble_eq_true rfl) ?_
  intro p e s m below meth c A ls Q S C hG hl hr hlk hin hQ
  have S : CallFix p m c cX7_swap 5 s ([.ref a, .int (iI i), .int (iI o)] : List Value).toArray wsX7_swap RX7 := S
  have iX70 : ∀ w ∈ wsX70, w ∈ wsX7_swap := fun _ h => List.mem_cons_of_mem _ (List.mem_append_right _ (h))
  have hl : lv_has ls 5 [(0, .ref a), (1, .int (iI i)), (2, .int (iI o))] := hl
  have hG : gW K A s.heap [gTab K a b n F] s.heap [] := hG
  refine g_iconst S dX7_swap_0 ?_
  refine lv_istore_n (lv' := [(3, .int (iI 0)), (0, .ref a), (1, .int (iI i)), (2, .int (iI o))]) S.1 S.2.1 dX7_swap_1 rfl hl (by decide) rfl (fun ls hl => ?_)
  refine lv_iload_n S.1 S.2.1 dX7_swap_2 rfl (lv_at hl 0 rfl) ?_
  refine g_iconst S dX7_swap_3 ?_
  refine g_icmp_ge (tgt := 41) S dX7_swap_4 (by decide) (by omega) (by omega) (fun q4 => ?_) (fun q4 => ?_)
  · skip
    exact absurd q4 (by decide)
  · skip
    refine lv_aload_n S.1 S.2.1 dX7_swap_7 rfl (lv_at hl 1 rfl) ?_
    refine lv_iload_n S.1 S.2.1 dX7_swap_8 rfl (lv_at hl 2 rfl) ?_
    refine lv_iload_n S.1 S.2.1 dX7_swap_9 rfl (lv_at hl 0 rfl) ?_
    refine g_invV (As := [.int (iI i), .int (iI 0)]) (rest := []) (gs' := (fun u : Unit => [gTab K a b n F])) S C hG [0] (c_X7_get l K a b n F i 0 h0 (by omega)) rfl rfl 0 rfl rfl (cwV 2 S.2.2.2.2 gX7_swap_X7_get rfl rfl rfl (by decide +kernel) ⟨Nat.le_of_ble_eq_true rfl, Nat.le_of_ble_eq_true rfl⟩) rfl hl.1 rfl (Nat.le_of_ble_eq_true rfl) dX7_swap_10 ⟨Nat.le_of_ble_eq_true rfl, Nat.le_of_ble_eq_true rfl⟩ (fun _ => Nat.le_of_ble_eq_true rfl) (fun _ => rfl) (fun v u H locs hp hG => ?_)
    subst hp
    refine lv_istore (lv' := [(4, .int (iI (F (i * 3 + 0)))), (3, .int (iI 0)), (0, .ref a), (1, .int (iI i)), (2, .int (iI o))]) S.1 S.2.1 dX7_swap_13 hl (by decide) rfl (fun ls hl => ?_)
    refine lv_aload_n S.1 S.2.1 dX7_swap_15 rfl (lv_at hl 2 rfl) ?_
    refine lv_iload_n S.1 S.2.1 dX7_swap_16 rfl (lv_at hl 3 rfl) ?_
    refine lv_iload_n S.1 S.2.1 dX7_swap_17 rfl (lv_at hl 1 rfl) ?_
    refine lv_aload_n S.1 S.2.1 dX7_swap_18 rfl (lv_at hl 2 rfl) ?_
    refine lv_iload_n S.1 S.2.1 dX7_swap_19 rfl (lv_at hl 4 rfl) ?_
    refine lv_iload_n S.1 S.2.1 dX7_swap_20 rfl (lv_at hl 1 rfl) ?_
    refine g_invV (As := [.int (iI o), .int (iI 0)]) (rest := [.int (iI 0), .int (iI i), .ref a]) (gs' := (fun u : Unit => [gTab K a b n F])) S C hG [0] (c_X7_get l K a b n F o 0 h1 (by omega)) rfl rfl 0 rfl rfl (cwV 2 S.2.2.2.2 gX7_swap_X7_get rfl rfl rfl (by decide +kernel) ⟨Nat.le_of_ble_eq_true rfl, Nat.le_of_ble_eq_true rfl⟩) rfl hl.1 rfl (Nat.le_of_ble_eq_true rfl) dX7_swap_21 ⟨Nat.le_of_ble_eq_true rfl, Nat.le_of_ble_eq_true rfl⟩ (fun _ => Nat.le_of_ble_eq_true rfl) (fun _ => rfl) (fun v u H locs hp hG => ?_)
    subst hp
    refine g_invVv (As := [.int (iI i), .int (iI 0), .int (iI (F (o * 3 + 0)))]) (rest := []) (gs' := (fun u : Unit => [gTab K a b n (upI F (i * 3 + 0) (F (o * 3 + 0)))])) S C hG [0] (c_X7_set l K a b n F i 0 (F (o * 3 + 0)) h0 (by omega)) rfl rfl 0 rfl rfl (cwV 3 S.2.2.2.2 gX7_swap_X7_set rfl rfl rfl (by decide +kernel) ⟨Nat.le_of_ble_eq_true rfl, Nat.le_of_ble_eq_true rfl⟩) rfl hl.1 rfl (Nat.le_of_ble_eq_true rfl) dX7_swap_24 ⟨Nat.le_of_ble_eq_true rfl, Nat.le_of_ble_eq_true rfl⟩ (fun _ => Nat.le_of_ble_eq_true rfl) (fun _ => rfl) (fun u H locs hp hG => ?_)
    refine lv_aload_n S.1 S.2.1 dX7_swap_27 rfl (lv_at hl 2 rfl) ?_
    refine lv_iload_n S.1 S.2.1 dX7_swap_28 rfl (lv_at hl 4 rfl) ?_
    refine lv_iload_n S.1 S.2.1 dX7_swap_29 rfl (lv_at hl 1 rfl) ?_
    refine lv_iload S.1 S.2.1 dX7_swap_30 (lv_at hl 0 rfl) ?_
    refine g_invVv (As := [.int (iI o), .int (iI 0), .int (iI (F (i * 3 + 0)))]) (rest := []) (gs' := (fun u : Unit => [gTab K a b n (upI (upI F (i * 3 + 0) (F (o * 3 + 0))) (o * 3 + 0) (F (i * 3 + 0)))])) S C hG [0] (c_X7_set l K a b n (upI F (i * 3 + 0) (F (o * 3 + 0))) o 0 (F (i * 3 + 0)) h1 (by omega)) rfl rfl 0 rfl rfl (cwV 3 S.2.2.2.2 gX7_swap_X7_set rfl rfl rfl (by decide +kernel) ⟨Nat.le_of_ble_eq_true rfl, Nat.le_of_ble_eq_true rfl⟩) rfl hl.1 rfl (Nat.le_of_ble_eq_true rfl) dX7_swap_32 ⟨Nat.le_of_ble_eq_true rfl, Nat.le_of_ble_eq_true rfl⟩ (fun _ => Nat.le_of_ble_eq_true rfl) (fun _ => rfl) (fun u H locs hp hG => ?_)
    refine lv_iinc (v := iI 1) (lv' := [(3, .int (iI 1)), (4, .int (iI (F (i * 3 + 0)))), (0, .ref a), (1, .int (iI i)), (2, .int (iI o))]) S.1 S.2.1 dX7_swap_35 hl (k := 1) rfl (g_iinc (by decide)) (by decide) rfl (fun ls hl => ?_)
    refine lv_goto (tgt := 2) S.1 S.2.1 dX7_swap_38 (by decide) ?_
    refine lv_iload_n S.1 S.2.1 dX7_swap_2 rfl (lv_at hl 0 rfl) ?_
    refine g_iconst S dX7_swap_3 ?_
    refine g_icmp_ge (tgt := 41) S dX7_swap_4 (by decide) (by omega) (by omega) (fun q4 => ?_) (fun q4 => ?_)
    · skip
      exact absurd q4 (by decide)
    · skip
      refine lv_aload_n S.1 S.2.1 dX7_swap_7 rfl (lv_at hl 2 rfl) ?_
      refine lv_iload_n S.1 S.2.1 dX7_swap_8 rfl (lv_at hl 3 rfl) ?_
      refine lv_iload_n S.1 S.2.1 dX7_swap_9 rfl (lv_at hl 0 rfl) ?_
      refine g_invV (As := [.int (iI i), .int (iI 1)]) (rest := []) (gs' := (fun u : Unit => [gTab K a b n (upI (upI F (i * 3 + 0) (F (o * 3 + 0))) (o * 3 + 0) (F (i * 3 + 0)))])) S C hG [0] (c_X7_get l K a b n (upI (upI F (i * 3 + 0) (F (o * 3 + 0))) (o * 3 + 0) (F (i * 3 + 0))) i 1 h0 (by omega)) rfl rfl 0 rfl rfl (cwV 2 S.2.2.2.2 gX7_swap_X7_get rfl rfl rfl (by decide +kernel) ⟨Nat.le_of_ble_eq_true rfl, Nat.le_of_ble_eq_true rfl⟩) rfl hl.1 rfl (Nat.le_of_ble_eq_true rfl) dX7_swap_10 ⟨Nat.le_of_ble_eq_true rfl, Nat.le_of_ble_eq_true rfl⟩ (fun _ => Nat.le_of_ble_eq_true rfl) (fun _ => rfl) (fun v u H locs hp hG => ?_)
      subst hp
      refine lv_istore (lv' := [(4, .int (iI ((upI (upI F (i * 3 + 0) (F (o * 3 + 0))) (o * 3 + 0) (F (i * 3 + 0))) (i * 3 + 1)))), (3, .int (iI 1)), (0, .ref a), (1, .int (iI i)), (2, .int (iI o))]) S.1 S.2.1 dX7_swap_13 hl (by decide) rfl (fun ls hl => ?_)
      refine lv_aload_n S.1 S.2.1 dX7_swap_15 rfl (lv_at hl 2 rfl) ?_
      refine lv_iload_n S.1 S.2.1 dX7_swap_16 rfl (lv_at hl 3 rfl) ?_
      refine lv_iload_n S.1 S.2.1 dX7_swap_17 rfl (lv_at hl 1 rfl) ?_
      refine lv_aload_n S.1 S.2.1 dX7_swap_18 rfl (lv_at hl 2 rfl) ?_
      refine lv_iload_n S.1 S.2.1 dX7_swap_19 rfl (lv_at hl 4 rfl) ?_
      refine lv_iload_n S.1 S.2.1 dX7_swap_20 rfl (lv_at hl 1 rfl) ?_
      refine g_invV (As := [.int (iI o), .int (iI 1)]) (rest := [.int (iI 1), .int (iI i), .ref a]) (gs' := (fun u : Unit => [gTab K a b n (upI (upI F (i * 3 + 0) (F (o * 3 + 0))) (o * 3 + 0) (F (i * 3 + 0)))])) S C hG [0] (c_X7_get l K a b n (upI (upI F (i * 3 + 0) (F (o * 3 + 0))) (o * 3 + 0) (F (i * 3 + 0))) o 1 h1 (by omega)) rfl rfl 0 rfl rfl (cwV 2 S.2.2.2.2 gX7_swap_X7_get rfl rfl rfl (by decide +kernel) ⟨Nat.le_of_ble_eq_true rfl, Nat.le_of_ble_eq_true rfl⟩) rfl hl.1 rfl (Nat.le_of_ble_eq_true rfl) dX7_swap_21 ⟨Nat.le_of_ble_eq_true rfl, Nat.le_of_ble_eq_true rfl⟩ (fun _ => Nat.le_of_ble_eq_true rfl) (fun _ => rfl) (fun v u H locs hp hG => ?_)
      subst hp
      refine g_invVv (As := [.int (iI i), .int (iI 1), .int (iI ((upI (upI F (i * 3 + 0) (F (o * 3 + 0))) (o * 3 + 0) (F (i * 3 + 0))) (o * 3 + 1)))]) (rest := []) (gs' := (fun u : Unit => [gTab K a b n (upI (upI (upI F (i * 3 + 0) (F (o * 3 + 0))) (o * 3 + 0) (F (i * 3 + 0))) (i * 3 + 1) ((upI (upI F (i * 3 + 0) (F (o * 3 + 0))) (o * 3 + 0) (F (i * 3 + 0))) (o * 3 + 1)))])) S C hG [0] (c_X7_set l K a b n (upI (upI F (i * 3 + 0) (F (o * 3 + 0))) (o * 3 + 0) (F (i * 3 + 0))) i 1 ((upI (upI F (i * 3 + 0) (F (o * 3 + 0))) (o * 3 + 0) (F (i * 3 + 0))) (o * 3 + 1)) h0 (by omega)) rfl rfl 0 rfl rfl (cwV 3 S.2.2.2.2 gX7_swap_X7_set rfl rfl rfl (by decide +kernel) ⟨Nat.le_of_ble_eq_true rfl, Nat.le_of_ble_eq_true rfl⟩) rfl hl.1 rfl (Nat.le_of_ble_eq_true rfl) dX7_swap_24 ⟨Nat.le_of_ble_eq_true rfl, Nat.le_of_ble_eq_true rfl⟩ (fun _ => Nat.le_of_ble_eq_true rfl) (fun _ => rfl) (fun u H locs hp hG => ?_)
      refine lv_aload_n S.1 S.2.1 dX7_swap_27 rfl (lv_at hl 2 rfl) ?_
      refine lv_iload_n S.1 S.2.1 dX7_swap_28 rfl (lv_at hl 4 rfl) ?_
      refine lv_iload_n S.1 S.2.1 dX7_swap_29 rfl (lv_at hl 1 rfl) ?_
      refine lv_iload S.1 S.2.1 dX7_swap_30 (lv_at hl 0 rfl) ?_
      refine g_invVv (As := [.int (iI o), .int (iI 1), .int (iI ((upI (upI F (i * 3 + 0) (F (o * 3 + 0))) (o * 3 + 0) (F (i * 3 + 0))) (i * 3 + 1)))]) (rest := []) (gs' := (fun u : Unit => [gTab K a b n (upI (upI (upI (upI F (i * 3 + 0) (F (o * 3 + 0))) (o * 3 + 0) (F (i * 3 + 0))) (i * 3 + 1) ((upI (upI F (i * 3 + 0) (F (o * 3 + 0))) (o * 3 + 0) (F (i * 3 + 0))) (o * 3 + 1))) (o * 3 + 1) ((upI (upI F (i * 3 + 0) (F (o * 3 + 0))) (o * 3 + 0) (F (i * 3 + 0))) (i * 3 + 1)))])) S C hG [0] (c_X7_set l K a b n (upI (upI (upI F (i * 3 + 0) (F (o * 3 + 0))) (o * 3 + 0) (F (i * 3 + 0))) (i * 3 + 1) ((upI (upI F (i * 3 + 0) (F (o * 3 + 0))) (o * 3 + 0) (F (i * 3 + 0))) (o * 3 + 1))) o 1 ((upI (upI F (i * 3 + 0) (F (o * 3 + 0))) (o * 3 + 0) (F (i * 3 + 0))) (i * 3 + 1)) h1 (by omega)) rfl rfl 0 rfl rfl (cwV 3 S.2.2.2.2 gX7_swap_X7_set rfl rfl rfl (by decide +kernel) ⟨Nat.le_of_ble_eq_true rfl, Nat.le_of_ble_eq_true rfl⟩) rfl hl.1 rfl (Nat.le_of_ble_eq_true rfl) dX7_swap_32 ⟨Nat.le_of_ble_eq_true rfl, Nat.le_of_ble_eq_true rfl⟩ (fun _ => Nat.le_of_ble_eq_true rfl) (fun _ => rfl) (fun u H locs hp hG => ?_)
      refine lv_iinc (v := iI 2) (lv' := [(3, .int (iI 2)), (4, .int (iI ((upI (upI F (i * 3 + 0) (F (o * 3 + 0))) (o * 3 + 0) (F (i * 3 + 0))) (i * 3 + 1)))), (0, .ref a), (1, .int (iI i)), (2, .int (iI o))]) S.1 S.2.1 dX7_swap_35 hl (k := 1) rfl (g_iinc (by decide)) (by decide) rfl (fun ls hl => ?_)
      refine lv_goto (tgt := 2) S.1 S.2.1 dX7_swap_38 (by decide) ?_
      refine lv_iload_n S.1 S.2.1 dX7_swap_2 rfl (lv_at hl 0 rfl) ?_
      refine g_iconst S dX7_swap_3 ?_
      refine g_icmp_ge (tgt := 41) S dX7_swap_4 (by decide) (by omega) (by omega) (fun q4 => ?_) (fun q4 => ?_)
      · skip
        exact absurd q4 (by decide)
      · skip
        refine lv_aload_n S.1 S.2.1 dX7_swap_7 rfl (lv_at hl 2 rfl) ?_
        refine lv_iload_n S.1 S.2.1 dX7_swap_8 rfl (lv_at hl 3 rfl) ?_
        refine lv_iload_n S.1 S.2.1 dX7_swap_9 rfl (lv_at hl 0 rfl) ?_
        refine g_invV (As := [.int (iI i), .int (iI 2)]) (rest := []) (gs' := (fun u : Unit => [gTab K a b n (upI (upI (upI (upI F (i * 3 + 0) (F (o * 3 + 0))) (o * 3 + 0) (F (i * 3 + 0))) (i * 3 + 1) ((upI (upI F (i * 3 + 0) (F (o * 3 + 0))) (o * 3 + 0) (F (i * 3 + 0))) (o * 3 + 1))) (o * 3 + 1) ((upI (upI F (i * 3 + 0) (F (o * 3 + 0))) (o * 3 + 0) (F (i * 3 + 0))) (i * 3 + 1)))])) S C hG [0] (c_X7_get l K a b n (upI (upI (upI (upI F (i * 3 + 0) (F (o * 3 + 0))) (o * 3 + 0) (F (i * 3 + 0))) (i * 3 + 1) ((upI (upI F (i * 3 + 0) (F (o * 3 + 0))) (o * 3 + 0) (F (i * 3 + 0))) (o * 3 + 1))) (o * 3 + 1) ((upI (upI F (i * 3 + 0) (F (o * 3 + 0))) (o * 3 + 0) (F (i * 3 + 0))) (i * 3 + 1))) i 2 h0 (by omega)) rfl rfl 0 rfl rfl (cwV 2 S.2.2.2.2 gX7_swap_X7_get rfl rfl rfl (by decide +kernel) ⟨Nat.le_of_ble_eq_true rfl, Nat.le_of_ble_eq_true rfl⟩) rfl hl.1 rfl (Nat.le_of_ble_eq_true rfl) dX7_swap_10 ⟨Nat.le_of_ble_eq_true rfl, Nat.le_of_ble_eq_true rfl⟩ (fun _ => Nat.le_of_ble_eq_true rfl) (fun _ => rfl) (fun v u H locs hp hG => ?_)
        subst hp
        refine lv_istore (lv' := [(4, .int (iI ((upI (upI (upI (upI F (i * 3 + 0) (F (o * 3 + 0))) (o * 3 + 0) (F (i * 3 + 0))) (i * 3 + 1) ((upI (upI F (i * 3 + 0) (F (o * 3 + 0))) (o * 3 + 0) (F (i * 3 + 0))) (o * 3 + 1))) (o * 3 + 1) ((upI (upI F (i * 3 + 0) (F (o * 3 + 0))) (o * 3 + 0) (F (i * 3 + 0))) (i * 3 + 1))) (i * 3 + 2)))), (3, .int (iI 2)), (0, .ref a), (1, .int (iI i)), (2, .int (iI o))]) S.1 S.2.1 dX7_swap_13 hl (by decide) rfl (fun ls hl => ?_)
        refine lv_aload_n S.1 S.2.1 dX7_swap_15 rfl (lv_at hl 2 rfl) ?_
        refine lv_iload_n S.1 S.2.1 dX7_swap_16 rfl (lv_at hl 3 rfl) ?_
        refine lv_iload_n S.1 S.2.1 dX7_swap_17 rfl (lv_at hl 1 rfl) ?_
        refine lv_aload_n S.1 S.2.1 dX7_swap_18 rfl (lv_at hl 2 rfl) ?_
        refine lv_iload_n S.1 S.2.1 dX7_swap_19 rfl (lv_at hl 4 rfl) ?_
        refine lv_iload_n S.1 S.2.1 dX7_swap_20 rfl (lv_at hl 1 rfl) ?_
        refine g_invV (As := [.int (iI o), .int (iI 2)]) (rest := [.int (iI 2), .int (iI i), .ref a]) (gs' := (fun u : Unit => [gTab K a b n (upI (upI (upI (upI F (i * 3 + 0) (F (o * 3 + 0))) (o * 3 + 0) (F (i * 3 + 0))) (i * 3 + 1) ((upI (upI F (i * 3 + 0) (F (o * 3 + 0))) (o * 3 + 0) (F (i * 3 + 0))) (o * 3 + 1))) (o * 3 + 1) ((upI (upI F (i * 3 + 0) (F (o * 3 + 0))) (o * 3 + 0) (F (i * 3 + 0))) (i * 3 + 1)))])) S C hG [0] (c_X7_get l K a b n (upI (upI (upI (upI F (i * 3 + 0) (F (o * 3 + 0))) (o * 3 + 0) (F (i * 3 + 0))) (i * 3 + 1) ((upI (upI F (i * 3 + 0) (F (o * 3 + 0))) (o * 3 + 0) (F (i * 3 + 0))) (o * 3 + 1))) (o * 3 + 1) ((upI (upI F (i * 3 + 0) (F (o * 3 + 0))) (o * 3 + 0) (F (i * 3 + 0))) (i * 3 + 1))) o 2 h1 (by omega)) rfl rfl 0 rfl rfl (cwV 2 S.2.2.2.2 gX7_swap_X7_get rfl rfl rfl (by decide +kernel) ⟨Nat.le_of_ble_eq_true rfl, Nat.le_of_ble_eq_true rfl⟩) rfl hl.1 rfl (Nat.le_of_ble_eq_true rfl) dX7_swap_21 ⟨Nat.le_of_ble_eq_true rfl, Nat.le_of_ble_eq_true rfl⟩ (fun _ => Nat.le_of_ble_eq_true rfl) (fun _ => rfl) (fun v u H locs hp hG => ?_)
        subst hp
        refine g_invVv (As := [.int (iI i), .int (iI 2), .int (iI ((upI (upI (upI (upI F (i * 3 + 0) (F (o * 3 + 0))) (o * 3 + 0) (F (i * 3 + 0))) (i * 3 + 1) ((upI (upI F (i * 3 + 0) (F (o * 3 + 0))) (o * 3 + 0) (F (i * 3 + 0))) (o * 3 + 1))) (o * 3 + 1) ((upI (upI F (i * 3 + 0) (F (o * 3 + 0))) (o * 3 + 0) (F (i * 3 + 0))) (i * 3 + 1))) (o * 3 + 2)))]) (rest := []) (gs' := (fun u : Unit => [gTab K a b n (upI (upI (upI (upI (upI F (i * 3 + 0) (F (o * 3 + 0))) (o * 3 + 0) (F (i * 3 + 0))) (i * 3 + 1) ((upI (upI F (i * 3 + 0) (F (o * 3 + 0))) (o * 3 + 0) (F (i * 3 + 0))) (o * 3 + 1))) (o * 3 + 1) ((upI (upI F (i * 3 + 0) (F (o * 3 + 0))) (o * 3 + 0) (F (i * 3 + 0))) (i * 3 + 1))) (i * 3 + 2) ((upI (upI (upI (upI F (i * 3 + 0) (F (o * 3 + 0))) (o * 3 + 0) (F (i * 3 + 0))) (i * 3 + 1) ((upI (upI F (i * 3 + 0) (F (o * 3 + 0))) (o * 3 + 0) (F (i * 3 + 0))) (o * 3 + 1))) (o * 3 + 1) ((upI (upI F (i * 3 + 0) (F (o * 3 + 0))) (o * 3 + 0) (F (i * 3 + 0))) (i * 3 + 1))) (o * 3 + 2)))])) S C hG [0] (c_X7_set l K a b n (upI (upI (upI (upI F (i * 3 + 0) (F (o * 3 + 0))) (o * 3 + 0) (F (i * 3 + 0))) (i * 3 + 1) ((upI (upI F (i * 3 + 0) (F (o * 3 + 0))) (o * 3 + 0) (F (i * 3 + 0))) (o * 3 + 1))) (o * 3 + 1) ((upI (upI F (i * 3 + 0) (F (o * 3 + 0))) (o * 3 + 0) (F (i * 3 + 0))) (i * 3 + 1))) i 2 ((upI (upI (upI (upI F (i * 3 + 0) (F (o * 3 + 0))) (o * 3 + 0) (F (i * 3 + 0))) (i * 3 + 1) ((upI (upI F (i * 3 + 0) (F (o * 3 + 0))) (o * 3 + 0) (F (i * 3 + 0))) (o * 3 + 1))) (o * 3 + 1) ((upI (upI F (i * 3 + 0) (F (o * 3 + 0))) (o * 3 + 0) (F (i * 3 + 0))) (i * 3 + 1))) (o * 3 + 2)) h0 (by omega)) rfl rfl 0 rfl rfl (cwV 3 S.2.2.2.2 gX7_swap_X7_set rfl rfl rfl (by decide +kernel) ⟨Nat.le_of_ble_eq_true rfl, Nat.le_of_ble_eq_true rfl⟩) rfl hl.1 rfl (Nat.le_of_ble_eq_true rfl) dX7_swap_24 ⟨Nat.le_of_ble_eq_true rfl, Nat.le_of_ble_eq_true rfl⟩ (fun _ => Nat.le_of_ble_eq_true rfl) (fun _ => rfl) (fun u H locs hp hG => ?_)
        refine lv_aload_n S.1 S.2.1 dX7_swap_27 rfl (lv_at hl 2 rfl) ?_
        refine lv_iload_n S.1 S.2.1 dX7_swap_28 rfl (lv_at hl 4 rfl) ?_
        refine lv_iload_n S.1 S.2.1 dX7_swap_29 rfl (lv_at hl 1 rfl) ?_
        refine lv_iload S.1 S.2.1 dX7_swap_30 (lv_at hl 0 rfl) ?_
        refine g_invVv (As := [.int (iI o), .int (iI 2), .int (iI ((upI (upI (upI (upI F (i * 3 + 0) (F (o * 3 + 0))) (o * 3 + 0) (F (i * 3 + 0))) (i * 3 + 1) ((upI (upI F (i * 3 + 0) (F (o * 3 + 0))) (o * 3 + 0) (F (i * 3 + 0))) (o * 3 + 1))) (o * 3 + 1) ((upI (upI F (i * 3 + 0) (F (o * 3 + 0))) (o * 3 + 0) (F (i * 3 + 0))) (i * 3 + 1))) (i * 3 + 2)))]) (rest := []) (gs' := (fun u : Unit => [gTab K a b n (upI (upI (upI (upI (upI (upI F (i * 3 + 0) (F (o * 3 + 0))) (o * 3 + 0) (F (i * 3 + 0))) (i * 3 + 1) ((upI (upI F (i * 3 + 0) (F (o * 3 + 0))) (o * 3 + 0) (F (i * 3 + 0))) (o * 3 + 1))) (o * 3 + 1) ((upI (upI F (i * 3 + 0) (F (o * 3 + 0))) (o * 3 + 0) (F (i * 3 + 0))) (i * 3 + 1))) (i * 3 + 2) ((upI (upI (upI (upI F (i * 3 + 0) (F (o * 3 + 0))) (o * 3 + 0) (F (i * 3 + 0))) (i * 3 + 1) ((upI (upI F (i * 3 + 0) (F (o * 3 + 0))) (o * 3 + 0) (F (i * 3 + 0))) (o * 3 + 1))) (o * 3 + 1) ((upI (upI F (i * 3 + 0) (F (o * 3 + 0))) (o * 3 + 0) (F (i * 3 + 0))) (i * 3 + 1))) (o * 3 + 2))) (o * 3 + 2) ((upI (upI (upI (upI F (i * 3 + 0) (F (o * 3 + 0))) (o * 3 + 0) (F (i * 3 + 0))) (i * 3 + 1) ((upI (upI F (i * 3 + 0) (F (o * 3 + 0))) (o * 3 + 0) (F (i * 3 + 0))) (o * 3 + 1))) (o * 3 + 1) ((upI (upI F (i * 3 + 0) (F (o * 3 + 0))) (o * 3 + 0) (F (i * 3 + 0))) (i * 3 + 1))) (i * 3 + 2)))])) S C hG [0] (c_X7_set l K a b n (upI (upI (upI (upI (upI F (i * 3 + 0) (F (o * 3 + 0))) (o * 3 + 0) (F (i * 3 + 0))) (i * 3 + 1) ((upI (upI F (i * 3 + 0) (F (o * 3 + 0))) (o * 3 + 0) (F (i * 3 + 0))) (o * 3 + 1))) (o * 3 + 1) ((upI (upI F (i * 3 + 0) (F (o * 3 + 0))) (o * 3 + 0) (F (i * 3 + 0))) (i * 3 + 1))) (i * 3 + 2) ((upI (upI (upI (upI F (i * 3 + 0) (F (o * 3 + 0))) (o * 3 + 0) (F (i * 3 + 0))) (i * 3 + 1) ((upI (upI F (i * 3 + 0) (F (o * 3 + 0))) (o * 3 + 0) (F (i * 3 + 0))) (o * 3 + 1))) (o * 3 + 1) ((upI (upI F (i * 3 + 0) (F (o * 3 + 0))) (o * 3 + 0) (F (i * 3 + 0))) (i * 3 + 1))) (o * 3 + 2))) o 2 ((upI (upI (upI (upI F (i * 3 + 0) (F (o * 3 + 0))) (o * 3 + 0) (F (i * 3 + 0))) (i * 3 + 1) ((upI (upI F (i * 3 + 0) (F (o * 3 + 0))) (o * 3 + 0) (F (i * 3 + 0))) (o * 3 + 1))) (o * 3 + 1) ((upI (upI F (i * 3 + 0) (F (o * 3 + 0))) (o * 3 + 0) (F (i * 3 + 0))) (i * 3 + 1))) (i * 3 + 2)) h1 (by omega)) rfl rfl 0 rfl rfl (cwV 3 S.2.2.2.2 gX7_swap_X7_set rfl rfl rfl (by decide +kernel) ⟨Nat.le_of_ble_eq_true rfl, Nat.le_of_ble_eq_true rfl⟩) rfl hl.1 rfl (Nat.le_of_ble_eq_true rfl) dX7_swap_32 ⟨Nat.le_of_ble_eq_true rfl, Nat.le_of_ble_eq_true rfl⟩ (fun _ => Nat.le_of_ble_eq_true rfl) (fun _ => rfl) (fun u H locs hp hG => ?_)
        refine lv_iinc (v := iI 3) (lv' := [(3, .int (iI 3)), (4, .int (iI ((upI (upI (upI (upI F (i * 3 + 0) (F (o * 3 + 0))) (o * 3 + 0) (F (i * 3 + 0))) (i * 3 + 1) ((upI (upI F (i * 3 + 0) (F (o * 3 + 0))) (o * 3 + 0) (F (i * 3 + 0))) (o * 3 + 1))) (o * 3 + 1) ((upI (upI F (i * 3 + 0) (F (o * 3 + 0))) (o * 3 + 0) (F (i * 3 + 0))) (i * 3 + 1))) (i * 3 + 2)))), (0, .ref a), (1, .int (iI i)), (2, .int (iI o))]) S.1 S.2.1 dX7_swap_35 hl (k := 1) rfl (g_iinc (by decide)) (by decide) rfl (fun ls hl => ?_)
        refine lv_goto (tgt := 2) S.1 S.2.1 dX7_swap_38 (by decide) ?_
        refine lv_iload_n S.1 S.2.1 dX7_swap_2 rfl (lv_at hl 0 rfl) ?_
        refine g_iconst S dX7_swap_3 ?_
        refine g_icmp_ge (tgt := 41) S dX7_swap_4 (by decide) (by omega) (by omega) (fun q4 => ?_) (fun q4 => ?_)
        · skip
          have hG : gW K A s.heap [gTab K a b n (upI (upI (upI (upI (upI (upI F (i * 3 + 0) (F (o * 3 + 0))) (o * 3 + 0) (F (i * 3 + 0))) (i * 3 + 1) ((upI (upI F (i * 3 + 0) (F (o * 3 + 0))) (o * 3 + 0) (F (i * 3 + 0))) (o * 3 + 1))) (o * 3 + 1) ((upI (upI F (i * 3 + 0) (F (o * 3 + 0))) (o * 3 + 0) (F (i * 3 + 0))) (i * 3 + 1))) (i * 3 + 2) ((upI (upI (upI (upI F (i * 3 + 0) (F (o * 3 + 0))) (o * 3 + 0) (F (i * 3 + 0))) (i * 3 + 1) ((upI (upI F (i * 3 + 0) (F (o * 3 + 0))) (o * 3 + 0) (F (i * 3 + 0))) (o * 3 + 1))) (o * 3 + 1) ((upI (upI F (i * 3 + 0) (F (o * 3 + 0))) (o * 3 + 0) (F (i * 3 + 0))) (i * 3 + 1))) (o * 3 + 2))) (o * 3 + 2) ((upI (upI (upI (upI F (i * 3 + 0) (F (o * 3 + 0))) (o * 3 + 0) (F (i * 3 + 0))) (i * 3 + 1) ((upI (upI F (i * 3 + 0) (F (o * 3 + 0))) (o * 3 + 0) (F (i * 3 + 0))) (o * 3 + 1))) (o * 3 + 1) ((upI (upI F (i * 3 + 0) (F (o * 3 + 0))) (o * 3 + 0) (F (i * 3 + 0))) (i * 3 + 1))) (i * 3 + 2)))] _ _ := hG
          exact g_vret S hr hlk hQ dX7_swap_41 (Nat.le_of_ble_eq_true rfl) (Nat.le_of_ble_eq_true rfl) (((upI (upI (upI (upI (upI (upI F (i * 3 + 0) (F (o * 3 + 0))) (o * 3 + 0) (F (i * 3 + 0))) (i * 3 + 1) ((upI (upI F (i * 3 + 0) (F (o * 3 + 0))) (o * 3 + 0) (F (i * 3 + 0))) (o * 3 + 1))) (o * 3 + 1) ((upI (upI F (i * 3 + 0) (F (o * 3 + 0))) (o * 3 + 0) (F (i * 3 + 0))) (i * 3 + 1))) (i * 3 + 2) ((upI (upI (upI (upI F (i * 3 + 0) (F (o * 3 + 0))) (o * 3 + 0) (F (i * 3 + 0))) (i * 3 + 1) ((upI (upI F (i * 3 + 0) (F (o * 3 + 0))) (o * 3 + 0) (F (i * 3 + 0))) (o * 3 + 1))) (o * 3 + 1) ((upI (upI F (i * 3 + 0) (F (o * 3 + 0))) (o * 3 + 0) (F (i * 3 + 0))) (i * 3 + 1))) (o * 3 + 2))) (o * 3 + 2) ((upI (upI (upI (upI F (i * 3 + 0) (F (o * 3 + 0))) (o * 3 + 0) (F (i * 3 + 0))) (i * 3 + 1) ((upI (upI F (i * 3 + 0) (F (o * 3 + 0))) (o * 3 + 0) (F (i * 3 + 0))) (o * 3 + 1))) (o * 3 + 1) ((upI (upI F (i * 3 + 0) (F (o * 3 + 0))) (o * 3 + 0) (F (i * 3 + 0))) (i * 3 + 1))) (i * 3 + 2)))) : (Int → Int)) (by intro r k hr hk; simp only [upI]; (repeat' split) <;> first | rfl | omega | (congr 1; omega)) hG
        · skip
          exact absurd q4 (by decide)
set_option maxHeartbeats 1000000 in
set_option maxRecDepth 100000 in
theorem c_X7_become (l : Launch) (K : KC) (a : Nat) (b : Nat) (n : Int) (F : Int → Int) (a2 : Nat) (b2 : Nat) (n2 : Int) (F2 : Int → Int) : mV l yX7_become wsX7_become 1 60 K [.ref a, .ref a2] [gTab K a b n F, gTab K a2 b2 n2 F2] (fun (u : Unit) => True) (fun (u : Unit) => [gTab K a b n2 (cpyI F2 F 60), gTab K a2 b2 n2 F2]) 0 0 := by
  refine mV_of cX7_become 2 (by decide) rfl (Nat.le_of_ble_eq_true rfl) ?_
  intro p e s m below meth c A ls Q S C hG hl hr hlk hin hQ
  have S : CallFix p m c cX7_become 2 s ([.ref a, .ref a2] : List Value).toArray wsX7_become RX7 := S
  have iX70 : ∀ w ∈ wsX70, w ∈ wsX7_become := fun _ h => List.mem_cons_of_mem _ (List.mem_append_right _ (h))
  have hl : lv_has ls 2 [(0, .ref a), (1, .ref a2)] := hl
  have hG : gW K A s.heap [gTab K a b n F, gTab K a2 b2 n2 F2] s.heap [] := hG
  refine lv_aload_n S.1 S.2.1 dX7_become_0 rfl (lv_at hl 1 rfl) ?_
  refine g_get S C hG iX70 2 rfl rfl 0 (by decide) (List.mem_of_getElem? (i := 1) rfl) rfl dX7_become_1 ?_
  refine g_iconst S dX7_become_4 ?_
  refine lv_aload_n S.1 S.2.1 dX7_become_5 rfl (lv_at hl 0 rfl) ?_
  refine g_get S C hG iX70 0 rfl rfl 0 (by decide) (List.mem_of_getElem? (i := 1) rfl) rfl dX7_become_6 ?_
  refine g_iconst S dX7_become_9 ?_
  refine lv_aload_n S.1 S.2.1 dX7_become_10 rfl (lv_at hl 1 rfl) ?_
  refine g_get S C hG iX70 2 rfl rfl 0 (by decide) (List.mem_of_getElem? (i := 1) rfl) rfl dX7_become_11 ?_
  refine g_alen (z := 60) S C hG 3 0 rfl rfl rfl dX7_become_14 ?_
  refine lv_aload_n S.1 S.2.1 dX7_become_15 rfl (lv_at hl 0 rfl) ?_
  refine g_get S C hG iX70 0 rfl rfl 0 (by decide) (List.mem_of_getElem? (i := 1) rfl) rfl dX7_become_16 ?_
  refine g_alen (z := 60) S C hG 1 0 rfl rfl rfl dX7_become_19 ?_
  refine va_mmin S.1 S.2.1 (by rw [S.2.2.1]; exact hl.1.symm) S.2.2.2.1 (S.2.2.2.2 _ (List.mem_of_getElem? (i := 2) rfl)) (S.2.2.2.2 _ (List.mem_of_getElem? (i := 3) rfl)) (S.2.2.2.2 _ (List.mem_of_getElem? (i := 4) rfl)) (S.2.2.2.2 _ (List.mem_of_getElem? (i := 5) rfl)) (Nat.le_of_ble_eq_true rfl) (Nat.le_of_ble_eq_true rfl) (Nat.le_of_ble_eq_true rfl) (Nat.le_of_ble_eq_true rfl) dX7_become_20 ?_
  refine g_top (w := .int (iI (min 60 60))) (imin_eq (by omega) (by omega)) ?_
  refine g_top (w := .int (iI 60)) rfl ?_
  refine g_acopy (gs' := [gTab K a b n (cpyI F2 F 60), gTab K a2 b2 n2 F2]) S C hG hl.1 (List.mem_of_getElem? (i := 6) rfl) (List.mem_of_getElem? (i := 7) rfl) (List.mem_of_getElem? (i := 8) rfl) (List.mem_of_getElem? (i := 9) rfl) 3 1 rfl rfl 60 (by decide) (by decide) (by decide) (Nat.le_of_ble_eq_true rfl) (Nat.le_of_ble_eq_true rfl) rfl dX7_become_23 (fun H locs hG => ?_)
  refine lv_aload_n S.1 S.2.1 dX7_become_26 rfl (lv_at hl 0 rfl) ?_
  refine lv_aload_n S.1 S.2.1 dX7_become_27 rfl (lv_at hl 1 rfl) ?_
  refine g_get S C hG iX70 2 rfl rfl 1 (by decide) (List.mem_of_getElem? (i := 10) rfl) rfl dX7_become_28 ?_
  refine g_put (gs' := [gTab K a b n2 (cpyI F2 F 60), gTab K a2 b2 n2 F2]) S C hG iX70 tyX7 tyX7_ok nmX7 0 rfl rfl 1 (by decide) (List.mem_of_getElem? (i := 10) rfl) rfl rfl rfl (Nat.le_of_ble_eq_true rfl) rfl dX7_become_31 (fun H locs hG => ?_)
  have hG : gW K A s.heap [gTab K a b n2 (cpyI F2 F 60), gTab K a2 b2 n2 F2] _ _ := hG
  exact g_vret S hr hlk hQ dX7_become_34 (Nat.le_of_ble_eq_true rfl) (Nat.le_of_ble_eq_true rfl) (() : Unit) trivial hG
