set_option maxHeartbeats 1000000 in
set_option maxRecDepth 100000 in
theorem c_L_draw (l : Launch) (K : KC) (k : Int) (n : Int) (h0 : 0 ≤ k ∧ k ≤ 1000) (h1 : 1 ≤ n ∧ n ≤ 1000000) : mG l yL_draw wsL_draw 0 0 K [.ref (K.2.2.2.2 42), .int (iI k), .int (iI n)] [] (fun (v : Value) (u : Unit) => (v = .int (iI (drwN K k n)))) (fun (u : Unit) => []) 0 0 := by
  refine mG_of cL_draw 3 (by decide) rfl (Nat.le_of_ble_eq_true rfl) ?_
  intro p e s m below meth c A ls Q S C hG hl hr hlk hin hQ
  have S : CallFix p m c cL_draw 3 s ([.ref (K.2.2.2.2 42), .int (iI k), .int (iI n)] : List Value).toArray wsL_draw RL := S
  have hl : lv_has ls 3 [(0, .ref (K.2.2.2.2 42)), (1, .int (iI k)), (2, .int (iI n))] := hl
  have hG : gW K A s.heap [] s.heap [] := hG
  have hL9 : K.2.2.2.2 43 ≤ 260 := C.1.2.2.2.2.1.2.1.1.2.2.1
  have hL8 : 0 ≤ scrL K ∧ scrL K ≤ 260 := by unfold scrL; omega
  have h31 := and31_bd (scrN K k)
  refine lv_iload_n S.1 S.2.1 dL_draw_0 rfl (lv_at hl 1 rfl) ?_
  refine lv_aload_n S.1 S.2.1 dL_draw_1 rfl (lv_at hl 0 rfl) ?_
  refine g_slen S C hG dL_draw_2 ?_
  refine g_icmp_ge (tgt := 12) S dL_draw_3 (by decide) (by omega) (by omega) (fun q3 => ?_) (fun q3 => ?_)
  · skip
    refine g_iconst S dL_draw_12 ?_
    refine g_ldc (z := 2147483647) S dL_draw_13 (List.mem_of_getElem? (i := 1) rfl) rfl ?_
    refine lv_iand (x := iI 0) (y := iI 2147483647) S.1 S.2.1 dL_draw_15 ?_
    refine g_top (w := .int (iI 0)) rfl ?_
    refine lv_iload_n S.1 S.2.1 dL_draw_16 rfl (lv_at hl 2 rfl) ?_
    refine g_irem S dL_draw_17 (by omega) (by omega) rfl ?_
    have hG : gW K A s.heap [] _ _ := hG
    exact g_iret S hr hlk hQ dL_draw_18 (Nat.le_of_ble_eq_true rfl) (Nat.le_of_ble_eq_true rfl) (() : Unit) (congrArg (fun z : Int => Value.int (iI z)) (by unfold drwN; rw [if_neg (by omega)])) hG
  · skip
    refine lv_aload_n S.1 S.2.1 dL_draw_6 rfl (lv_at hl 0 rfl) ?_
    refine lv_iload_n S.1 S.2.1 dL_draw_7 rfl (lv_at hl 1 rfl) ?_
    refine g_sald (z := k) S C hG (by omega) (by omega) dL_draw_8 ?_
    refine lv_goto (tgt := 13) S.1 S.2.1 dL_draw_9 (by decide) ?_
    refine g_ldc (z := 2147483647) S dL_draw_13 (List.mem_of_getElem? (i := 1) rfl) rfl ?_
    refine lv_iand (x := scrN K k) (y := iI 2147483647) S.1 S.2.1 dL_draw_15 ?_
    refine g_top (w := .int (iI (and31 (scrN K k)))) (congrArg Value.int (and31_e _)) ?_
    refine lv_iload_n S.1 S.2.1 dL_draw_16 rfl (lv_at hl 2 rfl) ?_
    refine g_irem S dL_draw_17 (by omega) (by omega) rfl ?_
    have hG : gW K A s.heap [] _ _ := hG
    exact g_iret S hr hlk hQ dL_draw_18 (Nat.le_of_ble_eq_true rfl) (Nat.le_of_ble_eq_true rfl) (() : Unit) (congrArg (fun z : Int => Value.int (iI z)) (by unfold drwN; rw [if_pos (by omega)])) hG

set_option maxHeartbeats 1000000 in
set_option maxRecDepth 100000 in
theorem c_L_index (l : Launch) (K : KC) (k : Int) (h0 : 0 ≤ k ∧ k ≤ 900) : mG l yL_index wsL_index 1 22 K [.ref (K.2.2.2.2 42), .int (iI k)] [] (fun (v : Value) (u : Unit) => (v = .int (iI (idxN K k)))) (fun (u : Unit) => []) 0 0 := by
  refine mG_of cL_index 2 (by decide) rfl (Nat.le_of_ble_eq_true rfl) ?_
  intro p e s m below meth c A ls Q S C hG hl hr hlk hin hQ
  have S : CallFix p m c cL_index 2 s ([.ref (K.2.2.2.2 42), .int (iI k)] : List Value).toArray wsL_index RL := S
  have hl : lv_has ls 2 [(0, .ref (K.2.2.2.2 42)), (1, .int (iI k))] := hl
  have hG : gW K A s.heap [] s.heap [] := hG
  refine lv_aload_n S.1 S.2.1 dL_index_0 rfl (lv_at hl 0 rfl) ?_
  refine lv_iload_n S.1 S.2.1 dL_index_1 rfl (lv_at hl 1 rfl) ?_
  refine g_iconst S dL_index_2 ?_
  refine g_invS (As := [.ref (K.2.2.2.2 42), .int (iI k), .int (iI 3)]) (rest := []) (gs' := (fun u : Unit => [])) S C hG [] (c_L_draw l K k 3 (by omega) (by omega)) rfl rfl (va_cwS 3 S.2.2.2.2 gL_index_L_draw rfl rfl rfl (by decide +kernel) ⟨Nat.le_of_ble_eq_true rfl, Nat.le_of_ble_eq_true rfl⟩) rfl hl.1 rfl (Nat.le_of_ble_eq_true rfl) dL_index_3 ⟨Nat.le_of_ble_eq_true rfl, Nat.le_of_ble_eq_true rfl⟩ (fun _ => Nat.le_of_ble_eq_true rfl) (fun _ => rfl) (fun v u H locs hp hG => ?_)
  subst hp
  have hd3 := drwN_bd K k (n := 3) (by omega)
  refine g_if_ne (tgt := 28) S dL_index_6 (by decide) (by omega) (fun q6 => ?_) (fun q6 => ?_)
  · skip
    refine g_sipush S dL_index_28 (by decide) ?_
    refine lv_aload_n S.1 S.2.1 dL_index_31 rfl (lv_at hl 0 rfl) ?_
    refine lv_iload_n S.1 S.2.1 dL_index_32 rfl (lv_at hl 1 rfl) ?_
    refine g_iconst S dL_index_33 ?_
    refine g_iadd S dL_index_34 rfl ?_
    refine g_sipush S dL_index_35 (by decide) ?_
    refine g_invS (As := [.ref (K.2.2.2.2 42), .int (iI (k + 1)), .int (iI 3001)]) (rest := [.int (iI 1000)]) (gs' := (fun u : Unit => [])) S C hG [] (c_L_draw l K (k + 1) 3001 (by omega) (by omega)) rfl rfl (va_cwS 3 S.2.2.2.2 gL_index_L_draw rfl rfl rfl (by decide +kernel) ⟨Nat.le_of_ble_eq_true rfl, Nat.le_of_ble_eq_true rfl⟩) rfl hl.1 rfl (Nat.le_of_ble_eq_true rfl) dL_index_38 ⟨Nat.le_of_ble_eq_true rfl, Nat.le_of_ble_eq_true rfl⟩ (fun _ => Nat.le_of_ble_eq_true rfl) (fun _ => rfl) (fun v u H locs hp hG => ?_)
    subst hp
    have hd38 := drwN_bd K (k + 1) (n := 3001) (by omega)
    refine g_iadd S dL_index_41 rfl ?_
    have hG : gW K A s.heap [] _ _ := hG
    exact g_iret S hr hlk hQ dL_index_42 (Nat.le_of_ble_eq_true rfl) (Nat.le_of_ble_eq_true rfl) (() : Unit) (congrArg (fun z : Int => Value.int (iI z)) (by unfold idxN; rw [if_neg (by omega)])) hG
  · skip
    refine g_sipush S dL_index_9 (by decide) ?_
    refine g_bipush S dL_index_12 (by decide) ?_
    refine lv_aload_n S.1 S.2.1 dL_index_14 rfl (lv_at hl 0 rfl) ?_
    refine lv_iload_n S.1 S.2.1 dL_index_15 rfl (lv_at hl 1 rfl) ?_
    refine g_iconst S dL_index_16 ?_
    refine g_iadd S dL_index_17 rfl ?_
    refine g_bipush S dL_index_18 (by decide) ?_
    refine g_invS (As := [.ref (K.2.2.2.2 42), .int (iI (k + 1)), .int (iI 31)]) (rest := [.int (iI 100), .int (iI 1000)]) (gs' := (fun u : Unit => [])) S C hG [] (c_L_draw l K (k + 1) 31 (by omega) (by omega)) rfl rfl (va_cwS 3 S.2.2.2.2 gL_index_L_draw rfl rfl rfl (by decide +kernel) ⟨Nat.le_of_ble_eq_true rfl, Nat.le_of_ble_eq_true rfl⟩) rfl hl.1 rfl (Nat.le_of_ble_eq_true rfl) dL_index_20 ⟨Nat.le_of_ble_eq_true rfl, Nat.le_of_ble_eq_true rfl⟩ (fun _ => Nat.le_of_ble_eq_true rfl) (fun _ => rfl) (fun v u H locs hp hG => ?_)
    subst hp
    have hd20 := drwN_bd K (k + 1) (n := 31) (by omega)
    refine g_imul S dL_index_23 rfl ?_
    refine g_iadd S dL_index_24 rfl ?_
    refine lv_goto (tgt := 42) S.1 S.2.1 dL_index_25 (by decide) ?_
    have hG : gW K A s.heap [] _ _ := hG
    exact g_iret S hr hlk hQ dL_index_42 (Nat.le_of_ble_eq_true rfl) (Nat.le_of_ble_eq_true rfl) (() : Unit) (congrArg (fun z : Int => Value.int (iI z)) (by unfold idxN; rw [if_pos (by omega)])) hG

set_option maxHeartbeats 1000000 in
set_option maxRecDepth 100000 in
theorem c_L_four (l : Launch) (K : KC) (st : Nat) (b : Nat) (n1 : Nat) (F : Int → Int) (a : Int) (hn : n1 ≤ 602) (h0 : 0 ≤ a ∧ a ≤ 1000) (hF : ∀ j : Int, 0 ≤ j → j < (n1 : Int) → 0 ≤ F j ∧ F j ≤ 127) : mG l yL_four wsL_four 4 85 K [.ref st, .int (iI a)] [gStO K st b n1 F] (fun (v : Value) (u : Unit) => (v = .int (iI (f4N F (n1 : Int) a 4)))) (fun (u : Unit) => [gStO K st b n1 F]) 0 0 := by
  refine mG_of cL_four 4 (by decide) rfl (Nat.le_of_ble_eq_true rfl) ?_
  intro p e s m below meth c A ls Q S C hG hl hr hlk hin hQ
  have S : CallFix p m c cL_four 4 s ([.ref st, .int (iI a)] : List Value).toArray wsL_four RL := S
  have iJ00 : ∀ w ∈ wsJ00, w ∈ wsL_four := fun _ h => List.mem_cons_of_mem _ (List.mem_append_right _ (h))
  have hl : lv_has ls 4 [(0, .ref st), (1, .int (iI a))] := hl
  have hG : gW K A s.heap [gStO K st b n1 F] s.heap [] := hG
  refine g_iconst S dL_four_0 ?_
  refine lv_istore_n (lv' := [(2, .int (iI 0)), (0, .ref st), (1, .int (iI a))]) S.1 S.2.1 dL_four_1 rfl hl (by decide) rfl (fun ls hl => ?_)
  refine g_iconst S dL_four_2 ?_
  refine lv_istore_n (lv' := [(3, .int (iI 0)), (2, .int (iI 0)), (0, .ref st), (1, .int (iI a))]) S.1 S.2.1 dL_four_3 rfl hl (by decide) rfl (fun ls hl => ?_)
  have L4 : ∀ (fu : Nat) (kk : Nat) (H : Heap) (locs : List Loc) (ls : Array Slot), (4 - kk) < fu → (kk ≤ 4) → lv_has ls 4 [(0, .ref st), (1, .int (iI a)), (2, .int (iI (f4N F (n1 : Int) a kk))), (3, .int (iI (kk : Int)))] → gW K A s.heap [gStO K st b n1 F] H locs → W p l e { frames := 4, cells := 0, slots := 0, locals := 85 } s m ([.ref st, .int (iI a)] : List Value).toArray below meth c H locs 0 0 Q (F0 m 4 ls []) := by
    intro fu
    induction fu with
    | zero => intro kk H locs ls hfu; exact absurd hfu (Nat.not_lt_zero _)
    | succ fu ih =>
      intro kk H locs ls hfu hk hl hG
      have hv9 : kk ≤ 3 → _ := fun z => f4N_b3 hF h0.1 z
      refine lv_iload_n S.1 S.2.1 dL_four_4 rfl (lv_at hl 3 rfl) ?_
      refine g_iconst S dL_four_5 ?_
      refine g_icmp_ge (tgt := 42) S dL_four_6 (by decide) (by omega) (by omega) (fun q6 => ?_) (fun q6 => ?_)
      · skip
        refine lv_iload_n S.1 S.2.1 dL_four_42 rfl (lv_at hl 2 rfl) ?_
        have hG : gW K A s.heap [gStO K st b n1 F] _ _ := hG
        exact g_iret S hr hlk hQ dL_four_43 (Nat.le_of_ble_eq_true rfl) (Nat.le_of_ble_eq_true rfl) (() : Unit) (congrArg (fun z : Int => Value.int (iI z)) (by rw [show kk = 4 by omega])) hG
      · skip
        refine lv_iload_n S.1 S.2.1 dL_four_9 rfl (lv_at hl 2 rfl) ?_
        refine g_bipush S dL_four_10 (by decide) ?_
        refine g_shl8 S dL_four_12 ?_
        refine lv_iload_n S.1 S.2.1 dL_four_13 rfl (lv_at hl 1 rfl) ?_
        refine lv_iload_n S.1 S.2.1 dL_four_14 rfl (lv_at hl 3 rfl) ?_
        refine g_iadd S dL_four_15 rfl ?_
        refine lv_aload_n S.1 S.2.1 dL_four_16 rfl (lv_at hl 0 rfl) ?_
        refine g_invV (As := []) (rest := [.int (iI (a + (kk : Int))), .int (iI ((f4N F (n1 : Int) a kk) * 256))]) (gs' := (fun u : Unit => [gStO K st b n1 F])) S C hG [0] (m_J0_length l K st b n1 F hn) rfl rfl 0 rfl rfl (cwV 0 S.2.2.2.2 gL_four_J0_length_8abf5 rfl rfl rfl (by decide +kernel) ⟨Nat.le_of_ble_eq_true rfl, Nat.le_of_ble_eq_true rfl⟩) rfl hl.1 rfl (Nat.le_of_ble_eq_true rfl) dL_four_17 ⟨Nat.le_of_ble_eq_true rfl, Nat.le_of_ble_eq_true rfl⟩ (fun _ => Nat.le_of_ble_eq_true rfl) (fun _ => rfl) (fun v u H locs hp hG => ?_)
        subst hp
        refine g_icmp_ge (tgt := 33) S dL_four_20 (by decide) (by omega) (by omega) (fun q20 => ?_) (fun q20 => ?_)
        · skip
          refine g_iconst S dL_four_33 ?_
          refine g_or8 (v := (f4N F (n1 : Int) a kk)) S (by have := hv9 (by omega); omega) (by omega) dL_four_34 ?_
          refine g_top (w := .int (iI (f4N F (n1 : Int) a (kk + 1)))) (congrArg (fun z : Int => Value.int (iI z)) (by show _ = f4N F (n1 : Int) a kk * 256 + chN F (n1 : Int) (a + (kk : Int)); unfold chN; rw [if_neg (by omega)])) ?_
          refine lv_istore_n (lv' := [(2, .int (iI (f4N F (n1 : Int) a (kk + 1)))), (0, .ref st), (1, .int (iI a)), (3, .int (iI (kk : Int)))]) S.1 S.2.1 dL_four_35 rfl hl (by decide) rfl (fun ls hl => ?_)
          refine lv_iinc (v := iI ((kk + 1 : Nat) : Int)) (lv' := [(3, .int (iI ((kk + 1 : Nat) : Int))), (2, .int (iI (f4N F (n1 : Int) a (kk + 1)))), (0, .ref st), (1, .int (iI a))]) S.1 S.2.1 dL_four_36 hl (k := 3) rfl (g_iinc (by omega)) (by decide) rfl (fun ls hl => ?_)
          refine lv_goto (tgt := 4) S.1 S.2.1 dL_four_39 (by decide) ?_
          exact ih (kk + 1) _ _ _ (by omega) (by omega) (lv_sub hl [2, 3, 1, 0] rfl) hG
        · skip
          refine lv_aload_n S.1 S.2.1 dL_four_23 rfl (lv_at hl 0 rfl) ?_
          refine lv_iload_n S.1 S.2.1 dL_four_24 rfl (lv_at hl 1 rfl) ?_
          refine lv_iload_n S.1 S.2.1 dL_four_25 rfl (lv_at hl 3 rfl) ?_
          refine g_iadd S dL_four_26 rfl ?_
          have hc9 := hF (a + (kk : Int)) (by omega) (by omega)
          refine g_invV (As := [.int (iI (a + (kk : Int)))]) (rest := [.int (iI ((f4N F (n1 : Int) a kk) * 256))]) (gs' := (fun u : Unit => [gStO K st b n1 F])) S C hG [0] (m_J0_charAt l K st b n1 F (a + (kk : Int)) (by omega) (hF _ (by omega) (by omega))) rfl rfl 0 rfl rfl (cwV 1 S.2.2.2.2 gL_four_J0_charAt_5068e rfl rfl rfl (by decide +kernel) ⟨Nat.le_of_ble_eq_true rfl, Nat.le_of_ble_eq_true rfl⟩) rfl hl.1 rfl (Nat.le_of_ble_eq_true rfl) dL_four_27 ⟨Nat.le_of_ble_eq_true rfl, Nat.le_of_ble_eq_true rfl⟩ (fun _ => Nat.le_of_ble_eq_true rfl) (fun _ => rfl) (fun v u H locs hp hG => ?_)
          subst hp
          refine lv_goto (tgt := 34) S.1 S.2.1 dL_four_30 (by decide) ?_
          refine g_or8 (v := (f4N F (n1 : Int) a kk)) S (by have := hv9 (by omega); omega) (by omega) dL_four_34 ?_
          refine g_top (w := .int (iI (f4N F (n1 : Int) a (kk + 1)))) (congrArg (fun z : Int => Value.int (iI z)) (by show _ = f4N F (n1 : Int) a kk * 256 + chN F (n1 : Int) (a + (kk : Int)); unfold chN; rw [if_pos (by omega)])) ?_
          refine lv_istore_n (lv' := [(2, .int (iI (f4N F (n1 : Int) a (kk + 1)))), (0, .ref st), (1, .int (iI a)), (3, .int (iI (kk : Int)))]) S.1 S.2.1 dL_four_35 rfl hl (by decide) rfl (fun ls hl => ?_)
          refine lv_iinc (v := iI ((kk + 1 : Nat) : Int)) (lv' := [(3, .int (iI ((kk + 1 : Nat) : Int))), (2, .int (iI (f4N F (n1 : Int) a (kk + 1)))), (0, .ref st), (1, .int (iI a))]) S.1 S.2.1 dL_four_36 hl (k := 3) rfl (g_iinc (by omega)) (by decide) rfl (fun ls hl => ?_)
          refine lv_goto (tgt := 4) S.1 S.2.1 dL_four_39 (by decide) ?_
          exact ih (kk + 1) _ _ _ (by omega) (by omega) (lv_sub hl [2, 3, 1, 0] rfl) hG
  exact L4 (Nat.succ (4 - 0)) 0 _ _ _ (Nat.lt_succ_self _) (by omega) (lv_sub hl [2, 3, 1, 0] rfl) hG

set_option maxHeartbeats 1000000 in
set_option maxRecDepth 100000 in
theorem c_L_feed (l : Launch) (K : KC) (ad : Nat → Nat) (st : Nat) (b : Nat) (n1 : Nat) (F : Int → Int) (B0 : Int → Int) (hn : 1 ≤ n1 ∧ n1 ≤ 300) (hF : ∀ j : Int, 0 ≤ j → j < (n1 : Int) → 0 ≤ F j ∧ F j ≤ 127) : mV l yL_feed wsL_feed 5 108 K [.ref (ad 0), .ref st] [gRLC K ad, gBuf K (ad 1) (ad 12) 0 B0, gStO K st b n1 F] (fun (u : (Int → Int)) => (∀ j : Int, 0 ≤ j → j < (n1 : Int) → u j % 256 = F j)) (fun (u : (Int → Int)) => [gRLC K ad, gBuf K (ad 1) (ad 12) (n1 : Int) u, gStO K st b n1 F]) 0 0 := by
  refine mV_of cL_feed 4 (by decide) rfl (Nat.le_of_ble_eq_true rfl) ?_
  intro p e s m below meth c A ls Q S C hG hl hr hlk hin hQ
  have S : CallFix p m c cL_feed 4 s ([.ref (ad 0), .ref st] : List Value).toArray wsL_feed RL := S
  have iJ00 : ∀ w ∈ wsJ00, w ∈ wsL_feed := fun _ h => List.mem_cons_of_mem _ (List.mem_append_left _ (List.mem_append_left _ (List.mem_append_left _ (List.mem_append_left _ (List.mem_append_right _ (h))))))
  have iX80 : ∀ w ∈ wsX80, w ∈ wsL_feed := fun _ h => List.mem_cons_of_mem _ (List.mem_append_left _ (List.mem_append_left _ (List.mem_append_left _ (List.mem_append_right _ (h)))))
  have iX00 : ∀ w ∈ wsX00, w ∈ wsL_feed := fun _ h => List.mem_cons_of_mem _ (List.mem_append_left _ (List.mem_append_left _ (List.mem_append_right _ (h))))
  have hl : lv_has ls 4 [(0, .ref (ad 0)), (1, .ref st)] := hl
  have hG : gW K A s.heap [gRLC K ad, gBuf K (ad 1) (ad 12) 0 B0, gStO K st b n1 F] s.heap [] := hG
  refine g_iconst S dL_feed_0 ?_
  refine lv_istore_n (lv' := [(2, .int (iI 0)), (0, .ref (ad 0)), (1, .ref st)]) S.1 S.2.1 dL_feed_1 rfl hl (by decide) rfl (fun ls hl => ?_)
  refine g_iconst S dL_feed_2 ?_
  refine lv_istore_n (lv' := [(3, .int (iI 0)), (2, .int (iI 0)), (0, .ref (ad 0)), (1, .ref st)]) S.1 S.2.1 dL_feed_3 rfl hl (by decide) rfl (fun ls hl => ?_)
  have L4 : ∀ (fu : Nat) (kv : Int) (BF : Int → Int) (H : Heap) (locs : List Loc) (ls : Array Slot), (((400 : Int) - kv).toNat) < fu → (0 ≤ kv ∧ kv ≤ (n1 : Int) + 19) → (∀ j : Int, 0 ≤ j → j < kv → BF j % 256 = chN F (n1 : Int) j) → lv_has ls 4 [(0, .ref (ad 0)), (1, .ref st), (2, .int (iI kv)), (3, .int (iI kv))] → gW K A s.heap [gRLC K ad, gBuf K (ad 1) (ad 12) kv BF, gStO K st b n1 F] H locs → W p l e { frames := 5, cells := 0, slots := 0, locals := 108 } s m ([.ref (ad 0), .ref st] : List Value).toArray below meth c H locs 0 0 Q (F0 m 4 ls []) := by
    intro fu
    induction fu with
    | zero => intro kv BF H locs ls hfu; exact absurd hfu (Nat.not_lt_zero _)
    | succ fu ih =>
      intro kv BF H locs ls hfu hk hB hl hG
      refine lv_iload_n S.1 S.2.1 dL_feed_4 rfl (lv_at hl 3 rfl) ?_
      refine lv_aload_n S.1 S.2.1 dL_feed_5 rfl (lv_at hl 1 rfl) ?_
      refine g_invV (As := []) (rest := [.int (iI kv)]) (gs' := (fun u : Unit => [gRLC K ad, gBuf K (ad 1) (ad 12) kv BF, gStO K st b n1 F])) S C hG [2] (m_J0_length l K st b n1 F (by omega)) rfl rfl 0 rfl rfl (cwV 0 S.2.2.2.2 gL_feed_J0_length_8abf5 rfl rfl rfl (by decide +kernel) ⟨Nat.le_of_ble_eq_true rfl, Nat.le_of_ble_eq_true rfl⟩) rfl hl.1 rfl (Nat.le_of_ble_eq_true rfl) dL_feed_6 ⟨Nat.le_of_ble_eq_true rfl, Nat.le_of_ble_eq_true rfl⟩ (fun _ => Nat.le_of_ble_eq_true rfl) (fun _ => rfl) (fun v u H locs hp hG => ?_)
      subst hp
      refine g_icmp_lt (tgt := 16) S dL_feed_9 (by decide) (by omega) (by omega) (fun q9 => ?_) (fun q9 => ?_)
      · skip
        refine lv_aload_n S.1 S.2.1 dL_feed_16 rfl (lv_at hl 0 rfl) ?_
        refine lv_aload_n S.1 S.2.1 dL_feed_17 rfl (lv_at hl 1 rfl) ?_
        refine lv_iload_n S.1 S.2.1 dL_feed_18 rfl (lv_at hl 3 rfl) ?_
        refine g_invS (As := [.ref st, .int (iI kv)]) (rest := [.ref (ad 0)]) (gs' := (fun u : Unit => [gRLC K ad, gBuf K (ad 1) (ad 12) kv BF, gStO K st b n1 F])) S C hG [2] (c_L_four l K st b n1 F kv (by omega) (by omega) hF) rfl rfl (va_cwS 2 S.2.2.2.2 gL_feed_L_four rfl rfl rfl (by decide +kernel) ⟨Nat.le_of_ble_eq_true rfl, Nat.le_of_ble_eq_true rfl⟩) rfl hl.1 rfl (Nat.le_of_ble_eq_true rfl) dL_feed_19 ⟨Nat.le_of_ble_eq_true rfl, Nat.le_of_ble_eq_true rfl⟩ (fun _ => Nat.le_of_ble_eq_true rfl) (fun _ => rfl) (fun v u H locs hp hG => ?_)
        subst hp
        have hb0 := f4N_b4 hF (a := kv) (by omega)
        refine lv_aload_n S.1 S.2.1 dL_feed_22 rfl (lv_at hl 1 rfl) ?_
        refine lv_iload_n S.1 S.2.1 dL_feed_23 rfl (lv_at hl 3 rfl) ?_
        refine g_iconst S dL_feed_24 ?_
        refine g_iadd S dL_feed_25 rfl ?_
        refine g_invS (As := [.ref st, .int (iI (kv + 4))]) (rest := [.int (iI (f4N F (n1 : Int) kv 4)), .ref (ad 0)]) (gs' := (fun u : Unit => [gRLC K ad, gBuf K (ad 1) (ad 12) kv BF, gStO K st b n1 F])) S C hG [2] (c_L_four l K st b n1 F (kv + 4) (by omega) (by omega) hF) rfl rfl (va_cwS 2 S.2.2.2.2 gL_feed_L_four rfl rfl rfl (by decide +kernel) ⟨Nat.le_of_ble_eq_true rfl, Nat.le_of_ble_eq_true rfl⟩) rfl hl.1 rfl (Nat.le_of_ble_eq_true rfl) dL_feed_26 ⟨Nat.le_of_ble_eq_true rfl, Nat.le_of_ble_eq_true rfl⟩ (fun _ => Nat.le_of_ble_eq_true rfl) (fun _ => rfl) (fun v u H locs hp hG => ?_)
        subst hp
        have hb4 := f4N_b4 hF (a := kv + 4) (by omega)
        refine lv_aload_n S.1 S.2.1 dL_feed_29 rfl (lv_at hl 1 rfl) ?_
        refine lv_iload_n S.1 S.2.1 dL_feed_30 rfl (lv_at hl 3 rfl) ?_
        refine g_bipush S dL_feed_31 (by decide) ?_
        refine g_iadd S dL_feed_33 rfl ?_
        refine g_invS (As := [.ref st, .int (iI (kv + 8))]) (rest := [.int (iI (f4N F (n1 : Int) (kv + 4) 4)), .int (iI (f4N F (n1 : Int) kv 4)), .ref (ad 0)]) (gs' := (fun u : Unit => [gRLC K ad, gBuf K (ad 1) (ad 12) kv BF, gStO K st b n1 F])) S C hG [2] (c_L_four l K st b n1 F (kv + 8) (by omega) (by omega) hF) rfl rfl (va_cwS 2 S.2.2.2.2 gL_feed_L_four rfl rfl rfl (by decide +kernel) ⟨Nat.le_of_ble_eq_true rfl, Nat.le_of_ble_eq_true rfl⟩) rfl hl.1 rfl (Nat.le_of_ble_eq_true rfl) dL_feed_34 ⟨Nat.le_of_ble_eq_true rfl, Nat.le_of_ble_eq_true rfl⟩ (fun _ => Nat.le_of_ble_eq_true rfl) (fun _ => rfl) (fun v u H locs hp hG => ?_)
        subst hp
        have hb8 := f4N_b4 hF (a := kv + 8) (by omega)
        refine lv_aload_n S.1 S.2.1 dL_feed_37 rfl (lv_at hl 1 rfl) ?_
        refine lv_iload_n S.1 S.2.1 dL_feed_38 rfl (lv_at hl 3 rfl) ?_
        refine g_bipush S dL_feed_39 (by decide) ?_
        refine g_iadd S dL_feed_41 rfl ?_
        refine g_invS (As := [.ref st, .int (iI (kv + 12))]) (rest := [.int (iI (f4N F (n1 : Int) (kv + 8) 4)), .int (iI (f4N F (n1 : Int) (kv + 4) 4)), .int (iI (f4N F (n1 : Int) kv 4)), .ref (ad 0)]) (gs' := (fun u : Unit => [gRLC K ad, gBuf K (ad 1) (ad 12) kv BF, gStO K st b n1 F])) S C hG [2] (c_L_four l K st b n1 F (kv + 12) (by omega) (by omega) hF) rfl rfl (va_cwS 2 S.2.2.2.2 gL_feed_L_four rfl rfl rfl (by decide +kernel) ⟨Nat.le_of_ble_eq_true rfl, Nat.le_of_ble_eq_true rfl⟩) rfl hl.1 rfl (Nat.le_of_ble_eq_true rfl) dL_feed_42 ⟨Nat.le_of_ble_eq_true rfl, Nat.le_of_ble_eq_true rfl⟩ (fun _ => Nat.le_of_ble_eq_true rfl) (fun _ => rfl) (fun v u H locs hp hG => ?_)
        subst hp
        have hb12 := f4N_b4 hF (a := kv + 12) (by omega)
        refine lv_aload_n S.1 S.2.1 dL_feed_45 rfl (lv_at hl 1 rfl) ?_
        refine lv_iload_n S.1 S.2.1 dL_feed_46 rfl (lv_at hl 3 rfl) ?_
        refine g_bipush S dL_feed_47 (by decide) ?_
        refine g_iadd S dL_feed_49 rfl ?_
        refine g_invS (As := [.ref st, .int (iI (kv + 16))]) (rest := [.int (iI (f4N F (n1 : Int) (kv + 12) 4)), .int (iI (f4N F (n1 : Int) (kv + 8) 4)), .int (iI (f4N F (n1 : Int) (kv + 4) 4)), .int (iI (f4N F (n1 : Int) kv 4)), .ref (ad 0)]) (gs' := (fun u : Unit => [gRLC K ad, gBuf K (ad 1) (ad 12) kv BF, gStO K st b n1 F])) S C hG [2] (c_L_four l K st b n1 F (kv + 16) (by omega) (by omega) hF) rfl rfl (va_cwS 2 S.2.2.2.2 gL_feed_L_four rfl rfl rfl (by decide +kernel) ⟨Nat.le_of_ble_eq_true rfl, Nat.le_of_ble_eq_true rfl⟩) rfl hl.1 rfl (Nat.le_of_ble_eq_true rfl) dL_feed_50 ⟨Nat.le_of_ble_eq_true rfl, Nat.le_of_ble_eq_true rfl⟩ (fun _ => Nat.le_of_ble_eq_true rfl) (fun _ => rfl) (fun v u H locs hp hG => ?_)
        subst hp
        have hb16 := f4N_b4 hF (a := kv + 16) (by omega)
        refine g_invV (As := [.int (iI (f4N F (n1 : Int) kv 4)), .int (iI (f4N F (n1 : Int) (kv + 4) 4)), .int (iI (f4N F (n1 : Int) (kv + 8) 4)), .int (iI (f4N F (n1 : Int) (kv + 12) 4)), .int (iI (f4N F (n1 : Int) (kv + 16) 4))]) (rest := []) (gs' := (fun u : (Int → Int) => [gRLC K ad, gBuf K (ad 1) (ad 12) (kv + 4 + 4 + 4 + 4 + 4) u, gStO K st b n1 F])) S C hG [0, 1] (c_X8_append l K ad kv BF (f4N F (n1 : Int) kv 4) (f4N F (n1 : Int) (kv + 4) 4) (f4N F (n1 : Int) (kv + 8) 4) (f4N F (n1 : Int) (kv + 12) 4) (f4N F (n1 : Int) (kv + 16) 4) (by omega) (by omega) (by omega) (by omega) (by omega) (by omega)) rfl rfl 0 rfl rfl (cwV 5 S.2.2.2.2 gL_feed_X8_append rfl rfl rfl (by decide +kernel) ⟨Nat.le_of_ble_eq_true rfl, Nat.le_of_ble_eq_true rfl⟩) rfl hl.1 rfl (Nat.le_of_ble_eq_true rfl) dL_feed_53 ⟨Nat.le_of_ble_eq_true rfl, Nat.le_of_ble_eq_true rfl⟩ (fun _ => Nat.le_of_ble_eq_true rfl) (fun _ => rfl) (fun v u H locs hp hG => ?_)
        obtain ⟨F2_53, rfl⟩ : ∃ z, z = u := ⟨_, rfl⟩
        obtain ⟨rfl, hF_53⟩ := hp
        have hF_53 : F2_53 = apd5 BF kv (f4N F (n1 : Int) kv 4) (f4N F (n1 : Int) (kv + 4) 4) (f4N F (n1 : Int) (kv + 8) 4) (f4N F (n1 : Int) (kv + 12) 4) (f4N F (n1 : Int) (kv + 16) 4) := hF_53
        have hG : gW K A s.heap [gRLC K ad, gBuf K (ad 1) (ad 12) (kv + 4 + 4 + 4 + 4 + 4) F2_53, gStO K st b n1 F] _ _ := hG
        refine lv_istore_n (lv' := [(2, .int (iI (kv + 20))), (0, .ref (ad 0)), (1, .ref st), (3, .int (iI kv))]) S.1 S.2.1 dL_feed_56 rfl hl (by decide) rfl (fun ls hl => ?_)
        refine lv_iinc (v := iI (kv + 20)) (lv' := [(3, .int (iI (kv + 20))), (2, .int (iI (kv + 20))), (0, .ref (ad 0)), (1, .ref st)]) S.1 S.2.1 dL_feed_57 hl (k := 3) rfl (g_iinc rfl) (by decide) rfl (fun ls hl => ?_)
        refine lv_goto (tgt := 4) S.1 S.2.1 dL_feed_60 (by decide) ?_
        have hG : gW K A s.heap [gRLC K ad, gBuf K (ad 1) (ad 12) (kv + 20) F2_53, gStO K st b n1 F] _ _ := (by rw [show kv + 20 = kv + 4 + 4 + 4 + 4 + 4 by omega]; exact hG)
        exact ih (kv + 20) F2_53 _ _ _ (by omega) (by omega) (feedS hF hk.1 hB hF_53) (lv_sub hl [2, 3, 1, 0] rfl) hG
      · skip
        refine lv_iload_n S.1 S.2.1 dL_feed_12 rfl (lv_at hl 3 rfl) ?_
        refine g_if_ne (tgt := 63) S dL_feed_13 (by decide) (by omega) (fun q13 => ?_) (fun q13 => ?_)
        · skip
          refine lv_aload_n S.1 S.2.1 dL_feed_63 rfl (lv_at hl 0 rfl) ?_
          refine lv_iload_n S.1 S.2.1 dL_feed_64 rfl (lv_at hl 2 rfl) ?_
          refine lv_aload_n S.1 S.2.1 dL_feed_65 rfl (lv_at hl 1 rfl) ?_
          refine g_invV (As := []) (rest := [.int (iI kv), .ref (ad 0)]) (gs' := (fun u : Unit => [gRLC K ad, gBuf K (ad 1) (ad 12) kv BF, gStO K st b n1 F])) S C hG [2] (m_J0_length l K st b n1 F (by omega)) rfl rfl 0 rfl rfl (cwV 0 S.2.2.2.2 gL_feed_J0_length_8abf5 rfl rfl rfl (by decide +kernel) ⟨Nat.le_of_ble_eq_true rfl, Nat.le_of_ble_eq_true rfl⟩) rfl hl.1 rfl (Nat.le_of_ble_eq_true rfl) dL_feed_66 ⟨Nat.le_of_ble_eq_true rfl, Nat.le_of_ble_eq_true rfl⟩ (fun _ => Nat.le_of_ble_eq_true rfl) (fun _ => rfl) (fun v u H locs hp hG => ?_)
          subst hp
          refine va_mmin S.1 S.2.1 (by rw [S.2.2.1]; exact hl.1.symm) S.2.2.2.1 (S.2.2.2.2 _ (List.mem_of_getElem? (i := 1) rfl)) (S.2.2.2.2 _ (List.mem_of_getElem? (i := 2) rfl)) (S.2.2.2.2 _ (List.mem_of_getElem? (i := 3) rfl)) (S.2.2.2.2 _ (List.mem_of_getElem? (i := 4) rfl)) (Nat.le_of_ble_eq_true rfl) (Nat.le_of_ble_eq_true rfl) (Nat.le_of_ble_eq_true rfl) (Nat.le_of_ble_eq_true rfl) dL_feed_69 ?_
          refine g_top (w := .int (iI (min kv (n1 : Int)))) (imin_eq (by omega) (by omega)) ?_
          refine g_top (w := .int (iI ((n1 : Int)))) (congrArg (fun z : Int => Value.int (iI z)) (by omega)) ?_
          refine g_invVv (As := [.int (iI (n1 : Int))]) (rest := []) (gs' := (fun u : Unit => [gRLC K ad, gBuf K (ad 1) (ad 12) (n1 : Int) BF, gStO K st b n1 F])) S C hG [0, 1] (c_X8_truncate l K ad kv BF (n1 : Int) (by omega) (by omega) (by omega)) rfl rfl 0 rfl rfl (cwV 1 S.2.2.2.2 gL_feed_X8_truncate rfl rfl rfl (by decide +kernel) ⟨Nat.le_of_ble_eq_true rfl, Nat.le_of_ble_eq_true rfl⟩) rfl hl.1 rfl (Nat.le_of_ble_eq_true rfl) dL_feed_72 ⟨Nat.le_of_ble_eq_true rfl, Nat.le_of_ble_eq_true rfl⟩ (fun _ => Nat.le_of_ble_eq_true rfl) (fun _ => rfl) (fun u H locs hp hG => ?_)
          have hG : gW K A s.heap [gRLC K ad, gBuf K (ad 1) (ad 12) (n1 : Int) BF, gStO K st b n1 F] _ _ := hG
          exact g_vret S hr hlk hQ dL_feed_75 (Nat.le_of_ble_eq_true rfl) (Nat.le_of_ble_eq_true rfl) ((BF) : (Int → Int)) (fun j j0 j1 => by rw [hB j j0 (by omega)]; unfold chN; rw [if_pos j1]) hG
        · skip
          omega
  exact L4 (Nat.succ (((400 : Int) - 0).toNat)) 0 B0 _ _ _ (Nat.lt_succ_self _) (by omega) (fun j a9 b9 => absurd b9 (by omega)) (lv_sub hl [2, 3, 1, 0] rfl) hG
