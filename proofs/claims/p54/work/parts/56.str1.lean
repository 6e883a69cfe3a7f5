set_option maxHeartbeats 1000000 in
set_option maxRecDepth 100000 in
theorem c_J3_checkIndex_8e157 (l : Launch) (K : KC) (k : Int) (z : Int) (r0 : Nat) (h0 : 0 ≤ k ∧ k < z) (h1 : z ≤ 2147483647) : mG l yJ3_checkIndex_8e157 wsJ3_checkIndex_8e157 0 0 K [.int (iI k), .int (iI z), .ref r0] [] (fun (v : Value) (u : Unit) => (v = .int (iI k))) (fun (u : Unit) => []) 0 0 := by
  refine mG_of cJ3_checkIndex_8e157 3 (by decide) rfl (Nat.le_of_ble_eq_true rfl) ?_
  intro p e s m below meth c A ls Q S C hG hl hr hlk hin hQ
  have S : CallFix p m c cJ3_checkIndex_8e157 3 s ([.int (iI k), .int (iI z), .ref r0] : List Value).toArray wsJ3_checkIndex_8e157 RJ3 := S
  have hl : lv_has ls 3 [(0, .int (iI k)), (1, .int (iI z)), (2, .ref r0)] := hl
  have hG : gW K A s.heap [] s.heap [] := hG
  refine lv_iload_n S.1 S.2.1 dJ3_checkIndex_8e157_0 rfl (lv_at hl 0 rfl) ?_
  refine g_if_lt (tgt := 9) S dJ3_checkIndex_8e157_1 (by decide) (by omega) (fun q1 => ?_) (fun q1 => ?_)
  · skip
    omega
  · skip
    refine lv_iload_n S.1 S.2.1 dJ3_checkIndex_8e157_4 rfl (lv_at hl 0 rfl) ?_
    refine lv_iload_n S.1 S.2.1 dJ3_checkIndex_8e157_5 rfl (lv_at hl 1 rfl) ?_
    refine g_icmp_lt (tgt := 16) S dJ3_checkIndex_8e157_6 (by decide) (by omega) (by omega) (fun q6 => ?_) (fun q6 => ?_)
    · skip
      refine lv_iload_n S.1 S.2.1 dJ3_checkIndex_8e157_16 rfl (lv_at hl 0 rfl) ?_
      have hG : gW K A s.heap [] _ _ := hG
      exact g_iret S hr hlk hQ dJ3_checkIndex_8e157_17 (Nat.le_of_ble_eq_true rfl) (Nat.le_of_ble_eq_true rfl) (() : Unit) rfl hG
    · skip
      omega
set_option maxHeartbeats 1000000 in
set_option maxRecDepth 100000 in
theorem c_J3_checkIndexN (l : Launch) (K : KC) (k : Int) (z : Int) (h0 : 0 ≤ k ∧ k < z) (h1 : z ≤ 2147483647) : mG l yJ3_checkIndex_8e157 wsJ3_checkIndex_8e157 0 0 K [.int (iI k), .int (iI z), .null] [] (fun (v : Value) (u : Unit) => (v = .int (iI k))) (fun (u : Unit) => []) 0 0 := by
  refine mG_of cJ3_checkIndex_8e157 3 (by decide) rfl (Nat.le_of_ble_eq_true rfl) ?_
  intro p e s m below meth c A ls Q S C hG hl hr hlk hin hQ
  have S : CallFix p m c cJ3_checkIndex_8e157 3 s ([.int (iI k), .int (iI z), .null] : List Value).toArray wsJ3_checkIndex_8e157 RJ3 := S
  have hl : lv_has ls 3 [(0, .int (iI k)), (1, .int (iI z)), (2, .null)] := hl
  have hG : gW K A s.heap [] s.heap [] := hG
  refine lv_iload_n S.1 S.2.1 dJ3_checkIndex_8e157_0 rfl (lv_at hl 0 rfl) ?_
  refine g_if_lt (tgt := 9) S dJ3_checkIndex_8e157_1 (by decide) (by omega) (fun q1 => ?_) (fun q1 => ?_)
  · skip
    omega
  · skip
    refine lv_iload_n S.1 S.2.1 dJ3_checkIndex_8e157_4 rfl (lv_at hl 0 rfl) ?_
    refine lv_iload_n S.1 S.2.1 dJ3_checkIndex_8e157_5 rfl (lv_at hl 1 rfl) ?_
    refine g_icmp_lt (tgt := 16) S dJ3_checkIndex_8e157_6 (by decide) (by omega) (by omega) (fun q6 => ?_) (fun q6 => ?_)
    · skip
      refine lv_iload_n S.1 S.2.1 dJ3_checkIndex_8e157_16 rfl (lv_at hl 0 rfl) ?_
      have hG : gW K A s.heap [] _ _ := hG
      exact g_iret S hr hlk hQ dJ3_checkIndex_8e157_17 (Nat.le_of_ble_eq_true rfl) (Nat.le_of_ble_eq_true rfl) (() : Unit) rfl hG
    · skip
      omega
set_option maxHeartbeats 1000000 in
set_option maxRecDepth 100000 in
theorem c_J0_checkIndex_df160 (l : Launch) (K : KC) (k : Int) (z : Int) (h0 : 0 ≤ k ∧ k < z) (h1 : z ≤ 2147483647) : mV l yJ0_checkIndex_df160 wsJ0_checkIndex_df160 1 22 K [.int (iI k), .int (iI z)] [] (fun (u : Unit) => True) (fun (u : Unit) => []) 0 0 := by
  refine mV_of cJ0_checkIndex_df160 2 (by decide) rfl (Nat.le_of_ble_eq_true rfl) ?_
  intro p e s m below meth c A ls Q S C hG hl hr hlk hin hQ
  have S : CallFix p m c cJ0_checkIndex_df160 2 s ([.int (iI k), .int (iI z)] : List Value).toArray wsJ0_checkIndex_df160 RJ0 := S
  have hl : lv_has ls 2 [(0, .int (iI k)), (1, .int (iI z))] := hl
  have hG : gW K A s.heap [] s.heap [] := hG
  refine lv_iload_n S.1 S.2.1 dJ0_checkIndex_df160_0 rfl (lv_at hl 0 rfl) ?_
  refine lv_iload_n S.1 S.2.1 dJ0_checkIndex_df160_1 rfl (lv_at hl 1 rfl) ?_
  rcases C.1.2.2.2.2.1.2.2.2 with hr9 | ⟨r9, hr9⟩
  · skip
    refine g_gets S C hG hr9 (List.mem_of_getElem? (i := 1) rfl) dJ0_checkIndex_df160_2 ?_
    refine g_invS (As := [.int (iI k), .int (iI z), .null]) (rest := []) (gs' := (fun u : Unit => [])) S C hG [] (c_J3_checkIndexN l K k z h0 h1) rfl rfl (va_cwS 3 S.2.2.2.2 gJ0_checkIndex_df160_J3_checkIndex_8e157 rfl rfl rfl (by decide +kernel) ⟨Nat.le_of_ble_eq_true rfl, Nat.le_of_ble_eq_true rfl⟩) rfl hl.1 rfl (Nat.le_of_ble_eq_true rfl) dJ0_checkIndex_df160_5 ⟨Nat.le_of_ble_eq_true rfl, Nat.le_of_ble_eq_true rfl⟩ (fun _ => Nat.le_of_ble_eq_true rfl) (fun _ => rfl) (fun v u H locs hp hG => ?_)
    subst hp
    refine lv_pop S.1 S.2.1 dJ0_checkIndex_df160_8 rfl ?_
    have hG : gW K A s.heap [] _ _ := hG
    exact g_vret S hr hlk hQ dJ0_checkIndex_df160_9 (Nat.le_of_ble_eq_true rfl) (Nat.le_of_ble_eq_true rfl) (() : Unit) trivial hG
  · skip
    refine g_gets S C hG hr9 (List.mem_of_getElem? (i := 1) rfl) dJ0_checkIndex_df160_2 ?_
    refine g_invS (As := [.int (iI k), .int (iI z), .ref r9]) (rest := []) (gs' := (fun u : Unit => [])) S C hG [] (c_J3_checkIndex_8e157 l K k z r9 h0 h1) rfl rfl (va_cwS 3 S.2.2.2.2 gJ0_checkIndex_df160_J3_checkIndex_8e157 rfl rfl rfl (by decide +kernel) ⟨Nat.le_of_ble_eq_true rfl, Nat.le_of_ble_eq_true rfl⟩) rfl hl.1 rfl (Nat.le_of_ble_eq_true rfl) dJ0_checkIndex_df160_5 ⟨Nat.le_of_ble_eq_true rfl, Nat.le_of_ble_eq_true rfl⟩ (fun _ => Nat.le_of_ble_eq_true rfl) (fun _ => rfl) (fun v u H locs hp hG => ?_)
    subst hp
    refine lv_pop S.1 S.2.1 dJ0_checkIndex_df160_8 rfl ?_
    have hG : gW K A s.heap [] _ _ := hG
    exact g_vret S hr hlk hQ dJ0_checkIndex_df160_9 (Nat.le_of_ble_eq_true rfl) (Nat.le_of_ble_eq_true rfl) (() : Unit) trivial hG
set_option maxHeartbeats 1000000 in
set_option maxRecDepth 100000 in
theorem c_J1_charAt_3b067 (l : Launch) (K : KC) (i : Nat) (wd : List Int) (k : Int) (hT : txI i wd) (hl9 : wd.length ≤ 100) (h0 : 0 ≤ k ∧ k < wd.length) : mG l yJ1_charAt_3b067 wsJ1_charAt_3b067 2 43 K [.ref (K.2.2.2.2 i), .int (iI k)] [] (fun (v : Value) (u : Unit) => (v = .int (iI (wd.getD k.toNat 0)))) (fun (u : Unit) => []) 0 0 := by
  refine mG_of cJ1_charAt_3b067 2 (by decide) rfl (Nat.le_of_ble_eq_true rfl) ?_
  intro p e s m below meth c A ls Q S C hG hl hr hlk hin hQ
  have S : CallFix p m c cJ1_charAt_3b067 2 s ([.ref (K.2.2.2.2 i), .int (iI k)] : List Value).toArray wsJ1_charAt_3b067 RJ1 := S
  have hl : lv_has ls 2 [(0, .ref (K.2.2.2.2 i)), (1, .int (iI k))] := hl
  have hG : gW K A s.heap [] s.heap [] := hG
  have bw := wd_bd hT.2 k.toNat
  refine lv_iload_n S.1 S.2.1 dJ1_charAt_3b067_0 rfl (lv_at hl 1 rfl) ?_
  refine lv_aload_n S.1 S.2.1 dJ1_charAt_3b067_1 rfl (lv_at hl 0 rfl) ?_
  refine g_strlen (z := (wd.length : Int)) S C hG hT rfl dJ1_charAt_3b067_2 ?_
  refine g_invSv (As := [.int (iI k), .int (iI (wd.length : Int))]) (rest := []) (gs' := (fun u : Unit => [])) S C hG [] (c_J0_checkIndex_df160 l K k (wd.length : Int) (by omega) (by omega)) rfl rfl (va_cwS 2 S.2.2.2.2 gJ1_charAt_3b067_J0_checkIndex_df160 rfl rfl rfl (by decide +kernel) ⟨Nat.le_of_ble_eq_true rfl, Nat.le_of_ble_eq_true rfl⟩) rfl hl.1 rfl (Nat.le_of_ble_eq_true rfl) dJ1_charAt_3b067_3 ⟨Nat.le_of_ble_eq_true rfl, Nat.le_of_ble_eq_true rfl⟩ (fun _ => Nat.le_of_ble_eq_true rfl) (fun _ => rfl) (fun u H locs hp hG => ?_)
  refine lv_aload_n S.1 S.2.1 dJ1_charAt_3b067_6 rfl (lv_at hl 0 rfl) ?_
  refine lv_iload_n S.1 S.2.1 dJ1_charAt_3b067_7 rfl (lv_at hl 1 rfl) ?_
  refine g_strbyte S C hG hT (by omega) (by omega) (by omega) dJ1_charAt_3b067_8 ?_
  refine g_sipush S dJ1_charAt_3b067_9 (by decide) ?_
  refine lv_iand (x := iI (wd.getD k.toNat 0)) (y := iI 255) S.1 S.2.1 dJ1_charAt_3b067_12 ?_
  refine g_top (w := .int (iI (wd.getD k.toNat 0))) (congrArg Value.int (iand_small (by omega))) ?_
  refine lv_i2c (v := iI (wd.getD k.toNat 0)) S.1 S.2.1 dJ1_charAt_3b067_13 (i2c_small (by omega)) ?_
  have hG : gW K A s.heap [] _ _ := hG
  exact g_nret S hr hlk hQ (nar_small (by omega)) dJ1_charAt_3b067_14 (Nat.le_of_ble_eq_true rfl) (Nat.le_of_ble_eq_true rfl) (() : Unit) rfl hG
set_option maxHeartbeats 1000000 in
set_option maxRecDepth 100000 in
theorem c_J0_coder_7d493 (l : Launch) (K : KC) (i : Nat) (wd : List Int) (hT : txI i wd) (hl9 : wd.length ≤ 100) : mG l yJ0_coder_7d493 wsJ0_coder_7d493 0 0 K [.ref (K.2.2.2.1 i)] [] (fun (v : Value) (u : Unit) => (v = .int (iI 0))) (fun (u : Unit) => []) 0 0 := by
  refine mG_of cJ0_coder_7d493 1 (by decide) rfl (Nat.le_of_ble_eq_true rfl) ?_
  intro p e s m below meth c A ls Q S C hG hl hr hlk hin hQ
  have S : CallFix p m c cJ0_coder_7d493 1 s ([.ref (K.2.2.2.1 i)] : List Value).toArray wsJ0_coder_7d493 RJ0 := S
  have hl : lv_has ls 1 [(0, .ref (K.2.2.2.1 i))] := hl
  have hG : gW K A s.heap [] s.heap [] := hG
  refine g_gets S C hG C.1.2.2.2.2.1.2.2.1 (List.mem_of_getElem? (i := 1) rfl) dJ0_coder_7d493_0 ?_
  refine g_top (w := .int (iI 1)) rfl ?_
  refine g_if_eq (tgt := 13) S dJ0_coder_7d493_3 (by decide) (by omega) (fun q3 => ?_) (fun q3 => ?_)
  · skip
    exact absurd q3 (by decide)
  · skip
    refine lv_aload_n S.1 S.2.1 dJ0_coder_7d493_6 rfl (lv_at hl 0 rfl) ?_
    refine g_strf S C hG (gTxt_of C hT).2.1 (List.mem_of_getElem? (i := 2) rfl) dJ0_coder_7d493_7 ?_
    refine g_top (w := .int (iI 0)) rfl ?_
    refine lv_goto (tgt := 14) S.1 S.2.1 dJ0_coder_7d493_10 (by decide) ?_
    have hG : gW K A s.heap [] _ _ := hG
    exact g_nret S hr hlk hQ rfl dJ0_coder_7d493_14 (Nat.le_of_ble_eq_true rfl) (Nat.le_of_ble_eq_true rfl) (() : Unit) rfl hG
set_option maxHeartbeats 1000000 in
set_option maxRecDepth 100000 in
theorem c_J0_isLatin1_aae02 (l : Launch) (K : KC) (i : Nat) (wd : List Int) (hT : txI i wd) (hl9 : wd.length ≤ 100) : mG l yJ0_isLatin1_aae02 wsJ0_isLatin1_aae02 0 0 K [.ref (K.2.2.2.1 i)] [] (fun (v : Value) (u : Unit) => (v = .int (iI 1))) (fun (u : Unit) => []) 0 0 := by
  refine mG_of cJ0_isLatin1_aae02 1 (by decide) rfl (Nat.le_of_ble_eq_true rfl) ?_
  intro p e s m below meth c A ls Q S C hG hl hr hlk hin hQ
  have S : CallFix p m c cJ0_isLatin1_aae02 1 s ([.ref (K.2.2.2.1 i)] : List Value).toArray wsJ0_isLatin1_aae02 RJ0 := S
  have hl : lv_has ls 1 [(0, .ref (K.2.2.2.1 i))] := hl
  have hG : gW K A s.heap [] s.heap [] := hG
  refine g_gets S C hG C.1.2.2.2.2.1.2.2.1 (List.mem_of_getElem? (i := 1) rfl) dJ0_isLatin1_aae02_0 ?_
  refine g_top (w := .int (iI 1)) rfl ?_
  refine g_if_eq (tgt := 17) S dJ0_isLatin1_aae02_3 (by decide) (by omega) (fun q3 => ?_) (fun q3 => ?_)
  · skip
    exact absurd q3 (by decide)
  · skip
    refine lv_aload_n S.1 S.2.1 dJ0_isLatin1_aae02_6 rfl (lv_at hl 0 rfl) ?_
    refine g_strf S C hG (gTxt_of C hT).2.1 (List.mem_of_getElem? (i := 2) rfl) dJ0_isLatin1_aae02_7 ?_
    refine g_top (w := .int (iI 0)) rfl ?_
    refine g_if_ne (tgt := 17) S dJ0_isLatin1_aae02_10 (by decide) (by omega) (fun q10 => ?_) (fun q10 => ?_)
    · skip
      exact absurd q10 (by decide)
    · skip
      refine g_iconst S dJ0_isLatin1_aae02_13 ?_
      refine lv_goto (tgt := 18) S.1 S.2.1 dJ0_isLatin1_aae02_14 (by decide) ?_
      have hG : gW K A s.heap [] _ _ := hG
      exact g_zret S hr hlk hQ (Or.inr rfl) dJ0_isLatin1_aae02_18 (Nat.le_of_ble_eq_true rfl) (Nat.le_of_ble_eq_true rfl) (() : Unit) rfl hG
set_option maxHeartbeats 1000000 in
set_option maxRecDepth 100000 in
theorem c_J0_length_8abf5 (l : Launch) (K : KC) (i : Nat) (wd : List Int) (hT : txI i wd) (hl9 : wd.length ≤ 100) : mG l yJ0_length_8abf5 wsJ0_length_8abf5 1 20 K [.ref (K.2.2.2.1 i)] [] (fun (v : Value) (u : Unit) => (v = .int (iI (wd.length : Int)))) (fun (u : Unit) => []) 0 0 := by
  refine mG_of cJ0_length_8abf5 1 (by decide) rfl (Nat.le_of_ble_eq_true rfl) ?_
  intro p e s m below meth c A ls Q S C hG hl hr hlk hin hQ
  have S : CallFix p m c cJ0_length_8abf5 1 s ([.ref (K.2.2.2.1 i)] : List Value).toArray wsJ0_length_8abf5 RJ0 := S
  have hl : lv_has ls 1 [(0, .ref (K.2.2.2.1 i))] := hl
  have hG : gW K A s.heap [] s.heap [] := hG
  refine lv_aload_n S.1 S.2.1 dJ0_length_8abf5_0 rfl (lv_at hl 0 rfl) ?_
  refine g_strf S C hG (gTxt_of C hT).2.2.1 (List.mem_of_getElem? (i := 1) rfl) dJ0_length_8abf5_1 ?_
  refine g_strlen (z := (wd.length : Int)) S C hG hT rfl dJ0_length_8abf5_4 ?_
  refine lv_aload_n S.1 S.2.1 dJ0_length_8abf5_5 rfl (lv_at hl 0 rfl) ?_
  refine g_invVO (As := []) (rest := [.int (iI (wd.length : Int))]) (gs' := (fun u : Unit => [])) S C hG [] (c_J0_coder_7d493 l K i wd hT hl9) rfl rfl hT (cwV 0 S.2.2.2.2 gJ0_length_8abf5_J0_coder_7d493 rfl rfl rfl (by decide +kernel) ⟨Nat.le_of_ble_eq_true rfl, Nat.le_of_ble_eq_true rfl⟩) rfl hl.1 rfl (Nat.le_of_ble_eq_true rfl) dJ0_length_8abf5_6 ⟨Nat.le_of_ble_eq_true rfl, Nat.le_of_ble_eq_true rfl⟩ (fun _ => Nat.le_of_ble_eq_true rfl) (fun _ => rfl) (fun v u H locs hp hG => ?_)
  subst hp
  refine g_ishr S 0 1 dJ0_length_8abf5_9 (by omega) (by decide) (by decide) (by omega) ?_
  refine g_top (w := .int (iI ((wd.length : Int)))) (congrArg (fun z : Int => Value.int (iI z)) ((by omega))) ?_
  have hG : gW K A s.heap [] _ _ := hG
  exact g_iret S hr hlk hQ dJ0_length_8abf5_10 (Nat.le_of_ble_eq_true rfl) (Nat.le_of_ble_eq_true rfl) (() : Unit) rfl hG
set_option maxHeartbeats 1000000 in
set_option maxRecDepth 100000 in
theorem c_J0_charAt_5068e (l : Launch) (K : KC) (i : Nat) (wd : List Int) (k : Int) (hT : txI i wd) (hl9 : wd.length ≤ 100) (h0 : 0 ≤ k ∧ k < wd.length) : mG l yJ0_charAt_5068e wsJ0_charAt_5068e 3 64 K [.ref (K.2.2.2.1 i), .int (iI k)] [] (fun (v : Value) (u : Unit) => (v = .int (iI (wd.getD k.toNat 0)))) (fun (u : Unit) => []) 0 0 := by
  refine mG_of cJ0_charAt_5068e 2 (by decide) rfl (Nat.le_of_ble_eq_true rfl) ?_
  intro p e s m below meth c A ls Q S C hG hl hr hlk hin hQ
  have S : CallFix p m c cJ0_charAt_5068e 2 s ([.ref (K.2.2.2.1 i), .int (iI k)] : List Value).toArray wsJ0_charAt_5068e RJ0 := S
  have hl : lv_has ls 2 [(0, .ref (K.2.2.2.1 i)), (1, .int (iI k))] := hl
  have hG : gW K A s.heap [] s.heap [] := hG
  have bw := wd_bd hT.2 k.toNat
  refine lv_aload_n S.1 S.2.1 dJ0_charAt_5068e_0 rfl (lv_at hl 0 rfl) ?_
  refine g_invVO (As := []) (rest := []) (gs' := (fun u : Unit => [])) S C hG [] (c_J0_isLatin1_aae02 l K i wd hT hl9) rfl rfl hT (cwV 0 S.2.2.2.2 gJ0_charAt_5068e_J0_isLatin1_aae02 rfl rfl rfl (by decide +kernel) ⟨Nat.le_of_ble_eq_true rfl, Nat.le_of_ble_eq_true rfl⟩) rfl hl.1 rfl (Nat.le_of_ble_eq_true rfl) dJ0_charAt_5068e_1 ⟨Nat.le_of_ble_eq_true rfl, Nat.le_of_ble_eq_true rfl⟩ (fun _ => Nat.le_of_ble_eq_true rfl) (fun _ => rfl) (fun v u H locs hp hG => ?_)
  subst hp
  refine g_if_eq (tgt := 16) S dJ0_charAt_5068e_4 (by decide) (by omega) (fun q4 => ?_) (fun q4 => ?_)
  · skip
    exact absurd q4 (by decide)
  · skip
    refine lv_aload_n S.1 S.2.1 dJ0_charAt_5068e_7 rfl (lv_at hl 0 rfl) ?_
    refine g_strf S C hG (gTxt_of C hT).2.2.1 (List.mem_of_getElem? (i := 1) rfl) dJ0_charAt_5068e_8 ?_
    refine lv_iload_n S.1 S.2.1 dJ0_charAt_5068e_11 rfl (lv_at hl 1 rfl) ?_
    refine g_invS (As := [.ref (K.2.2.2.2 i), .int (iI k)]) (rest := []) (gs' := (fun u : Unit => [])) S C hG [] (c_J1_charAt_3b067 l K i wd k hT hl9 h0) rfl rfl (va_cwS 2 S.2.2.2.2 gJ0_charAt_5068e_J1_charAt_3b067 rfl rfl rfl (by decide +kernel) ⟨Nat.le_of_ble_eq_true rfl, Nat.le_of_ble_eq_true rfl⟩) rfl hl.1 rfl (Nat.le_of_ble_eq_true rfl) dJ0_charAt_5068e_12 ⟨Nat.le_of_ble_eq_true rfl, Nat.le_of_ble_eq_true rfl⟩ (fun _ => Nat.le_of_ble_eq_true rfl) (fun _ => rfl) (fun v u H locs hp hG => ?_)
    subst hp
    have hG : gW K A s.heap [] _ _ := hG
    exact g_nret S hr hlk hQ (nar_small (by omega)) dJ0_charAt_5068e_15 (Nat.le_of_ble_eq_true rfl) (Nat.le_of_ble_eq_true rfl) (() : Unit) rfl hG
