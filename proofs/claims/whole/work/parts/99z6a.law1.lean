set_option maxHeartbeats 1000000 in
set_option maxRecDepth 100000 in
theorem c_L_append (l : Launch) (K : KC) (ad : Nat → Nat) (n : Int) (F : Int → Int) (y : Int) (a1 : Int) (a2 : Int) (a3 : Int) (a4 : Int) (ob : Nat) (OB : Int → Int) (hv0 : -2147483648 ≤ y ∧ y < 2147483648) (hv1 : -2147483648 ≤ a1 ∧ a1 < 2147483648) (hv2 : -2147483648 ≤ a2 ∧ a2 < 2147483648) (hv3 : -2147483648 ≤ a3 ∧ a3 < 2147483648) (hv4 : -2147483648 ≤ a4 ∧ a4 < 2147483648) (h0 : 0 ≤ n ∧ n + 20 ≤ 400) : mH l yL_append wsL_append 3 68 K [.ref (ad 0), .int (iI y), .int (iI a1), .int (iI a2), .int (iI a3), .int (iI a4), .ref ob] [gRLC K ad, gBuf K (ad 1) (ad 12) n F, gArrL K 1 ob OB] (fun (v : Value) (u : (Int → Int)) => (v = .int (iI 0)) ∧ (u = apd5 F n y a1 a2 a3 a4)) (fun (u : (Int → Int)) => [gRLC K ad, gBuf K (ad 1) (ad 12) (n + 4 + 4 + 4 + 4 + 4) u, gArrL K 1 ob (upI OB 0 (iI (n + 20)).toInt)]) 0 0 := by
  refine mH_of cL_append 8 (by decide) rfl (Nat.le_of_ble_eq_true rfl) ?_
  intro p e s m below meth c A ls Q S C hG hl hr hlk hin htab hQ
  have S : CallFix p m c cL_append 8 s ([.ref (ad 0), .int (iI y), .int (iI a1), .int (iI a2), .int (iI a3), .int (iI a4), .ref ob] : List Value).toArray wsL_append RL := S
  have hl : lv_has ls 8 [(0, .ref (ad 0)), (1, .int (iI y)), (2, .int (iI a1)), (3, .int (iI a2)), (4, .int (iI a3)), (5, .int (iI a4)), (6, .ref ob)] := hl
  have hG : gW K A s.heap [gRLC K ad, gBuf K (ad 1) (ad 12) n F, gArrL K 1 ob OB] s.heap [] := hG
  refine lv_aload S.1 S.2.1 dL_append_0 (lv_at hl 6 rfl) ?_
  refine g_iconst S dL_append_2 ?_
  refine lv_aload_n S.1 S.2.1 dL_append_3 rfl (lv_at hl 0 rfl) ?_
  refine lv_iload_n S.1 S.2.1 dL_append_4 rfl (lv_at hl 1 rfl) ?_
  refine lv_iload_n S.1 S.2.1 dL_append_5 rfl (lv_at hl 2 rfl) ?_
  refine lv_iload_n S.1 S.2.1 dL_append_6 rfl (lv_at hl 3 rfl) ?_
  refine lv_iload S.1 S.2.1 dL_append_7 (lv_at hl 4 rfl) ?_
  refine lv_iload S.1 S.2.1 dL_append_9 (lv_at hl 5 rfl) ?_
  refine g_invV (As := [.int (iI y), .int (iI a1), .int (iI a2), .int (iI a3), .int (iI a4)]) (rest := [.int (iI 0), .ref ob]) (gs' := (fun u : (Int → Int) => [gRLC K ad, gBuf K (ad 1) (ad 12) (n + 4 + 4 + 4 + 4 + 4) u, gArrL K 1 ob OB])) S C hG [0, 1] (c_X8_append l K ad n F y a1 a2 a3 a4 hv0 hv1 hv2 hv3 hv4 h0) rfl rfl 0 rfl rfl (cwV 5 S.2.2.2.2 gL_append_X8_append rfl rfl rfl (by decide +kernel) ⟨Nat.le_of_ble_eq_true rfl, Nat.le_of_ble_eq_true rfl⟩) rfl hl.1 rfl (Nat.le_of_ble_eq_true rfl) dL_append_11 ⟨Nat.le_of_ble_eq_true rfl, Nat.le_of_ble_eq_true rfl⟩ (fun _ => Nat.le_of_ble_eq_true rfl) (fun _ => rfl) (fun v u H locs hp hG => ?_)
  obtain ⟨F2_11, rfl⟩ : ∃ z, z = u := ⟨_, rfl⟩
  obtain ⟨rfl, hF_11⟩ := hp
  have hF_11 : F2_11 = apd5 F n y a1 a2 a3 a4 := hF_11
  have hG : gW K A s.heap [gRLC K ad, gBuf K (ad 1) (ad 12) (n + 4 + 4 + 4 + 4 + 4) F2_11, gArrL K 1 ob OB] _ _ := hG
  refine g_i2lr S dL_append_14 ?_
  refine g_last (n := 1) (gs' := [gRLC K ad, gBuf K (ad 1) (ad 12) (n + 4 + 4 + 4 + 4 + 4) F2_11, gArrL K 1 ob (upI OB 0 ((iI (n + 20)).toInt))]) S C hG 3 rfl (by decide) (by decide) (by decide) rfl dL_append_15 (fun H locs hG => ?_)
  refine lv_goto (tgt := 23) S.1 S.2.1 dL_append_16 (by decide) ?_
  refine g_iconst S dL_append_23 ?_
  have hG : gW K A s.heap [gRLC K ad, gBuf K (ad 1) (ad 12) (n + 4 + 4 + 4 + 4 + 4) F2_11, gArrL K 1 ob (upI OB 0 (iI (n + 20)).toInt)] _ _ := hG
  exact g_iretH S hr hlk hQ dL_append_24 (Nat.le_of_ble_eq_true rfl) (Nat.le_of_ble_eq_true rfl) ((F2_11) : (Int → Int)) ⟨rfl, hF_11⟩ hG

set_option maxHeartbeats 1000000 in
set_option maxRecDepth 100000 in
theorem x1_L_append (l : Launch) (K : KC) (ad : Nat → Nat) (n : Int) (F : Int → Int) (y : Int) (a1 : Int) (a2 : Int) (a3 : Int) (a4 : Int) (ob : Nat) (OB : Int → Int) (hv0 : -2147483648 ≤ y ∧ y < 2147483648) (hv1 : -2147483648 ≤ a1 ∧ a1 < 2147483648) (hv2 : -2147483648 ≤ a2 ∧ a2 < 2147483648) (hv3 : -2147483648 ≤ a3 ∧ a3 < 2147483648) (hv4 : -2147483648 ≤ a4 ∧ a4 < 2147483648) (h0 : 0 ≤ n ∧ n ≤ 400) (h1 : ¬ n + 20 ≤ 400) (hst : l.stackTraces = false) : mH l yL_append wsL_append 7 107 K [.ref (ad 0), .int (iI y), .int (iI a1), .int (iI a2), .int (iI a3), .int (iI a4), .ref ob] [gRLC K ad, gBuf K (ad 1) (ad 12) n F, gArrL K 1 ob OB] (fun (v : Value) (u : Unit) => (v = .int (iI 1))) (fun (u : Unit) => [gRLC K ad, gBuf K (ad 1) (ad 12) n F, gArrL K 1 ob OB]) 1 6 := by
  refine mH_of cL_append 8 (by decide) rfl (Nat.le_of_ble_eq_true rfl) ?_
  intro p e s m below meth c A ls Q S C hG hl hr hlk hin htab hQ
  have S : CallFix p m c cL_append 8 s ([.ref (ad 0), .int (iI y), .int (iI a1), .int (iI a2), .int (iI a3), .int (iI a4), .ref ob] : List Value).toArray wsL_append RL := S
  have hl : lv_has ls 8 [(0, .ref (ad 0)), (1, .int (iI y)), (2, .int (iI a1)), (3, .int (iI a2)), (4, .int (iI a3)), (5, .int (iI a4)), (6, .ref ob)] := hl
  have hG : gW K A s.heap [gRLC K ad, gBuf K (ad 1) (ad 12) n F, gArrL K 1 ob OB] s.heap [] := hG
  refine lv_aload S.1 S.2.1 dL_append_0 (lv_at hl 6 rfl) ?_
  refine g_iconst S dL_append_2 ?_
  refine lv_aload_n S.1 S.2.1 dL_append_3 rfl (lv_at hl 0 rfl) ?_
  refine lv_iload_n S.1 S.2.1 dL_append_4 rfl (lv_at hl 1 rfl) ?_
  refine lv_iload_n S.1 S.2.1 dL_append_5 rfl (lv_at hl 2 rfl) ?_
  refine lv_iload_n S.1 S.2.1 dL_append_6 rfl (lv_at hl 3 rfl) ?_
  refine lv_iload S.1 S.2.1 dL_append_7 (lv_at hl 4 rfl) ?_
  refine lv_iload S.1 S.2.1 dL_append_9 (lv_at hl 5 rfl) ?_
  refine g_xV (E := "java/lang/IllegalStateException") (As := [.int (iI y), .int (iI a1), .int (iI a2), .int (iI a3), .int (iI a4)]) (rest := [.int (iI 0), .ref ob]) (gs' := (fun u : Unit => [gRLC K ad, gBuf K (ad 1) (ad 12) n F, gArrL K 1 ob OB])) S C hG [0, 1] (x1_append l K ad n F y a1 a2 a3 a4 hv0 hv1 hv2 hv3 hv4 h0 h1 hst) rfl rfl 0 rfl rfl (cwV 5 S.2.2.2.2 gL_append_X8_append rfl rfl rfl (by decide +kernel) ⟨Nat.le_of_ble_eq_true rfl, Nat.le_of_ble_eq_true rfl⟩) rfl hl.1 rfl (Nat.le_of_ble_eq_true rfl) dL_append_11 ⟨Nat.le_of_ble_eq_true rfl, Nat.le_of_ble_eq_true rfl⟩ (fun _ => Nat.le_of_ble_eq_true rfl) (fun _ => rfl) (fun u q9 ce9 H locs hp hG hq9 hv9 hcl9 => ?_)
  refine g_catch (E := "java/lang/IllegalStateException") (st := 0) (en := 16) (hpc := 19) (ct := 13) (suf' := []) S C [] htab (List.mem_of_getElem? (l := exC) (i := 2) rfl) (fun _ h => absurd h List.not_mem_nil) ⟨by decide, by decide⟩ (by decide) (List.mem_of_getElem? (i := 1) rfl) hq9 hv9 hcl9 ?_
  refine lv_astore (lv' := [(7, .ref q9), (0, .ref (ad 0)), (1, .int (iI y)), (2, .int (iI a1)), (3, .int (iI a2)), (4, .int (iI a3)), (5, .int (iI a4)), (6, .ref ob)]) S.1 S.2.1 dL_append_19 hl (by decide) rfl (fun ls hl => ?_)
  refine g_iconst S dL_append_21 ?_
  have hG : gW K A s.heap [gRLC K ad, gBuf K (ad 1) (ad 12) n F, gArrL K 1 ob OB] _ _ := hG
  exact g_iretH S hr hlk hQ dL_append_22 (Nat.le_of_ble_eq_true rfl) (Nat.le_of_ble_eq_true rfl) (() : Unit) rfl hG

set_option maxHeartbeats 1000000 in
set_option maxRecDepth 100000 in
theorem c_L_truncate (l : Launch) (K : KC) (ad : Nat → Nat) (n : Int) (F : Int → Int) (x : Int) (hx : -2147483648 ≤ x ∧ x < 2147483648) (h0 : 0 ≤ n ∧ n ≤ 400) (h1 : 0 ≤ x ∧ x ≤ n) : mH l yL_truncate wsL_truncate 2 43 K [.ref (ad 0), .int (iI x)] [gRLC K ad, gBuf K (ad 1) (ad 12) n F] (fun (v : Value) (u : Unit) => (v = .int (iI 0))) (fun (u : Unit) => [gRLC K ad, gBuf K (ad 1) (ad 12) x F]) 0 0 := by
  refine mH_of cL_truncate 3 (by decide) rfl (Nat.le_of_ble_eq_true rfl) ?_
  intro p e s m below meth c A ls Q S C hG hl hr hlk hin htab hQ
  have S : CallFix p m c cL_truncate 3 s ([.ref (ad 0), .int (iI x)] : List Value).toArray wsL_truncate RL := S
  have hl : lv_has ls 3 [(0, .ref (ad 0)), (1, .int (iI x))] := hl
  have hG : gW K A s.heap [gRLC K ad, gBuf K (ad 1) (ad 12) n F] s.heap [] := hG
  refine lv_aload_n S.1 S.2.1 dL_truncate_0 rfl (lv_at hl 0 rfl) ?_
  refine lv_iload_n S.1 S.2.1 dL_truncate_1 rfl (lv_at hl 1 rfl) ?_
  refine g_invVv (As := [.int (iI x)]) (rest := []) (gs' := (fun u : Unit => [gRLC K ad, gBuf K (ad 1) (ad 12) x F])) S C hG [0, 1] (c_X8_truncate l K ad n F x hx h0 h1) rfl rfl 0 rfl rfl (cwV 1 S.2.2.2.2 gL_truncate_X8_truncate rfl rfl rfl (by decide +kernel) ⟨Nat.le_of_ble_eq_true rfl, Nat.le_of_ble_eq_true rfl⟩) rfl hl.1 rfl (Nat.le_of_ble_eq_true rfl) dL_truncate_2 ⟨Nat.le_of_ble_eq_true rfl, Nat.le_of_ble_eq_true rfl⟩ (fun _ => Nat.le_of_ble_eq_true rfl) (fun _ => rfl) (fun u H locs hp hG => ?_)
  refine lv_goto (tgt := 11) S.1 S.2.1 dL_truncate_5 (by decide) ?_
  refine g_iconst S dL_truncate_11 ?_
  have hG : gW K A s.heap [gRLC K ad, gBuf K (ad 1) (ad 12) x F] _ _ := hG
  exact g_iretH S hr hlk hQ dL_truncate_12 (Nat.le_of_ble_eq_true rfl) (Nat.le_of_ble_eq_true rfl) (() : Unit) rfl hG

set_option maxHeartbeats 1000000 in
set_option maxRecDepth 100000 in
theorem x1_L_truncate (l : Launch) (K : KC) (ad : Nat → Nat) (n : Int) (F : Int → Int) (x : Int) (hx : -2147483648 ≤ x ∧ x < 2147483648) (h0 : 0 ≤ n ∧ n ≤ 400) (h1 : ¬ (0 ≤ x ∧ x ≤ n)) (hst : l.stackTraces = false) : mH l yL_truncate wsL_truncate 8 125 K [.ref (ad 0), .int (iI x)] [gRLC K ad, gBuf K (ad 1) (ad 12) n F] (fun (v : Value) (u : Unit) => (v = .int (iI 1))) (fun (u : Unit) => [gRLC K ad, gBuf K (ad 1) (ad 12) n F]) 1 6 := by
  refine mH_of cL_truncate 3 (by decide) rfl (Nat.le_of_ble_eq_true rfl) ?_
  intro p e s m below meth c A ls Q S C hG hl hr hlk hin htab hQ
  have S : CallFix p m c cL_truncate 3 s ([.ref (ad 0), .int (iI x)] : List Value).toArray wsL_truncate RL := S
  have hl : lv_has ls 3 [(0, .ref (ad 0)), (1, .int (iI x))] := hl
  have hG : gW K A s.heap [gRLC K ad, gBuf K (ad 1) (ad 12) n F] s.heap [] := hG
  refine lv_aload_n S.1 S.2.1 dL_truncate_0 rfl (lv_at hl 0 rfl) ?_
  refine lv_iload_n S.1 S.2.1 dL_truncate_1 rfl (lv_at hl 1 rfl) ?_
  refine g_xV (E := "java/lang/IllegalArgumentException") (As := [.int (iI x)]) (rest := []) (gs' := (fun u : Unit => [gRLC K ad, gBuf K (ad 1) (ad 12) n F])) S C hG [0, 1] (x1_truncate l K ad n F x hx h0 h1 hst) rfl rfl 0 rfl rfl (cwV 1 S.2.2.2.2 gL_truncate_X8_truncate rfl rfl rfl (by decide +kernel) ⟨Nat.le_of_ble_eq_true rfl, Nat.le_of_ble_eq_true rfl⟩) rfl hl.1 rfl (Nat.le_of_ble_eq_true rfl) dL_truncate_2 ⟨Nat.le_of_ble_eq_true rfl, Nat.le_of_ble_eq_true rfl⟩ (fun _ => Nat.le_of_ble_eq_true rfl) (fun _ => rfl) (fun u q9 ce9 H locs hp hG hq9 hv9 hcl9 => ?_)
  refine g_catch (E := "java/lang/IllegalArgumentException") (st := 0) (en := 5) (hpc := 8) (ct := 19) (suf' := []) S C [] htab (List.mem_of_getElem? (l := exC) (i := 1) rfl) (fun _ h => absurd h List.not_mem_nil) ⟨by decide, by decide⟩ (by decide) (List.mem_of_getElem? (i := 1) rfl) hq9 hv9 hcl9 ?_
  refine lv_astore_n (lv' := [(2, .ref q9), (0, .ref (ad 0)), (1, .int (iI x))]) S.1 S.2.1 dL_truncate_8 rfl hl (by decide) rfl (fun ls hl => ?_)
  refine g_iconst S dL_truncate_9 ?_
  have hG : gW K A s.heap [gRLC K ad, gBuf K (ad 1) (ad 12) n F] _ _ := hG
  exact g_iretH S hr hlk hQ dL_truncate_10 (Nat.le_of_ble_eq_true rfl) (Nat.le_of_ble_eq_true rfl) (() : Unit) rfl hG

set_option maxHeartbeats 1000000 in
set_option maxRecDepth 100000 in
theorem c_L_property (l : Launch) (K : KC) (ad : Nat → Nat) (ou : Int) (mi : Int) (bo : Int) (ln : Int) (LF : Int → Int) (sn : Int) (SF : Int → Int) (N : Int → Int) (x : Int) (ob : Nat) (OB : Int → Int) (hS : ScOk N ou mi bo ln LF sn SF) (hN : NOk0 N) (h0 : 0 ≤ x ∧ x ≤ 5) : mH l yL_property wsL_property 3 67 K [.ref (ad 0), .int (iI x), .ref ob] [gRLC K ad, gScn K (ad 3) (ad 14) (ad 15) (ad 16) (ad 17) ou mi bo ln LF sn SF, gArrL K 1 ob OB] (fun (v : Value) (u : Unit) => (v = .int (iI 0))) (fun (u : Unit) => [gRLC K ad, gScn K (ad 3) (ad 14) (ad 15) (ad 16) (ad 17) ou mi bo ln LF sn SF, gArrL K 1 ob (upI OB 0 (iI (prpN N x)).toInt)]) 0 0 := by
  refine mH_of cL_property 4 (by decide) rfl (Nat.le_of_ble_eq_true rfl) ?_
  intro p e s m below meth c A ls Q S C hG hl hr hlk hin htab hQ
  have S : CallFix p m c cL_property 4 s ([.ref (ad 0), .int (iI x), .ref ob] : List Value).toArray wsL_property RL := S
  have hl : lv_has ls 4 [(0, .ref (ad 0)), (1, .int (iI x)), (2, .ref ob)] := hl
  have hG : gW K A s.heap [gRLC K ad, gScn K (ad 3) (ad 14) (ad 15) (ad 16) (ad 17) ou mi bo ln LF sn SF, gArrL K 1 ob OB] s.heap [] := hG
  refine lv_aload_n S.1 S.2.1 dL_property_0 rfl (lv_at hl 2 rfl) ?_
  refine g_iconst S dL_property_1 ?_
  refine lv_aload_n S.1 S.2.1 dL_property_2 rfl (lv_at hl 0 rfl) ?_
  refine lv_iload_n S.1 S.2.1 dL_property_3 rfl (lv_at hl 1 rfl) ?_
  refine g_invV (As := [.int (iI x)]) (rest := [.int (iI 0), .ref ob]) (gs' := (fun u : Unit => [gRLC K ad, gScn K (ad 3) (ad 14) (ad 15) (ad 16) (ad 17) ou mi bo ln LF sn SF, gArrL K 1 ob OB])) S C hG [0, 1] (c_X8_property l K ad ou mi bo ln LF sn SF N x hS hN h0) rfl rfl 0 rfl rfl (cwV 1 S.2.2.2.2 gL_property_X8_property rfl rfl rfl (by decide +kernel) ⟨Nat.le_of_ble_eq_true rfl, Nat.le_of_ble_eq_true rfl⟩) rfl hl.1 rfl (Nat.le_of_ble_eq_true rfl) dL_property_4 ⟨Nat.le_of_ble_eq_true rfl, Nat.le_of_ble_eq_true rfl⟩ (fun _ => Nat.le_of_ble_eq_true rfl) (fun _ => rfl) (fun v u H locs hp hG => ?_)
  subst hp
  refine g_i2lr S dL_property_7 ?_
  refine g_last (n := 1) (gs' := [gRLC K ad, gScn K (ad 3) (ad 14) (ad 15) (ad 16) (ad 17) ou mi bo ln LF sn SF, gArrL K 1 ob (upI OB 0 ((iI (prpN N x)).toInt))]) S C hG 6 rfl (by decide) (by decide) (by decide) rfl dL_property_8 (fun H locs hG => ?_)
  refine lv_goto (tgt := 15) S.1 S.2.1 dL_property_9 (by decide) ?_
  refine g_iconst S dL_property_15 ?_
  have hG : gW K A s.heap [gRLC K ad, gScn K (ad 3) (ad 14) (ad 15) (ad 16) (ad 17) ou mi bo ln LF sn SF, gArrL K 1 ob (upI OB 0 (iI (prpN N x)).toInt)] _ _ := hG
  exact g_iretH S hr hlk hQ dL_property_16 (Nat.le_of_ble_eq_true rfl) (Nat.le_of_ble_eq_true rfl) (() : Unit) rfl hG

set_option maxHeartbeats 1000000 in
set_option maxRecDepth 100000 in
theorem x_L_property (l : Launch) (K : KC) (ad : Nat → Nat) (ou : Int) (mi : Int) (bo : Int) (ln : Int) (LF : Int → Int) (sn : Int) (SF : Int → Int) (N : Int → Int) (x : Int) (ob : Nat) (OB : Int → Int) (hS : ScOk N ou mi bo ln LF sn SF) (hN : NOk0 N) (hx : -2147483648 ≤ x ∧ x < 2147483648) (h0 : ¬ (0 ≤ x ∧ x ≤ 5)) (hst : l.stackTraces = false) : mH l yL_property wsL_property 7 103 K [.ref (ad 0), .int (iI x), .ref ob] [gRLC K ad, gScn K (ad 3) (ad 14) (ad 15) (ad 16) (ad 17) ou mi bo ln LF sn SF, gArrL K 1 ob OB] (fun (v : Value) (u : Unit) => (v = .int (iI 1))) (fun (u : Unit) => [gRLC K ad, gScn K (ad 3) (ad 14) (ad 15) (ad 16) (ad 17) ou mi bo ln LF sn SF, gArrL K 1 ob OB]) 1 6 := by
  refine mH_of cL_property 4 (by decide) rfl (Nat.le_of_ble_eq_true rfl) ?_
  intro p e s m below meth c A ls Q S C hG hl hr hlk hin htab hQ
  have S : CallFix p m c cL_property 4 s ([.ref (ad 0), .int (iI x), .ref ob] : List Value).toArray wsL_property RL := S
  have hl : lv_has ls 4 [(0, .ref (ad 0)), (1, .int (iI x)), (2, .ref ob)] := hl
  have hG : gW K A s.heap [gRLC K ad, gScn K (ad 3) (ad 14) (ad 15) (ad 16) (ad 17) ou mi bo ln LF sn SF, gArrL K 1 ob OB] s.heap [] := hG
  refine lv_aload_n S.1 S.2.1 dL_property_0 rfl (lv_at hl 2 rfl) ?_
  refine g_iconst S dL_property_1 ?_
  refine lv_aload_n S.1 S.2.1 dL_property_2 rfl (lv_at hl 0 rfl) ?_
  refine lv_iload_n S.1 S.2.1 dL_property_3 rfl (lv_at hl 1 rfl) ?_
  refine g_xV (E := "java/lang/IllegalArgumentException") (As := [.int (iI x)]) (rest := [.int (iI 0), .ref ob]) (gs' := (fun u : Unit => [gRLC K ad, gScn K (ad 3) (ad 14) (ad 15) (ad 16) (ad 17) ou mi bo ln LF sn SF, gArrL K 1 ob OB])) S C hG [0, 1] (x_property l K ad ou mi bo ln LF sn SF N x hS hN hx h0 hst) rfl rfl 0 rfl rfl (cwV 1 S.2.2.2.2 gL_property_X8_property rfl rfl rfl (by decide +kernel) ⟨Nat.le_of_ble_eq_true rfl, Nat.le_of_ble_eq_true rfl⟩) rfl hl.1 rfl (Nat.le_of_ble_eq_true rfl) dL_property_4 ⟨Nat.le_of_ble_eq_true rfl, Nat.le_of_ble_eq_true rfl⟩ (fun _ => Nat.le_of_ble_eq_true rfl) (fun _ => rfl) (fun u q9 ce9 H locs hp hG hq9 hv9 hcl9 => ?_)
  refine g_catch (E := "java/lang/IllegalArgumentException") (st := 0) (en := 9) (hpc := 12) (ct := 19) (suf' := []) S C [] htab (List.mem_of_getElem? (l := exC) (i := 1) rfl) (fun _ h => absurd h List.not_mem_nil) ⟨by decide, by decide⟩ (by decide) (List.mem_of_getElem? (i := 1) rfl) hq9 hv9 hcl9 ?_
  refine lv_astore_n (lv' := [(3, .ref q9), (0, .ref (ad 0)), (1, .int (iI x)), (2, .ref ob)]) S.1 S.2.1 dL_property_12 rfl hl (by decide) rfl (fun ls hl => ?_)
  refine g_iconst S dL_property_13 ?_
  have hG : gW K A s.heap [gRLC K ad, gScn K (ad 3) (ad 14) (ad 15) (ad 16) (ad 17) ou mi bo ln LF sn SF, gArrL K 1 ob OB] _ _ := hG
  exact g_iretH S hr hlk hQ dL_property_14 (Nat.le_of_ble_eq_true rfl) (Nat.le_of_ble_eq_true rfl) (() : Unit) rfl hG

set_option maxHeartbeats 1000000 in
set_option maxRecDepth 100000 in
theorem c_L_layer (l : Launch) (K : KC) (ad : Nat → Nat) (ou : Int) (mi : Int) (bo : Int) (ln : Int) (LF : Int → Int) (sn : Int) (SF : Int → Int) (N : Int → Int) (y : Int) (x : Int) (ob : Nat) (OB : Int → Int) (hS : ScOk N ou mi bo ln LF sn SF) (hN : NOk0 N) (hv : -2147483648 ≤ y ∧ y < 2147483648) (hx : -2147483648 ≤ x ∧ x < 2147483648) (hy : 0 ≤ y ∧ y < N 0) (h1 : 0 ≤ x ∧ x ≤ 3) : mH l yL_layer wsL_layer 3 68 K [.ref (ad 0), .int (iI y), .int (iI x), .ref ob] [gRLC K ad, gScn K (ad 3) (ad 14) (ad 15) (ad 16) (ad 17) ou mi bo ln LF sn SF, gArrL K 1 ob OB] (fun (v : Value) (u : Unit) => (v = .int (iI 0))) (fun (u : Unit) => [gRLC K ad, gScn K (ad 3) (ad 14) (ad 15) (ad 16) (ad 17) ou mi bo ln LF sn SF, gArrL K 1 ob (upI OB 0 (iI (layA N y x)).toInt)]) 0 0 := by
  refine mH_of cL_layer 5 (by decide) rfl (Nat.le_of_ble_eq_true rfl) ?_
  intro p e s m below meth c A ls Q S C hG hl hr hlk hin htab hQ
  have S : CallFix p m c cL_layer 5 s ([.ref (ad 0), .int (iI y), .int (iI x), .ref ob] : List Value).toArray wsL_layer RL := S
  have hl : lv_has ls 5 [(0, .ref (ad 0)), (1, .int (iI y)), (2, .int (iI x)), (3, .ref ob)] := hl
  have hG : gW K A s.heap [gRLC K ad, gScn K (ad 3) (ad 14) (ad 15) (ad 16) (ad 17) ou mi bo ln LF sn SF, gArrL K 1 ob OB] s.heap [] := hG
  refine lv_aload_n S.1 S.2.1 dL_layer_0 rfl (lv_at hl 3 rfl) ?_
  refine g_iconst S dL_layer_1 ?_
  refine lv_aload_n S.1 S.2.1 dL_layer_2 rfl (lv_at hl 0 rfl) ?_
  refine lv_iload_n S.1 S.2.1 dL_layer_3 rfl (lv_at hl 1 rfl) ?_
  refine lv_iload_n S.1 S.2.1 dL_layer_4 rfl (lv_at hl 2 rfl) ?_
  refine g_invV (As := [.int (iI y), .int (iI x)]) (rest := [.int (iI 0), .ref ob]) (gs' := (fun u : Unit => [gRLC K ad, gScn K (ad 3) (ad 14) (ad 15) (ad 16) (ad 17) ou mi bo ln LF sn SF, gArrL K 1 ob OB])) S C hG [0, 1] (c_X8_layer l K ad ou mi bo ln LF sn SF N y x hS hN hv hx hy h1) rfl rfl 0 rfl rfl (cwV 2 S.2.2.2.2 gL_layer_X8_layer rfl rfl rfl (by decide +kernel) ⟨Nat.le_of_ble_eq_true rfl, Nat.le_of_ble_eq_true rfl⟩) rfl hl.1 rfl (Nat.le_of_ble_eq_true rfl) dL_layer_5 ⟨Nat.le_of_ble_eq_true rfl, Nat.le_of_ble_eq_true rfl⟩ (fun _ => Nat.le_of_ble_eq_true rfl) (fun _ => rfl) (fun v u H locs hp hG => ?_)
  subst hp
  refine g_i2lr S dL_layer_8 ?_
  refine g_last (n := 1) (gs' := [gRLC K ad, gScn K (ad 3) (ad 14) (ad 15) (ad 16) (ad 17) ou mi bo ln LF sn SF, gArrL K 1 ob (upI OB 0 ((iI (layA N y x)).toInt))]) S C hG 6 rfl (by decide) (by decide) (by decide) rfl dL_layer_9 (fun H locs hG => ?_)
  refine lv_goto (tgt := 21) S.1 S.2.1 dL_layer_10 (by decide) ?_
  refine g_iconst S dL_layer_21 ?_
  have hG : gW K A s.heap [gRLC K ad, gScn K (ad 3) (ad 14) (ad 15) (ad 16) (ad 17) ou mi bo ln LF sn SF, gArrL K 1 ob (upI OB 0 (iI (layA N y x)).toInt)] _ _ := hG
  exact g_iretH S hr hlk hQ dL_layer_22 (Nat.le_of_ble_eq_true rfl) (Nat.le_of_ble_eq_true rfl) (() : Unit) rfl hG

set_option maxHeartbeats 1000000 in
set_option maxRecDepth 100000 in
theorem x1_L_layer (l : Launch) (K : KC) (ad : Nat → Nat) (ou : Int) (mi : Int) (bo : Int) (ln : Int) (LF : Int → Int) (sn : Int) (SF : Int → Int) (N : Int → Int) (y : Int) (x : Int) (ob : Nat) (OB : Int → Int) (hS : ScOk N ou mi bo ln LF sn SF) (hN : NOk0 N) (hv : -2147483648 ≤ y ∧ y < 2147483648) (hx : -2147483648 ≤ x ∧ x < 2147483648) (h0 : ¬ (0 ≤ y ∧ y < N 0)) (hst : l.stackTraces = false) : mH l yL_layer wsL_layer 8 125 K [.ref (ad 0), .int (iI y), .int (iI x), .ref ob] [gRLC K ad, gScn K (ad 3) (ad 14) (ad 15) (ad 16) (ad 17) ou mi bo ln LF sn SF, gArrL K 1 ob OB] (fun (v : Value) (u : Unit) => (v = .int (iI 1))) (fun (u : Unit) => [gRLC K ad, gScn K (ad 3) (ad 14) (ad 15) (ad 16) (ad 17) ou mi bo ln LF sn SF, gArrL K 1 ob OB]) 1 6 := by
  refine mH_of cL_layer 5 (by decide) rfl (Nat.le_of_ble_eq_true rfl) ?_
  intro p e s m below meth c A ls Q S C hG hl hr hlk hin htab hQ
  have S : CallFix p m c cL_layer 5 s ([.ref (ad 0), .int (iI y), .int (iI x), .ref ob] : List Value).toArray wsL_layer RL := S
  have hl : lv_has ls 5 [(0, .ref (ad 0)), (1, .int (iI y)), (2, .int (iI x)), (3, .ref ob)] := hl
  have hG : gW K A s.heap [gRLC K ad, gScn K (ad 3) (ad 14) (ad 15) (ad 16) (ad 17) ou mi bo ln LF sn SF, gArrL K 1 ob OB] s.heap [] := hG
  refine lv_aload_n S.1 S.2.1 dL_layer_0 rfl (lv_at hl 3 rfl) ?_
  refine g_iconst S dL_layer_1 ?_
  refine lv_aload_n S.1 S.2.1 dL_layer_2 rfl (lv_at hl 0 rfl) ?_
  refine lv_iload_n S.1 S.2.1 dL_layer_3 rfl (lv_at hl 1 rfl) ?_
  refine lv_iload_n S.1 S.2.1 dL_layer_4 rfl (lv_at hl 2 rfl) ?_
  refine g_xV (E := "java/lang/IndexOutOfBoundsException") (As := [.int (iI y), .int (iI x)]) (rest := [.int (iI 0), .ref ob]) (gs' := (fun u : Unit => [gRLC K ad, gScn K (ad 3) (ad 14) (ad 15) (ad 16) (ad 17) ou mi bo ln LF sn SF, gArrL K 1 ob OB])) S C hG [0, 1] (x1_layer l K ad ou mi bo ln LF sn SF N y x hS hN hv hx h0 hst) rfl rfl 0 rfl rfl (cwV 2 S.2.2.2.2 gL_layer_X8_layer rfl rfl rfl (by decide +kernel) ⟨Nat.le_of_ble_eq_true rfl, Nat.le_of_ble_eq_true rfl⟩) rfl hl.1 rfl (Nat.le_of_ble_eq_true rfl) dL_layer_5 ⟨Nat.le_of_ble_eq_true rfl, Nat.le_of_ble_eq_true rfl⟩ (fun _ => Nat.le_of_ble_eq_true rfl) (fun _ => rfl) (fun u q9 ce9 H locs hp hG hq9 hv9 hcl9 => ?_)
  refine g_catch (E := "java/lang/IndexOutOfBoundsException") (st := 0) (en := 10) (hpc := 13) (ct := 29) (suf' := [(0, 10, 17, 19)]) S C [] htab (List.mem_of_getElem? (l := exC) (i := 0) rfl) (fun _ h => absurd h List.not_mem_nil) ⟨by decide, by decide⟩ (by decide) (List.mem_of_getElem? (i := 1) rfl) hq9 hv9 hcl9 ?_
  refine lv_astore (lv' := [(4, .ref q9), (0, .ref (ad 0)), (1, .int (iI y)), (2, .int (iI x)), (3, .ref ob)]) S.1 S.2.1 dL_layer_13 hl (by decide) rfl (fun ls hl => ?_)
  refine g_iconst S dL_layer_15 ?_
  have hG : gW K A s.heap [gRLC K ad, gScn K (ad 3) (ad 14) (ad 15) (ad 16) (ad 17) ou mi bo ln LF sn SF, gArrL K 1 ob OB] _ _ := hG
  exact g_iretH S hr hlk hQ dL_layer_16 (Nat.le_of_ble_eq_true rfl) (Nat.le_of_ble_eq_true rfl) (() : Unit) rfl hG

set_option maxHeartbeats 1000000 in
set_option maxRecDepth 100000 in
theorem x2_L_layer (l : Launch) (K : KC) (ad : Nat → Nat) (ou : Int) (mi : Int) (bo : Int) (ln : Int) (LF : Int → Int) (sn : Int) (SF : Int → Int) (N : Int → Int) (y : Int) (x : Int) (ob : Nat) (OB : Int → Int) (hS : ScOk N ou mi bo ln LF sn SF) (hN : NOk0 N) (hv : -2147483648 ≤ y ∧ y < 2147483648) (hx : -2147483648 ≤ x ∧ x < 2147483648) (hy : 0 ≤ y ∧ y < N 0) (h1 : ¬ (0 ≤ x ∧ x ≤ 3)) (hst : l.stackTraces = false) : mH l yL_layer wsL_layer 8 126 K [.ref (ad 0), .int (iI y), .int (iI x), .ref ob] [gRLC K ad, gScn K (ad 3) (ad 14) (ad 15) (ad 16) (ad 17) ou mi bo ln LF sn SF, gArrL K 1 ob OB] (fun (v : Value) (u : Unit) => (v = .int (iI 2))) (fun (u : Unit) => [gRLC K ad, gScn K (ad 3) (ad 14) (ad 15) (ad 16) (ad 17) ou mi bo ln LF sn SF, gArrL K 1 ob OB]) 1 6 := by
  refine mH_of cL_layer 5 (by decide) rfl (Nat.le_of_ble_eq_true rfl) ?_
  intro p e s m below meth c A ls Q S C hG hl hr hlk hin htab hQ
  have S : CallFix p m c cL_layer 5 s ([.ref (ad 0), .int (iI y), .int (iI x), .ref ob] : List Value).toArray wsL_layer RL := S
  have hl : lv_has ls 5 [(0, .ref (ad 0)), (1, .int (iI y)), (2, .int (iI x)), (3, .ref ob)] := hl
  have hG : gW K A s.heap [gRLC K ad, gScn K (ad 3) (ad 14) (ad 15) (ad 16) (ad 17) ou mi bo ln LF sn SF, gArrL K 1 ob OB] s.heap [] := hG
  refine lv_aload_n S.1 S.2.1 dL_layer_0 rfl (lv_at hl 3 rfl) ?_
  refine g_iconst S dL_layer_1 ?_
  refine lv_aload_n S.1 S.2.1 dL_layer_2 rfl (lv_at hl 0 rfl) ?_
  refine lv_iload_n S.1 S.2.1 dL_layer_3 rfl (lv_at hl 1 rfl) ?_
  refine lv_iload_n S.1 S.2.1 dL_layer_4 rfl (lv_at hl 2 rfl) ?_
  refine g_xV (E := "java/lang/IllegalArgumentException") (As := [.int (iI y), .int (iI x)]) (rest := [.int (iI 0), .ref ob]) (gs' := (fun u : Unit => [gRLC K ad, gScn K (ad 3) (ad 14) (ad 15) (ad 16) (ad 17) ou mi bo ln LF sn SF, gArrL K 1 ob OB])) S C hG [0, 1] (x2_layer l K ad ou mi bo ln LF sn SF N y x hS hN hv hx hy h1 hst) rfl rfl 0 rfl rfl (cwV 2 S.2.2.2.2 gL_layer_X8_layer rfl rfl rfl (by decide +kernel) ⟨Nat.le_of_ble_eq_true rfl, Nat.le_of_ble_eq_true rfl⟩) rfl hl.1 rfl (Nat.le_of_ble_eq_true rfl) dL_layer_5 ⟨Nat.le_of_ble_eq_true rfl, Nat.le_of_ble_eq_true rfl⟩ (fun _ => Nat.le_of_ble_eq_true rfl) (fun _ => rfl) (fun u q9 ce9 H locs hp hG hq9 hv9 hcl9 => ?_)
  refine g_catch (E := "java/lang/IllegalArgumentException") (st := 0) (en := 10) (hpc := 17) (ct := 19) (suf' := []) S C [(0, 10, 13, 29)] htab (List.mem_of_getElem? (l := exC) (i := 1) rfl) (List.forall_mem_cons.mpr ⟨⟨by decide, "java/lang/IndexOutOfBoundsException", (List.mem_of_getElem? (l := exC) (i := 0) rfl), by decide, (List.mem_of_getElem? (i := 1) rfl)⟩, fun _ h => absurd h List.not_mem_nil⟩) ⟨by decide, by decide⟩ (by decide) (List.mem_of_getElem? (i := 2) rfl) hq9 hv9 hcl9 ?_
  refine lv_astore (lv' := [(4, .ref q9), (0, .ref (ad 0)), (1, .int (iI y)), (2, .int (iI x)), (3, .ref ob)]) S.1 S.2.1 dL_layer_17 hl (by decide) rfl (fun ls hl => ?_)
  refine g_iconst S dL_layer_19 ?_
  have hG : gW K A s.heap [gRLC K ad, gScn K (ad 3) (ad 14) (ad 15) (ad 16) (ad 17) ou mi bo ln LF sn SF, gArrL K 1 ob OB] _ _ := hG
  exact g_iretH S hr hlk hQ dL_layer_20 (Nat.le_of_ble_eq_true rfl) (Nat.le_of_ble_eq_true rfl) (() : Unit) rfl hG

set_option maxHeartbeats 1000000 in
set_option maxRecDepth 100000 in
theorem c_L_shot (l : Launch) (K : KC) (ad : Nat → Nat) (ou : Int) (mi : Int) (bo : Int) (ln : Int) (LF : Int → Int) (sn : Int) (SF : Int → Int) (N : Int → Int) (y : Int) (x : Int) (ob : Nat) (OB : Int → Int) (hS : ScOk N ou mi bo ln LF sn SF) (hN : NOk0 N) (hv : -2147483648 ≤ y ∧ y < 2147483648) (hx : -2147483648 ≤ x ∧ x < 2147483648) (hy : 0 ≤ y ∧ y < N 4) (h1 : 0 ≤ x ∧ x ≤ 2) : mH l yL_shot wsL_shot 3 64 K [.ref (ad 0), .int (iI y), .int (iI x), .ref ob] [gRLC K ad, gScn K (ad 3) (ad 14) (ad 15) (ad 16) (ad 17) ou mi bo ln LF sn SF, gArrL K 1 ob OB] (fun (v : Value) (u : Unit) => (v = .int (iI 0))) (fun (u : Unit) => [gRLC K ad, gScn K (ad 3) (ad 14) (ad 15) (ad 16) (ad 17) ou mi bo ln LF sn SF, gArrL K 1 ob (upI OB 0 (iI (N (35 + 3 * y + x))).toInt)]) 0 0 := by
  refine mH_of cL_shot 5 (by decide) rfl (Nat.le_of_ble_eq_true rfl) ?_
  intro p e s m below meth c A ls Q S C hG hl hr hlk hin htab hQ
  have S : CallFix p m c cL_shot 5 s ([.ref (ad 0), .int (iI y), .int (iI x), .ref ob] : List Value).toArray wsL_shot RL := S
  have hl : lv_has ls 5 [(0, .ref (ad 0)), (1, .int (iI y)), (2, .int (iI x)), (3, .ref ob)] := hl
  have hG : gW K A s.heap [gRLC K ad, gScn K (ad 3) (ad 14) (ad 15) (ad 16) (ad 17) ou mi bo ln LF sn SF, gArrL K 1 ob OB] s.heap [] := hG
  refine lv_aload_n S.1 S.2.1 dL_shot_0 rfl (lv_at hl 3 rfl) ?_
  refine g_iconst S dL_shot_1 ?_
  refine lv_aload_n S.1 S.2.1 dL_shot_2 rfl (lv_at hl 0 rfl) ?_
  refine lv_iload_n S.1 S.2.1 dL_shot_3 rfl (lv_at hl 1 rfl) ?_
  refine lv_iload_n S.1 S.2.1 dL_shot_4 rfl (lv_at hl 2 rfl) ?_
  refine g_invV (As := [.int (iI y), .int (iI x)]) (rest := [.int (iI 0), .ref ob]) (gs' := (fun u : Unit => [gRLC K ad, gScn K (ad 3) (ad 14) (ad 15) (ad 16) (ad 17) ou mi bo ln LF sn SF, gArrL K 1 ob OB])) S C hG [0, 1] (c_X8_shot l K ad ou mi bo ln LF sn SF N y x hS hN hv hx hy h1) rfl rfl 0 rfl rfl (cwV 2 S.2.2.2.2 gL_shot_X8_shot rfl rfl rfl (by decide +kernel) ⟨Nat.le_of_ble_eq_true rfl, Nat.le_of_ble_eq_true rfl⟩) rfl hl.1 rfl (Nat.le_of_ble_eq_true rfl) dL_shot_5 ⟨Nat.le_of_ble_eq_true rfl, Nat.le_of_ble_eq_true rfl⟩ (fun _ => Nat.le_of_ble_eq_true rfl) (fun _ => rfl) (fun v u H locs hp hG => ?_)
  subst hp
  refine g_i2lr S dL_shot_8 ?_
  refine g_last (n := 1) (gs' := [gRLC K ad, gScn K (ad 3) (ad 14) (ad 15) (ad 16) (ad 17) ou mi bo ln LF sn SF, gArrL K 1 ob (upI OB 0 ((iI (N (35 + 3 * y + x))).toInt))]) S C hG 6 rfl (by decide) (by decide) (by decide) rfl dL_shot_9 (fun H locs hG => ?_)
  refine lv_goto (tgt := 21) S.1 S.2.1 dL_shot_10 (by decide) ?_
  refine g_iconst S dL_shot_21 ?_
  have hG : gW K A s.heap [gRLC K ad, gScn K (ad 3) (ad 14) (ad 15) (ad 16) (ad 17) ou mi bo ln LF sn SF, gArrL K 1 ob (upI OB 0 (iI (N (35 + 3 * y + x))).toInt)] _ _ := hG
  exact g_iretH S hr hlk hQ dL_shot_22 (Nat.le_of_ble_eq_true rfl) (Nat.le_of_ble_eq_true rfl) (() : Unit) rfl hG

set_option maxHeartbeats 1000000 in
set_option maxRecDepth 100000 in
theorem x1_L_shot (l : Launch) (K : KC) (ad : Nat → Nat) (ou : Int) (mi : Int) (bo : Int) (ln : Int) (LF : Int → Int) (sn : Int) (SF : Int → Int) (N : Int → Int) (y : Int) (x : Int) (ob : Nat) (OB : Int → Int) (hS : ScOk N ou mi bo ln LF sn SF) (hN : NOk0 N) (hv : -2147483648 ≤ y ∧ y < 2147483648) (hx : -2147483648 ≤ x ∧ x < 2147483648) (h0 : ¬ (0 ≤ y ∧ y < N 4)) (hst : l.stackTraces = false) : mH l yL_shot wsL_shot 8 125 K [.ref (ad 0), .int (iI y), .int (iI x), .ref ob] [gRLC K ad, gScn K (ad 3) (ad 14) (ad 15) (ad 16) (ad 17) ou mi bo ln LF sn SF, gArrL K 1 ob OB] (fun (v : Value) (u : Unit) => (v = .int (iI 1))) (fun (u : Unit) => [gRLC K ad, gScn K (ad 3) (ad 14) (ad 15) (ad 16) (ad 17) ou mi bo ln LF sn SF, gArrL K 1 ob OB]) 1 6 := by
  refine mH_of cL_shot 5 (by decide) rfl (Nat.le_of_ble_eq_true rfl) ?_
  intro p e s m below meth c A ls Q S C hG hl hr hlk hin htab hQ
  have S : CallFix p m c cL_shot 5 s ([.ref (ad 0), .int (iI y), .int (iI x), .ref ob] : List Value).toArray wsL_shot RL := S
  have hl : lv_has ls 5 [(0, .ref (ad 0)), (1, .int (iI y)), (2, .int (iI x)), (3, .ref ob)] := hl
  have hG : gW K A s.heap [gRLC K ad, gScn K (ad 3) (ad 14) (ad 15) (ad 16) (ad 17) ou mi bo ln LF sn SF, gArrL K 1 ob OB] s.heap [] := hG
  refine lv_aload_n S.1 S.2.1 dL_shot_0 rfl (lv_at hl 3 rfl) ?_
  refine g_iconst S dL_shot_1 ?_
  refine lv_aload_n S.1 S.2.1 dL_shot_2 rfl (lv_at hl 0 rfl) ?_
  refine lv_iload_n S.1 S.2.1 dL_shot_3 rfl (lv_at hl 1 rfl) ?_
  refine lv_iload_n S.1 S.2.1 dL_shot_4 rfl (lv_at hl 2 rfl) ?_
  refine g_xV (E := "java/lang/IndexOutOfBoundsException") (As := [.int (iI y), .int (iI x)]) (rest := [.int (iI 0), .ref ob]) (gs' := (fun u : Unit => [gRLC K ad, gScn K (ad 3) (ad 14) (ad 15) (ad 16) (ad 17) ou mi bo ln LF sn SF, gArrL K 1 ob OB])) S C hG [0, 1] (x1_shot l K ad ou mi bo ln LF sn SF N y x hS hN hv hx h0 hst) rfl rfl 0 rfl rfl (cwV 2 S.2.2.2.2 gL_shot_X8_shot rfl rfl rfl (by decide +kernel) ⟨Nat.le_of_ble_eq_true rfl, Nat.le_of_ble_eq_true rfl⟩) rfl hl.1 rfl (Nat.le_of_ble_eq_true rfl) dL_shot_5 ⟨Nat.le_of_ble_eq_true rfl, Nat.le_of_ble_eq_true rfl⟩ (fun _ => Nat.le_of_ble_eq_true rfl) (fun _ => rfl) (fun u q9 ce9 H locs hp hG hq9 hv9 hcl9 => ?_)
  refine g_catch (E := "java/lang/IndexOutOfBoundsException") (st := 0) (en := 10) (hpc := 13) (ct := 29) (suf' := [(0, 10, 17, 19)]) S C [] htab (List.mem_of_getElem? (l := exC) (i := 0) rfl) (fun _ h => absurd h List.not_mem_nil) ⟨by decide, by decide⟩ (by decide) (List.mem_of_getElem? (i := 1) rfl) hq9 hv9 hcl9 ?_
  refine lv_astore (lv' := [(4, .ref q9), (0, .ref (ad 0)), (1, .int (iI y)), (2, .int (iI x)), (3, .ref ob)]) S.1 S.2.1 dL_shot_13 hl (by decide) rfl (fun ls hl => ?_)
  refine g_iconst S dL_shot_15 ?_
  have hG : gW K A s.heap [gRLC K ad, gScn K (ad 3) (ad 14) (ad 15) (ad 16) (ad 17) ou mi bo ln LF sn SF, gArrL K 1 ob OB] _ _ := hG
  exact g_iretH S hr hlk hQ dL_shot_16 (Nat.le_of_ble_eq_true rfl) (Nat.le_of_ble_eq_true rfl) (() : Unit) rfl hG

set_option maxHeartbeats 1000000 in
set_option maxRecDepth 100000 in
theorem x2_L_shot (l : Launch) (K : KC) (ad : Nat → Nat) (ou : Int) (mi : Int) (bo : Int) (ln : Int) (LF : Int → Int) (sn : Int) (SF : Int → Int) (N : Int → Int) (y : Int) (x : Int) (ob : Nat) (OB : Int → Int) (hS : ScOk N ou mi bo ln LF sn SF) (hN : NOk0 N) (hv : -2147483648 ≤ y ∧ y < 2147483648) (hx : -2147483648 ≤ x ∧ x < 2147483648) (hy : 0 ≤ y ∧ y < N 4) (h1 : ¬ (0 ≤ x ∧ x ≤ 2)) (hst : l.stackTraces = false) : mH l yL_shot wsL_shot 8 126 K [.ref (ad 0), .int (iI y), .int (iI x), .ref ob] [gRLC K ad, gScn K (ad 3) (ad 14) (ad 15) (ad 16) (ad 17) ou mi bo ln LF sn SF, gArrL K 1 ob OB] (fun (v : Value) (u : Unit) => (v = .int (iI 2))) (fun (u : Unit) => [gRLC K ad, gScn K (ad 3) (ad 14) (ad 15) (ad 16) (ad 17) ou mi bo ln LF sn SF, gArrL K 1 ob OB]) 1 6 := by
  refine mH_of cL_shot 5 (by decide) rfl (Nat.le_of_ble_eq_true rfl) ?_
  intro p e s m below meth c A ls Q S C hG hl hr hlk hin htab hQ
  have S : CallFix p m c cL_shot 5 s ([.ref (ad 0), .int (iI y), .int (iI x), .ref ob] : List Value).toArray wsL_shot RL := S
  have hl : lv_has ls 5 [(0, .ref (ad 0)), (1, .int (iI y)), (2, .int (iI x)), (3, .ref ob)] := hl
  have hG : gW K A s.heap [gRLC K ad, gScn K (ad 3) (ad 14) (ad 15) (ad 16) (ad 17) ou mi bo ln LF sn SF, gArrL K 1 ob OB] s.heap [] := hG
  refine lv_aload_n S.1 S.2.1 dL_shot_0 rfl (lv_at hl 3 rfl) ?_
  refine g_iconst S dL_shot_1 ?_
  refine lv_aload_n S.1 S.2.1 dL_shot_2 rfl (lv_at hl 0 rfl) ?_
  refine lv_iload_n S.1 S.2.1 dL_shot_3 rfl (lv_at hl 1 rfl) ?_
  refine lv_iload_n S.1 S.2.1 dL_shot_4 rfl (lv_at hl 2 rfl) ?_
  refine g_xV (E := "java/lang/IllegalArgumentException") (As := [.int (iI y), .int (iI x)]) (rest := [.int (iI 0), .ref ob]) (gs' := (fun u : Unit => [gRLC K ad, gScn K (ad 3) (ad 14) (ad 15) (ad 16) (ad 17) ou mi bo ln LF sn SF, gArrL K 1 ob OB])) S C hG [0, 1] (x2_shot l K ad ou mi bo ln LF sn SF N y x hS hN hv hx hy h1 hst) rfl rfl 0 rfl rfl (cwV 2 S.2.2.2.2 gL_shot_X8_shot rfl rfl rfl (by decide +kernel) ⟨Nat.le_of_ble_eq_true rfl, Nat.le_of_ble_eq_true rfl⟩) rfl hl.1 rfl (Nat.le_of_ble_eq_true rfl) dL_shot_5 ⟨Nat.le_of_ble_eq_true rfl, Nat.le_of_ble_eq_true rfl⟩ (fun _ => Nat.le_of_ble_eq_true rfl) (fun _ => rfl) (fun u q9 ce9 H locs hp hG hq9 hv9 hcl9 => ?_)
  refine g_catch (E := "java/lang/IllegalArgumentException") (st := 0) (en := 10) (hpc := 17) (ct := 19) (suf' := []) S C [(0, 10, 13, 29)] htab (List.mem_of_getElem? (l := exC) (i := 1) rfl) (List.forall_mem_cons.mpr ⟨⟨by decide, "java/lang/IndexOutOfBoundsException", (List.mem_of_getElem? (l := exC) (i := 0) rfl), by decide, (List.mem_of_getElem? (i := 1) rfl)⟩, fun _ h => absurd h List.not_mem_nil⟩) ⟨by decide, by decide⟩ (by decide) (List.mem_of_getElem? (i := 2) rfl) hq9 hv9 hcl9 ?_
  refine lv_astore (lv' := [(4, .ref q9), (0, .ref (ad 0)), (1, .int (iI y)), (2, .int (iI x)), (3, .ref ob)]) S.1 S.2.1 dL_shot_17 hl (by decide) rfl (fun ls hl => ?_)
  refine g_iconst S dL_shot_19 ?_
  have hG : gW K A s.heap [gRLC K ad, gScn K (ad 3) (ad 14) (ad 15) (ad 16) (ad 17) ou mi bo ln LF sn SF, gArrL K 1 ob OB] _ _ := hG
  exact g_iretH S hr hlk hQ dL_shot_20 (Nat.le_of_ble_eq_true rfl) (Nat.le_of_ble_eq_true rfl) (() : Unit) rfl hG

set_option maxHeartbeats 1000000 in
set_option maxRecDepth 100000 in
theorem c_L_path (l : Launch) (K : KC) (ad : Nat → Nat) (ou : Int) (mi : Int) (bo : Int) (ln : Int) (LF : Int → Int) (sn : Int) (SF : Int → Int) (N : Int → Int) (rs : Nat) (rv : RU) (XF : Int → Int) (y : Int) (x : Int) (ob : Nat) (OB : Int → Int) (hS : ScOk N ou mi bo ln LF sn SF) (hN : NOk0 N) (hv : -2147483648 ≤ y ∧ y < 2147483648) (hs : 0 ≤ y ∧ y < N 4) (h1 : 0 ≤ x ∧ x ≤ 9) : mH l yL_path wsL_path 6 140 K [.ref (ad 0), .int (iI y), .int (iI x), .ref ob] [gRLC K ad, gScn K (ad 3) (ad 14) (ad 15) (ad 16) (ad 17) ou mi bo ln LF sn SF, gRayU K (ad 7) (ad 23) (ad 24) (ad 25) (ad 26) rs rv XF, gArrL K 1 ob OB] (fun (v : Value) (u : RU × (Int → Int)) => (v = .int (iI 0)) ∧ (ResU N (sP N y) (sY N y) (sD N y) u.1)) (fun (u : RU × (Int → Int)) => [gRLC K ad, gScn K (ad 3) (ad 14) (ad 15) (ad 16) (ad 17) ou mi bo ln LF sn SF, gRayU K (ad 7) (ad 23) (ad 24) (ad 25) (ad 26) (ad 3) u.1 u.2, gArrL K 1 ob (upI OB 0 (iI (pthA N y x)).toInt)]) 0 0 := by
  refine mH_of cL_path 5 (by decide) rfl (Nat.le_of_ble_eq_true rfl) ?_
  intro p e s m below meth c A ls Q S C hG hl hr hlk hin htab hQ
  have S : CallFix p m c cL_path 5 s ([.ref (ad 0), .int (iI y), .int (iI x), .ref ob] : List Value).toArray wsL_path RL := S
  have hl : lv_has ls 5 [(0, .ref (ad 0)), (1, .int (iI y)), (2, .int (iI x)), (3, .ref ob)] := hl
  have hG : gW K A s.heap [gRLC K ad, gScn K (ad 3) (ad 14) (ad 15) (ad 16) (ad 17) ou mi bo ln LF sn SF, gRayU K (ad 7) (ad 23) (ad 24) (ad 25) (ad 26) rs rv XF, gArrL K 1 ob OB] s.heap [] := hG
  refine lv_aload_n S.1 S.2.1 dL_path_0 rfl (lv_at hl 3 rfl) ?_
  refine g_iconst S dL_path_1 ?_
  refine lv_aload_n S.1 S.2.1 dL_path_2 rfl (lv_at hl 0 rfl) ?_
  refine lv_iload_n S.1 S.2.1 dL_path_3 rfl (lv_at hl 1 rfl) ?_
  refine lv_iload_n S.1 S.2.1 dL_path_4 rfl (lv_at hl 2 rfl) ?_
  refine g_invV (As := [.int (iI y), .int (iI x)]) (rest := [.int (iI 0), .ref ob]) (gs' := (fun u : RU × (Int → Int) => [gRLC K ad, gScn K (ad 3) (ad 14) (ad 15) (ad 16) (ad 17) ou mi bo ln LF sn SF, gRayU K (ad 7) (ad 23) (ad 24) (ad 25) (ad 26) (ad 3) u.1 u.2, gArrL K 1 ob OB])) S C hG [0, 1, 2] (c_X8_path l K ad ou mi bo ln LF sn SF N rs rv XF y x hS hN hv hs h1) rfl rfl 0 rfl rfl (cwV 2 S.2.2.2.2 gL_path_X8_path rfl rfl rfl (by decide +kernel) ⟨Nat.le_of_ble_eq_true rfl, Nat.le_of_ble_eq_true rfl⟩) rfl hl.1 rfl (Nat.le_of_ble_eq_true rfl) dL_path_5 ⟨Nat.le_of_ble_eq_true rfl, Nat.le_of_ble_eq_true rfl⟩ (fun _ => Nat.le_of_ble_eq_true rfl) (fun _ => rfl) (fun v u H locs hp hG => ?_)
  obtain ⟨rv2_5, X2_5⟩ := u
  obtain ⟨rfl, hr_5⟩ := hp
  have hr_5 : ResU N (sP N y) (sY N y) (sD N y) rv2_5 := hr_5
  have hG : gW K A s.heap [gRLC K ad, gScn K (ad 3) (ad 14) (ad 15) (ad 16) (ad 17) ou mi bo ln LF sn SF, gRayU K (ad 7) (ad 23) (ad 24) (ad 25) (ad 26) (ad 3) rv2_5 X2_5, gArrL K 1 ob OB] _ _ := hG
  refine g_i2lr S dL_path_8 ?_
  refine g_last (n := 1) (gs' := [gRLC K ad, gScn K (ad 3) (ad 14) (ad 15) (ad 16) (ad 17) ou mi bo ln LF sn SF, gRayU K (ad 7) (ad 23) (ad 24) (ad 25) (ad 26) (ad 3) rv2_5 X2_5, gArrL K 1 ob (upI OB 0 ((iI (pthA N y x)).toInt))]) S C hG 11 rfl (by decide) (by decide) (by decide) rfl dL_path_9 (fun H locs hG => ?_)
  refine lv_goto (tgt := 21) S.1 S.2.1 dL_path_10 (by decide) ?_
  refine g_iconst S dL_path_21 ?_
  have hG : gW K A s.heap [gRLC K ad, gScn K (ad 3) (ad 14) (ad 15) (ad 16) (ad 17) ou mi bo ln LF sn SF, gRayU K (ad 7) (ad 23) (ad 24) (ad 25) (ad 26) (ad 3) rv2_5 X2_5, gArrL K 1 ob (upI OB 0 (iI (pthA N y x)).toInt)] _ _ := hG
  exact g_iretH S hr hlk hQ dL_path_22 (Nat.le_of_ble_eq_true rfl) (Nat.le_of_ble_eq_true rfl) ((rv2_5, X2_5) : RU × (Int → Int)) ⟨rfl, hr_5⟩ hG

set_option maxHeartbeats 1000000 in
set_option maxRecDepth 100000 in
theorem x1_L_path (l : Launch) (K : KC) (ad : Nat → Nat) (ou : Int) (mi : Int) (bo : Int) (ln : Int) (LF : Int → Int) (sn : Int) (SF : Int → Int) (N : Int → Int) (rs : Nat) (rv : RU) (XF : Int → Int) (y : Int) (x : Int) (ob : Nat) (OB : Int → Int) (hS : ScOk N ou mi bo ln LF sn SF) (hN : NOk0 N) (hv : -2147483648 ≤ y ∧ y < 2147483648) (h0 : ¬ (0 ≤ y ∧ y < N 4)) (hst : l.stackTraces = false) : mH l yL_path wsL_path 8 126 K [.ref (ad 0), .int (iI y), .int (iI x), .ref ob] [gRLC K ad, gScn K (ad 3) (ad 14) (ad 15) (ad 16) (ad 17) ou mi bo ln LF sn SF, gRayU K (ad 7) (ad 23) (ad 24) (ad 25) (ad 26) rs rv XF, gArrL K 1 ob OB] (fun (v : Value) (u : Unit) => (v = .int (iI 1))) (fun (u : Unit) => [gRLC K ad, gScn K (ad 3) (ad 14) (ad 15) (ad 16) (ad 17) ou mi bo ln LF sn SF, gRayU K (ad 7) (ad 23) (ad 24) (ad 25) (ad 26) rs rv XF, gArrL K 1 ob OB]) 1 6 := by
  refine mH_of cL_path 5 (by decide) rfl (Nat.le_of_ble_eq_true rfl) ?_
  intro p e s m below meth c A ls Q S C hG hl hr hlk hin htab hQ
  have S : CallFix p m c cL_path 5 s ([.ref (ad 0), .int (iI y), .int (iI x), .ref ob] : List Value).toArray wsL_path RL := S
  have hl : lv_has ls 5 [(0, .ref (ad 0)), (1, .int (iI y)), (2, .int (iI x)), (3, .ref ob)] := hl
  have hG : gW K A s.heap [gRLC K ad, gScn K (ad 3) (ad 14) (ad 15) (ad 16) (ad 17) ou mi bo ln LF sn SF, gRayU K (ad 7) (ad 23) (ad 24) (ad 25) (ad 26) rs rv XF, gArrL K 1 ob OB] s.heap [] := hG
  refine lv_aload_n S.1 S.2.1 dL_path_0 rfl (lv_at hl 3 rfl) ?_
  refine g_iconst S dL_path_1 ?_
  refine lv_aload_n S.1 S.2.1 dL_path_2 rfl (lv_at hl 0 rfl) ?_
  refine lv_iload_n S.1 S.2.1 dL_path_3 rfl (lv_at hl 1 rfl) ?_
  refine lv_iload_n S.1 S.2.1 dL_path_4 rfl (lv_at hl 2 rfl) ?_
  refine g_xV (E := "java/lang/IndexOutOfBoundsException") (As := [.int (iI y), .int (iI x)]) (rest := [.int (iI 0), .ref ob]) (gs' := (fun u : Unit => [gRLC K ad, gScn K (ad 3) (ad 14) (ad 15) (ad 16) (ad 17) ou mi bo ln LF sn SF, gRayU K (ad 7) (ad 23) (ad 24) (ad 25) (ad 26) rs rv XF, gArrL K 1 ob OB])) S C hG [0, 1, 2] (x1_path l K ad ou mi bo ln LF sn SF N rs rv XF y x hS hN hv h0 hst) rfl rfl 0 rfl rfl (cwV 2 S.2.2.2.2 gL_path_X8_path rfl rfl rfl (by decide +kernel) ⟨Nat.le_of_ble_eq_true rfl, Nat.le_of_ble_eq_true rfl⟩) rfl hl.1 rfl (Nat.le_of_ble_eq_true rfl) dL_path_5 ⟨Nat.le_of_ble_eq_true rfl, Nat.le_of_ble_eq_true rfl⟩ (fun _ => Nat.le_of_ble_eq_true rfl) (fun _ => rfl) (fun u q9 ce9 H locs hp hG hq9 hv9 hcl9 => ?_)
  refine g_catch (E := "java/lang/IndexOutOfBoundsException") (st := 0) (en := 10) (hpc := 13) (ct := 29) (suf' := [(0, 10, 17, 19)]) S C [] htab (List.mem_of_getElem? (l := exC) (i := 0) rfl) (fun _ h => absurd h List.not_mem_nil) ⟨by decide, by decide⟩ (by decide) (List.mem_of_getElem? (i := 1) rfl) hq9 hv9 hcl9 ?_
  refine lv_astore (lv' := [(4, .ref q9), (0, .ref (ad 0)), (1, .int (iI y)), (2, .int (iI x)), (3, .ref ob)]) S.1 S.2.1 dL_path_13 hl (by decide) rfl (fun ls hl => ?_)
  refine g_iconst S dL_path_15 ?_
  have hG : gW K A s.heap [gRLC K ad, gScn K (ad 3) (ad 14) (ad 15) (ad 16) (ad 17) ou mi bo ln LF sn SF, gRayU K (ad 7) (ad 23) (ad 24) (ad 25) (ad 26) rs rv XF, gArrL K 1 ob OB] _ _ := hG
  exact g_iretH S hr hlk hQ dL_path_16 (Nat.le_of_ble_eq_true rfl) (Nat.le_of_ble_eq_true rfl) (() : Unit) rfl hG

set_option maxHeartbeats 1000000 in
set_option maxRecDepth 100000 in
theorem x2_L_path (l : Launch) (K : KC) (ad : Nat → Nat) (ou : Int) (mi : Int) (bo : Int) (ln : Int) (LF : Int → Int) (sn : Int) (SF : Int → Int) (N : Int → Int) (rs : Nat) (rv : RU) (XF : Int → Int) (y : Int) (x : Int) (ob : Nat) (OB : Int → Int) (hS : ScOk N ou mi bo ln LF sn SF) (hN : NOk0 N) (hv : -2147483648 ≤ y ∧ y < 2147483648) (hs : 0 ≤ y ∧ y < N 4) (hx : -2147483648 ≤ x ∧ x < 2147483648) (h1 : ¬ (0 ≤ x ∧ x ≤ 9)) (hst : l.stackTraces = false) : mH l yL_path wsL_path 7 140 K [.ref (ad 0), .int (iI y), .int (iI x), .ref ob] [gRLC K ad, gScn K (ad 3) (ad 14) (ad 15) (ad 16) (ad 17) ou mi bo ln LF sn SF, gRayU K (ad 7) (ad 23) (ad 24) (ad 25) (ad 26) rs rv XF, gArrL K 1 ob OB] (fun (v : Value) (u : RU × (Int → Int)) => (v = .int (iI 2))) (fun (u : RU × (Int → Int)) => [gRLC K ad, gScn K (ad 3) (ad 14) (ad 15) (ad 16) (ad 17) ou mi bo ln LF sn SF, gRayU K (ad 7) (ad 23) (ad 24) (ad 25) (ad 26) (ad 3) u.1 u.2, gArrL K 1 ob OB]) 1 6 := by
  refine mH_of cL_path 5 (by decide) rfl (Nat.le_of_ble_eq_true rfl) ?_
  intro p e s m below meth c A ls Q S C hG hl hr hlk hin htab hQ
  have S : CallFix p m c cL_path 5 s ([.ref (ad 0), .int (iI y), .int (iI x), .ref ob] : List Value).toArray wsL_path RL := S
  have hl : lv_has ls 5 [(0, .ref (ad 0)), (1, .int (iI y)), (2, .int (iI x)), (3, .ref ob)] := hl
  have hG : gW K A s.heap [gRLC K ad, gScn K (ad 3) (ad 14) (ad 15) (ad 16) (ad 17) ou mi bo ln LF sn SF, gRayU K (ad 7) (ad 23) (ad 24) (ad 25) (ad 26) rs rv XF, gArrL K 1 ob OB] s.heap [] := hG
  refine lv_aload_n S.1 S.2.1 dL_path_0 rfl (lv_at hl 3 rfl) ?_
  refine g_iconst S dL_path_1 ?_
  refine lv_aload_n S.1 S.2.1 dL_path_2 rfl (lv_at hl 0 rfl) ?_
  refine lv_iload_n S.1 S.2.1 dL_path_3 rfl (lv_at hl 1 rfl) ?_
  refine lv_iload_n S.1 S.2.1 dL_path_4 rfl (lv_at hl 2 rfl) ?_
  refine g_xV (E := "java/lang/IllegalArgumentException") (As := [.int (iI y), .int (iI x)]) (rest := [.int (iI 0), .ref ob]) (gs' := (fun u : RU × (Int → Int) => [gRLC K ad, gScn K (ad 3) (ad 14) (ad 15) (ad 16) (ad 17) ou mi bo ln LF sn SF, gRayU K (ad 7) (ad 23) (ad 24) (ad 25) (ad 26) (ad 3) u.1 u.2, gArrL K 1 ob OB])) S C hG [0, 1, 2] (x2_path l K ad ou mi bo ln LF sn SF N rs rv XF y x hS hN hv hs hx h1 hst) rfl rfl 0 rfl rfl (cwV 2 S.2.2.2.2 gL_path_X8_path rfl rfl rfl (by decide +kernel) ⟨Nat.le_of_ble_eq_true rfl, Nat.le_of_ble_eq_true rfl⟩) rfl hl.1 rfl (Nat.le_of_ble_eq_true rfl) dL_path_5 ⟨Nat.le_of_ble_eq_true rfl, Nat.le_of_ble_eq_true rfl⟩ (fun _ => Nat.le_of_ble_eq_true rfl) (fun _ => rfl) (fun u q9 ce9 H locs hp hG hq9 hv9 hcl9 => ?_)
  obtain ⟨rv2_5, X2_5⟩ := u
  have hG : gW K A s.heap [gRLC K ad, gScn K (ad 3) (ad 14) (ad 15) (ad 16) (ad 17) ou mi bo ln LF sn SF, gRayU K (ad 7) (ad 23) (ad 24) (ad 25) (ad 26) (ad 3) rv2_5 X2_5, gArrL K 1 ob OB] _ _ := hG
  refine g_catch (E := "java/lang/IllegalArgumentException") (st := 0) (en := 10) (hpc := 17) (ct := 19) (suf' := []) S C [(0, 10, 13, 29)] htab (List.mem_of_getElem? (l := exC) (i := 1) rfl) (List.forall_mem_cons.mpr ⟨⟨by decide, "java/lang/IndexOutOfBoundsException", (List.mem_of_getElem? (l := exC) (i := 0) rfl), by decide, (List.mem_of_getElem? (i := 1) rfl)⟩, fun _ h => absurd h List.not_mem_nil⟩) ⟨by decide, by decide⟩ (by decide) (List.mem_of_getElem? (i := 2) rfl) hq9 hv9 hcl9 ?_
  refine lv_astore (lv' := [(4, .ref q9), (0, .ref (ad 0)), (1, .int (iI y)), (2, .int (iI x)), (3, .ref ob)]) S.1 S.2.1 dL_path_17 hl (by decide) rfl (fun ls hl => ?_)
  refine g_iconst S dL_path_19 ?_
  have hG : gW K A s.heap [gRLC K ad, gScn K (ad 3) (ad 14) (ad 15) (ad 16) (ad 17) ou mi bo ln LF sn SF, gRayU K (ad 7) (ad 23) (ad 24) (ad 25) (ad 26) (ad 3) rv2_5 X2_5, gArrL K 1 ob OB] _ _ := hG
  exact g_iretH S hr hlk hQ dL_path_20 (Nat.le_of_ble_eq_true rfl) (Nat.le_of_ble_eq_true rfl) ((rv2_5, X2_5) : RU × (Int → Int)) rfl hG

set_option maxHeartbeats 1000000 in
set_option maxRecDepth 100000 in
theorem c_L_leg (l : Launch) (K : KC) (ad : Nat → Nat) (ou : Int) (mi : Int) (bo : Int) (ln : Int) (LF : Int → Int) (sn : Int) (SF : Int → Int) (N : Int → Int) (pv : PV) (ps : Nat) (pr : RU) (pX : Int → Int) (y : Int) (x : Int) (z : Int) (ob : Nat) (OB : Int → Int) (hS : ScOk N ou mi bo ln LF sn SF) (hN : NOk0 N) (hv : -2147483648 ≤ y ∧ y < 2147483648) (hs : 0 ≤ y ∧ y < N 4) (hx : -2147483648 ≤ x ∧ x < 2147483648) (hz : -2147483648 ≤ z ∧ z < 2147483648) (h1 : 0 ≤ x ∧ x < (gS N y : Int)) (h2 : 0 ≤ z ∧ z ≤ 6) : mH l yL_leg wsL_leg 6 143 K [.ref (ad 0), .int (iI y), .int (iI x), .int (iI z), .ref ob] [gRLC K ad, gPthV K (ad 8) (ad 27) (ad 35) (ad 28) (ad 29) (ad 30) (ad 31) (ad 32) (ad 33) (ad 34) pv, gRayU K (ad 35) (ad 36) (ad 37) (ad 38) (ad 39) ps pr pX, gScn K (ad 3) (ad 14) (ad 15) (ad 16) (ad 17) ou mi bo ln LF sn SF, gArrL K 1 ob OB] (fun (v : Value) (u : Int × PV × RU × (Int → Int)) => (v = .int (iI 0)) ∧ (PthR N (sP N y) (sY N y) (sD N y) u.2.1) ∧ (u.1 = pick7 z (u.2.1.2.2.1 x) (u.2.1.2.2.2.1 x) (u.2.1.2.2.2.2.1 x) (u.2.1.2.2.2.2.2.1 x) (u.2.1.2.2.2.2.2.2.1 x) (u.2.1.2.2.2.2.2.2.2.1 x) (u.2.1.2.2.2.2.2.2.2.2 x))) (fun (u : Int × PV × RU × (Int → Int)) => [gRLC K ad, gPthV K (ad 8) (ad 27) (ad 35) (ad 28) (ad 29) (ad 30) (ad 31) (ad 32) (ad 33) (ad 34) u.2.1, gRayU K (ad 35) (ad 36) (ad 37) (ad 38) (ad 39) (ad 3) u.2.2.1 u.2.2.2, gScn K (ad 3) (ad 14) (ad 15) (ad 16) (ad 17) ou mi bo ln LF sn SF, gArrL K 1 ob (upI OB 0 (iI u.1).toInt)]) 0 0 := by
  refine mH_of cL_leg 6 (by decide) rfl (Nat.le_of_ble_eq_true rfl) ?_
  intro p e s m below meth c A ls Q S C hG hl hr hlk hin htab hQ
  have S : CallFix p m c cL_leg 6 s ([.ref (ad 0), .int (iI y), .int (iI x), .int (iI z), .ref ob] : List Value).toArray wsL_leg RL := S
  have hl : lv_has ls 6 [(0, .ref (ad 0)), (1, .int (iI y)), (2, .int (iI x)), (3, .int (iI z)), (4, .ref ob)] := hl
  have hG : gW K A s.heap [gRLC K ad, gPthV K (ad 8) (ad 27) (ad 35) (ad 28) (ad 29) (ad 30) (ad 31) (ad 32) (ad 33) (ad 34) pv, gRayU K (ad 35) (ad 36) (ad 37) (ad 38) (ad 39) ps pr pX, gScn K (ad 3) (ad 14) (ad 15) (ad 16) (ad 17) ou mi bo ln LF sn SF, gArrL K 1 ob OB] s.heap [] := hG
  refine lv_aload S.1 S.2.1 dL_leg_0 (lv_at hl 4 rfl) ?_
  refine g_iconst S dL_leg_2 ?_
  refine lv_aload_n S.1 S.2.1 dL_leg_3 rfl (lv_at hl 0 rfl) ?_
  refine lv_iload_n S.1 S.2.1 dL_leg_4 rfl (lv_at hl 1 rfl) ?_
  refine lv_iload_n S.1 S.2.1 dL_leg_5 rfl (lv_at hl 2 rfl) ?_
  refine lv_iload_n S.1 S.2.1 dL_leg_6 rfl (lv_at hl 3 rfl) ?_
  refine g_invV (As := [.int (iI y), .int (iI x), .int (iI z)]) (rest := [.int (iI 0), .ref ob]) (gs' := (fun u : Int × PV × RU × (Int → Int) => [gRLC K ad, gPthV K (ad 8) (ad 27) (ad 35) (ad 28) (ad 29) (ad 30) (ad 31) (ad 32) (ad 33) (ad 34) u.2.1, gRayU K (ad 35) (ad 36) (ad 37) (ad 38) (ad 39) (ad 3) u.2.2.1 u.2.2.2, gScn K (ad 3) (ad 14) (ad 15) (ad 16) (ad 17) ou mi bo ln LF sn SF, gArrL K 1 ob OB])) S C hG [0, 1, 2, 3] (c_X8_leg l K ad ou mi bo ln LF sn SF N pv ps pr pX y x z hS hN hv hs hx hz h1 h2) rfl rfl 0 rfl rfl (cwV 3 S.2.2.2.2 gL_leg_X8_leg rfl rfl rfl (by decide +kernel) ⟨Nat.le_of_ble_eq_true rfl, Nat.le_of_ble_eq_true rfl⟩) rfl hl.1 rfl (Nat.le_of_ble_eq_true rfl) dL_leg_7 ⟨Nat.le_of_ble_eq_true rfl, Nat.le_of_ble_eq_true rfl⟩ (fun _ => Nat.le_of_ble_eq_true rfl) (fun _ => rfl) (fun v u H locs hp hG => ?_)
  obtain ⟨v9_7, pv2_7, pr2_7, pX2_7⟩ := u
  obtain ⟨rfl, hp_7, hw_7⟩ := hp
  have hp_7 : PthR N (sP N y) (sY N y) (sD N y) pv2_7 := hp_7
  have hw_7 : v9_7 = pick7 z (pv2_7.2.2.1 x) (pv2_7.2.2.2.1 x) (pv2_7.2.2.2.2.1 x) (pv2_7.2.2.2.2.2.1 x) (pv2_7.2.2.2.2.2.2.1 x) (pv2_7.2.2.2.2.2.2.2.1 x) (pv2_7.2.2.2.2.2.2.2.2 x) := hw_7
  have hG : gW K A s.heap [gRLC K ad, gPthV K (ad 8) (ad 27) (ad 35) (ad 28) (ad 29) (ad 30) (ad 31) (ad 32) (ad 33) (ad 34) pv2_7, gRayU K (ad 35) (ad 36) (ad 37) (ad 38) (ad 39) (ad 3) pr2_7 pX2_7, gScn K (ad 3) (ad 14) (ad 15) (ad 16) (ad 17) ou mi bo ln LF sn SF, gArrL K 1 ob OB] _ _ := hG
  refine g_i2lr S dL_leg_10 ?_
  refine g_last (n := 1) (gs' := [gRLC K ad, gPthV K (ad 8) (ad 27) (ad 35) (ad 28) (ad 29) (ad 30) (ad 31) (ad 32) (ad 33) (ad 34) pv2_7, gRayU K (ad 35) (ad 36) (ad 37) (ad 38) (ad 39) (ad 3) pr2_7 pX2_7, gScn K (ad 3) (ad 14) (ad 15) (ad 16) (ad 17) ou mi bo ln LF sn SF, gArrL K 1 ob (upI OB 0 ((iI v9_7).toInt))]) S C hG 20 rfl (by decide) (by decide) (by decide) rfl dL_leg_11 (fun H locs hG => ?_)
  refine lv_goto (tgt := 23) S.1 S.2.1 dL_leg_12 (by decide) ?_
  refine g_iconst S dL_leg_23 ?_
  have hG : gW K A s.heap [gRLC K ad, gPthV K (ad 8) (ad 27) (ad 35) (ad 28) (ad 29) (ad 30) (ad 31) (ad 32) (ad 33) (ad 34) pv2_7, gRayU K (ad 35) (ad 36) (ad 37) (ad 38) (ad 39) (ad 3) pr2_7 pX2_7, gScn K (ad 3) (ad 14) (ad 15) (ad 16) (ad 17) ou mi bo ln LF sn SF, gArrL K 1 ob (upI OB 0 (iI v9_7).toInt)] _ _ := hG
  exact g_iretH S hr hlk hQ dL_leg_24 (Nat.le_of_ble_eq_true rfl) (Nat.le_of_ble_eq_true rfl) ((v9_7, pv2_7, pr2_7, pX2_7) : Int × PV × RU × (Int → Int)) ⟨rfl, hp_7, hw_7⟩ hG

set_option maxHeartbeats 1000000 in
set_option maxRecDepth 100000 in
theorem x1_L_leg (l : Launch) (K : KC) (ad : Nat → Nat) (ou : Int) (mi : Int) (bo : Int) (ln : Int) (LF : Int → Int) (sn : Int) (SF : Int → Int) (N : Int → Int) (pv : PV) (ps : Nat) (pr : RU) (pX : Int → Int) (y : Int) (x : Int) (z : Int) (ob : Nat) (OB : Int → Int) (hS : ScOk N ou mi bo ln LF sn SF) (hN : NOk0 N) (hv : -2147483648 ≤ y ∧ y < 2147483648) (hx : -2147483648 ≤ x ∧ x < 2147483648) (hz : -2147483648 ≤ z ∧ z < 2147483648) (h0 : ¬ (0 ≤ y ∧ y < N 4)) (hst : l.stackTraces = false) : mH l yL_leg wsL_leg 8 127 K [.ref (ad 0), .int (iI y), .int (iI x), .int (iI z), .ref ob] [gRLC K ad, gPthV K (ad 8) (ad 27) (ad 35) (ad 28) (ad 29) (ad 30) (ad 31) (ad 32) (ad 33) (ad 34) pv, gRayU K (ad 35) (ad 36) (ad 37) (ad 38) (ad 39) ps pr pX, gScn K (ad 3) (ad 14) (ad 15) (ad 16) (ad 17) ou mi bo ln LF sn SF, gArrL K 1 ob OB] (fun (v : Value) (u : Unit) => (v = .int (iI 1))) (fun (u : Unit) => [gRLC K ad, gPthV K (ad 8) (ad 27) (ad 35) (ad 28) (ad 29) (ad 30) (ad 31) (ad 32) (ad 33) (ad 34) pv, gRayU K (ad 35) (ad 36) (ad 37) (ad 38) (ad 39) ps pr pX, gScn K (ad 3) (ad 14) (ad 15) (ad 16) (ad 17) ou mi bo ln LF sn SF, gArrL K 1 ob OB]) 1 6 := by
  refine mH_of cL_leg 6 (by decide) rfl (Nat.le_of_ble_eq_true rfl) ?_
  intro p e s m below meth c A ls Q S C hG hl hr hlk hin htab hQ
  have S : CallFix p m c cL_leg 6 s ([.ref (ad 0), .int (iI y), .int (iI x), .int (iI z), .ref ob] : List Value).toArray wsL_leg RL := S
  have hl : lv_has ls 6 [(0, .ref (ad 0)), (1, .int (iI y)), (2, .int (iI x)), (3, .int (iI z)), (4, .ref ob)] := hl
  have hG : gW K A s.heap [gRLC K ad, gPthV K (ad 8) (ad 27) (ad 35) (ad 28) (ad 29) (ad 30) (ad 31) (ad 32) (ad 33) (ad 34) pv, gRayU K (ad 35) (ad 36) (ad 37) (ad 38) (ad 39) ps pr pX, gScn K (ad 3) (ad 14) (ad 15) (ad 16) (ad 17) ou mi bo ln LF sn SF, gArrL K 1 ob OB] s.heap [] := hG
  refine lv_aload S.1 S.2.1 dL_leg_0 (lv_at hl 4 rfl) ?_
  refine g_iconst S dL_leg_2 ?_
  refine lv_aload_n S.1 S.2.1 dL_leg_3 rfl (lv_at hl 0 rfl) ?_
  refine lv_iload_n S.1 S.2.1 dL_leg_4 rfl (lv_at hl 1 rfl) ?_
  refine lv_iload_n S.1 S.2.1 dL_leg_5 rfl (lv_at hl 2 rfl) ?_
  refine lv_iload_n S.1 S.2.1 dL_leg_6 rfl (lv_at hl 3 rfl) ?_
  refine g_xV (E := "java/lang/IndexOutOfBoundsException") (As := [.int (iI y), .int (iI x), .int (iI z)]) (rest := [.int (iI 0), .ref ob]) (gs' := (fun u : Unit => [gRLC K ad, gPthV K (ad 8) (ad 27) (ad 35) (ad 28) (ad 29) (ad 30) (ad 31) (ad 32) (ad 33) (ad 34) pv, gRayU K (ad 35) (ad 36) (ad 37) (ad 38) (ad 39) ps pr pX, gScn K (ad 3) (ad 14) (ad 15) (ad 16) (ad 17) ou mi bo ln LF sn SF, gArrL K 1 ob OB])) S C hG [0, 1, 2, 3] (x1_leg l K ad ou mi bo ln LF sn SF N pv ps pr pX y x z hS hN hv hx hz h0 hst) rfl rfl 0 rfl rfl (cwV 3 S.2.2.2.2 gL_leg_X8_leg rfl rfl rfl (by decide +kernel) ⟨Nat.le_of_ble_eq_true rfl, Nat.le_of_ble_eq_true rfl⟩) rfl hl.1 rfl (Nat.le_of_ble_eq_true rfl) dL_leg_7 ⟨Nat.le_of_ble_eq_true rfl, Nat.le_of_ble_eq_true rfl⟩ (fun _ => Nat.le_of_ble_eq_true rfl) (fun _ => rfl) (fun u q9 ce9 H locs hp hG hq9 hv9 hcl9 => ?_)
  refine g_catch (E := "java/lang/IndexOutOfBoundsException") (st := 0) (en := 12) (hpc := 15) (ct := 29) (suf' := [(0, 12, 19, 19)]) S C [] htab (List.mem_of_getElem? (l := exC) (i := 0) rfl) (fun _ h => absurd h List.not_mem_nil) ⟨by decide, by decide⟩ (by decide) (List.mem_of_getElem? (i := 1) rfl) hq9 hv9 hcl9 ?_
  refine lv_astore (lv' := [(5, .ref q9), (0, .ref (ad 0)), (1, .int (iI y)), (2, .int (iI x)), (3, .int (iI z)), (4, .ref ob)]) S.1 S.2.1 dL_leg_15 hl (by decide) rfl (fun ls hl => ?_)
  refine g_iconst S dL_leg_17 ?_
  have hG : gW K A s.heap [gRLC K ad, gPthV K (ad 8) (ad 27) (ad 35) (ad 28) (ad 29) (ad 30) (ad 31) (ad 32) (ad 33) (ad 34) pv, gRayU K (ad 35) (ad 36) (ad 37) (ad 38) (ad 39) ps pr pX, gScn K (ad 3) (ad 14) (ad 15) (ad 16) (ad 17) ou mi bo ln LF sn SF, gArrL K 1 ob OB] _ _ := hG
  exact g_iretH S hr hlk hQ dL_leg_18 (Nat.le_of_ble_eq_true rfl) (Nat.le_of_ble_eq_true rfl) (() : Unit) rfl hG

set_option maxHeartbeats 1000000 in
set_option maxRecDepth 100000 in
theorem x2_L_leg (l : Launch) (K : KC) (ad : Nat → Nat) (ou : Int) (mi : Int) (bo : Int) (ln : Int) (LF : Int → Int) (sn : Int) (SF : Int → Int) (N : Int → Int) (pv : PV) (ps : Nat) (pr : RU) (pX : Int → Int) (y : Int) (x : Int) (z : Int) (ob : Nat) (OB : Int → Int) (hS : ScOk N ou mi bo ln LF sn SF) (hN : NOk0 N) (hv : -2147483648 ≤ y ∧ y < 2147483648) (hx : -2147483648 ≤ x ∧ x < 2147483648) (hz : -2147483648 ≤ z ∧ z < 2147483648) (hs : 0 ≤ y ∧ y < N 4) (h1 : ¬ (0 ≤ x ∧ x < (gS N y : Int))) (hst : l.stackTraces = false) : mH l yL_leg wsL_leg 7 143 K [.ref (ad 0), .int (iI y), .int (iI x), .int (iI z), .ref ob] [gRLC K ad, gPthV K (ad 8) (ad 27) (ad 35) (ad 28) (ad 29) (ad 30) (ad 31) (ad 32) (ad 33) (ad 34) pv, gRayU K (ad 35) (ad 36) (ad 37) (ad 38) (ad 39) ps pr pX, gScn K (ad 3) (ad 14) (ad 15) (ad 16) (ad 17) ou mi bo ln LF sn SF, gArrL K 1 ob OB] (fun (v : Value) (u : PV × RU × (Int → Int)) => (v = .int (iI 1))) (fun (u : PV × RU × (Int → Int)) => [gRLC K ad, gPthV K (ad 8) (ad 27) (ad 35) (ad 28) (ad 29) (ad 30) (ad 31) (ad 32) (ad 33) (ad 34) u.1, gRayU K (ad 35) (ad 36) (ad 37) (ad 38) (ad 39) (ad 3) u.2.1 u.2.2, gScn K (ad 3) (ad 14) (ad 15) (ad 16) (ad 17) ou mi bo ln LF sn SF, gArrL K 1 ob OB]) 1 6 := by
  refine mH_of cL_leg 6 (by decide) rfl (Nat.le_of_ble_eq_true rfl) ?_
  intro p e s m below meth c A ls Q S C hG hl hr hlk hin htab hQ
  have S : CallFix p m c cL_leg 6 s ([.ref (ad 0), .int (iI y), .int (iI x), .int (iI z), .ref ob] : List Value).toArray wsL_leg RL := S
  have hl : lv_has ls 6 [(0, .ref (ad 0)), (1, .int (iI y)), (2, .int (iI x)), (3, .int (iI z)), (4, .ref ob)] := hl
  have hG : gW K A s.heap [gRLC K ad, gPthV K (ad 8) (ad 27) (ad 35) (ad 28) (ad 29) (ad 30) (ad 31) (ad 32) (ad 33) (ad 34) pv, gRayU K (ad 35) (ad 36) (ad 37) (ad 38) (ad 39) ps pr pX, gScn K (ad 3) (ad 14) (ad 15) (ad 16) (ad 17) ou mi bo ln LF sn SF, gArrL K 1 ob OB] s.heap [] := hG
  refine lv_aload S.1 S.2.1 dL_leg_0 (lv_at hl 4 rfl) ?_
  refine g_iconst S dL_leg_2 ?_
  refine lv_aload_n S.1 S.2.1 dL_leg_3 rfl (lv_at hl 0 rfl) ?_
  refine lv_iload_n S.1 S.2.1 dL_leg_4 rfl (lv_at hl 1 rfl) ?_
  refine lv_iload_n S.1 S.2.1 dL_leg_5 rfl (lv_at hl 2 rfl) ?_
  refine lv_iload_n S.1 S.2.1 dL_leg_6 rfl (lv_at hl 3 rfl) ?_
  refine g_xV (E := "java/lang/IndexOutOfBoundsException") (As := [.int (iI y), .int (iI x), .int (iI z)]) (rest := [.int (iI 0), .ref ob]) (gs' := (fun u : PV × RU × (Int → Int) => [gRLC K ad, gPthV K (ad 8) (ad 27) (ad 35) (ad 28) (ad 29) (ad 30) (ad 31) (ad 32) (ad 33) (ad 34) u.1, gRayU K (ad 35) (ad 36) (ad 37) (ad 38) (ad 39) (ad 3) u.2.1 u.2.2, gScn K (ad 3) (ad 14) (ad 15) (ad 16) (ad 17) ou mi bo ln LF sn SF, gArrL K 1 ob OB])) S C hG [0, 1, 2, 3] (x2_leg l K ad ou mi bo ln LF sn SF N pv ps pr pX y x z hS hN hv hx hz hs h1 hst) rfl rfl 0 rfl rfl (cwV 3 S.2.2.2.2 gL_leg_X8_leg rfl rfl rfl (by decide +kernel) ⟨Nat.le_of_ble_eq_true rfl, Nat.le_of_ble_eq_true rfl⟩) rfl hl.1 rfl (Nat.le_of_ble_eq_true rfl) dL_leg_7 ⟨Nat.le_of_ble_eq_true rfl, Nat.le_of_ble_eq_true rfl⟩ (fun _ => Nat.le_of_ble_eq_true rfl) (fun _ => rfl) (fun u q9 ce9 H locs hp hG hq9 hv9 hcl9 => ?_)
  obtain ⟨pv2_7, pr2_7, pX2_7⟩ := u
  have hG : gW K A s.heap [gRLC K ad, gPthV K (ad 8) (ad 27) (ad 35) (ad 28) (ad 29) (ad 30) (ad 31) (ad 32) (ad 33) (ad 34) pv2_7, gRayU K (ad 35) (ad 36) (ad 37) (ad 38) (ad 39) (ad 3) pr2_7 pX2_7, gScn K (ad 3) (ad 14) (ad 15) (ad 16) (ad 17) ou mi bo ln LF sn SF, gArrL K 1 ob OB] _ _ := hG
  refine g_catch (E := "java/lang/IndexOutOfBoundsException") (st := 0) (en := 12) (hpc := 15) (ct := 29) (suf' := [(0, 12, 19, 19)]) S C [] htab (List.mem_of_getElem? (l := exC) (i := 0) rfl) (fun _ h => absurd h List.not_mem_nil) ⟨by decide, by decide⟩ (by decide) (List.mem_of_getElem? (i := 1) rfl) hq9 hv9 hcl9 ?_
  refine lv_astore (lv' := [(5, .ref q9), (0, .ref (ad 0)), (1, .int (iI y)), (2, .int (iI x)), (3, .int (iI z)), (4, .ref ob)]) S.1 S.2.1 dL_leg_15 hl (by decide) rfl (fun ls hl => ?_)
  refine g_iconst S dL_leg_17 ?_
  have hG : gW K A s.heap [gRLC K ad, gPthV K (ad 8) (ad 27) (ad 35) (ad 28) (ad 29) (ad 30) (ad 31) (ad 32) (ad 33) (ad 34) pv2_7, gRayU K (ad 35) (ad 36) (ad 37) (ad 38) (ad 39) (ad 3) pr2_7 pX2_7, gScn K (ad 3) (ad 14) (ad 15) (ad 16) (ad 17) ou mi bo ln LF sn SF, gArrL K 1 ob OB] _ _ := hG
  exact g_iretH S hr hlk hQ dL_leg_18 (Nat.le_of_ble_eq_true rfl) (Nat.le_of_ble_eq_true rfl) ((pv2_7, pr2_7, pX2_7) : PV × RU × (Int → Int)) rfl hG

set_option maxHeartbeats 1000000 in
set_option maxRecDepth 100000 in
theorem x3_L_leg (l : Launch) (K : KC) (ad : Nat → Nat) (ou : Int) (mi : Int) (bo : Int) (ln : Int) (LF : Int → Int) (sn : Int) (SF : Int → Int) (N : Int → Int) (pv : PV) (ps : Nat) (pr : RU) (pX : Int → Int) (y : Int) (x : Int) (z : Int) (ob : Nat) (OB : Int → Int) (hS : ScOk N ou mi bo ln LF sn SF) (hN : NOk0 N) (hv : -2147483648 ≤ y ∧ y < 2147483648) (hx : -2147483648 ≤ x ∧ x < 2147483648) (hz : -2147483648 ≤ z ∧ z < 2147483648) (hs : 0 ≤ y ∧ y < N 4) (h1 : 0 ≤ x ∧ x < (gS N y : Int)) (h2 : ¬ (0 ≤ z ∧ z ≤ 6)) (hst : l.stackTraces = false) : mH l yL_leg wsL_leg 8 143 K [.ref (ad 0), .int (iI y), .int (iI x), .int (iI z), .ref ob] [gRLC K ad, gPthV K (ad 8) (ad 27) (ad 35) (ad 28) (ad 29) (ad 30) (ad 31) (ad 32) (ad 33) (ad 34) pv, gRayU K (ad 35) (ad 36) (ad 37) (ad 38) (ad 39) ps pr pX, gScn K (ad 3) (ad 14) (ad 15) (ad 16) (ad 17) ou mi bo ln LF sn SF, gArrL K 1 ob OB] (fun (v : Value) (u : PV × RU × (Int → Int)) => (v = .int (iI 2))) (fun (u : PV × RU × (Int → Int)) => [gRLC K ad, gPthV K (ad 8) (ad 27) (ad 35) (ad 28) (ad 29) (ad 30) (ad 31) (ad 32) (ad 33) (ad 34) u.1, gRayU K (ad 35) (ad 36) (ad 37) (ad 38) (ad 39) (ad 3) u.2.1 u.2.2, gScn K (ad 3) (ad 14) (ad 15) (ad 16) (ad 17) ou mi bo ln LF sn SF, gArrL K 1 ob OB]) 1 6 := by
  refine mH_of cL_leg 6 (by decide) rfl (Nat.le_of_ble_eq_true rfl) ?_
  intro p e s m below meth c A ls Q S C hG hl hr hlk hin htab hQ
  have S : CallFix p m c cL_leg 6 s ([.ref (ad 0), .int (iI y), .int (iI x), .int (iI z), .ref ob] : List Value).toArray wsL_leg RL := S
  have hl : lv_has ls 6 [(0, .ref (ad 0)), (1, .int (iI y)), (2, .int (iI x)), (3, .int (iI z)), (4, .ref ob)] := hl
  have hG : gW K A s.heap [gRLC K ad, gPthV K (ad 8) (ad 27) (ad 35) (ad 28) (ad 29) (ad 30) (ad 31) (ad 32) (ad 33) (ad 34) pv, gRayU K (ad 35) (ad 36) (ad 37) (ad 38) (ad 39) ps pr pX, gScn K (ad 3) (ad 14) (ad 15) (ad 16) (ad 17) ou mi bo ln LF sn SF, gArrL K 1 ob OB] s.heap [] := hG
  refine lv_aload S.1 S.2.1 dL_leg_0 (lv_at hl 4 rfl) ?_
  refine g_iconst S dL_leg_2 ?_
  refine lv_aload_n S.1 S.2.1 dL_leg_3 rfl (lv_at hl 0 rfl) ?_
  refine lv_iload_n S.1 S.2.1 dL_leg_4 rfl (lv_at hl 1 rfl) ?_
  refine lv_iload_n S.1 S.2.1 dL_leg_5 rfl (lv_at hl 2 rfl) ?_
  refine lv_iload_n S.1 S.2.1 dL_leg_6 rfl (lv_at hl 3 rfl) ?_
  refine g_xV (E := "java/lang/IllegalArgumentException") (As := [.int (iI y), .int (iI x), .int (iI z)]) (rest := [.int (iI 0), .ref ob]) (gs' := (fun u : PV × RU × (Int → Int) => [gRLC K ad, gPthV K (ad 8) (ad 27) (ad 35) (ad 28) (ad 29) (ad 30) (ad 31) (ad 32) (ad 33) (ad 34) u.1, gRayU K (ad 35) (ad 36) (ad 37) (ad 38) (ad 39) (ad 3) u.2.1 u.2.2, gScn K (ad 3) (ad 14) (ad 15) (ad 16) (ad 17) ou mi bo ln LF sn SF, gArrL K 1 ob OB])) S C hG [0, 1, 2, 3] (x3_leg l K ad ou mi bo ln LF sn SF N pv ps pr pX y x z hS hN hv hx hz hs h1 h2 hst) rfl rfl 0 rfl rfl (cwV 3 S.2.2.2.2 gL_leg_X8_leg rfl rfl rfl (by decide +kernel) ⟨Nat.le_of_ble_eq_true rfl, Nat.le_of_ble_eq_true rfl⟩) rfl hl.1 rfl (Nat.le_of_ble_eq_true rfl) dL_leg_7 ⟨Nat.le_of_ble_eq_true rfl, Nat.le_of_ble_eq_true rfl⟩ (fun _ => Nat.le_of_ble_eq_true rfl) (fun _ => rfl) (fun u q9 ce9 H locs hp hG hq9 hv9 hcl9 => ?_)
  obtain ⟨pv2_7, pr2_7, pX2_7⟩ := u
  have hG : gW K A s.heap [gRLC K ad, gPthV K (ad 8) (ad 27) (ad 35) (ad 28) (ad 29) (ad 30) (ad 31) (ad 32) (ad 33) (ad 34) pv2_7, gRayU K (ad 35) (ad 36) (ad 37) (ad 38) (ad 39) (ad 3) pr2_7 pX2_7, gScn K (ad 3) (ad 14) (ad 15) (ad 16) (ad 17) ou mi bo ln LF sn SF, gArrL K 1 ob OB] _ _ := hG
  refine g_catch (E := "java/lang/IllegalArgumentException") (st := 0) (en := 12) (hpc := 19) (ct := 19) (suf' := []) S C [(0, 12, 15, 29)] htab (List.mem_of_getElem? (l := exC) (i := 1) rfl) (List.forall_mem_cons.mpr ⟨⟨by decide, "java/lang/IndexOutOfBoundsException", (List.mem_of_getElem? (l := exC) (i := 0) rfl), by decide, (List.mem_of_getElem? (i := 1) rfl)⟩, fun _ h => absurd h List.not_mem_nil⟩) ⟨by decide, by decide⟩ (by decide) (List.mem_of_getElem? (i := 2) rfl) hq9 hv9 hcl9 ?_
  refine lv_astore (lv' := [(5, .ref q9), (0, .ref (ad 0)), (1, .int (iI y)), (2, .int (iI x)), (3, .int (iI z)), (4, .ref ob)]) S.1 S.2.1 dL_leg_19 hl (by decide) rfl (fun ls hl => ?_)
  refine g_iconst S dL_leg_21 ?_
  have hG : gW K A s.heap [gRLC K ad, gPthV K (ad 8) (ad 27) (ad 35) (ad 28) (ad 29) (ad 30) (ad 31) (ad 32) (ad 33) (ad 34) pv2_7, gRayU K (ad 35) (ad 36) (ad 37) (ad 38) (ad 39) (ad 3) pr2_7 pX2_7, gScn K (ad 3) (ad 14) (ad 15) (ad 16) (ad 17) ou mi bo ln LF sn SF, gArrL K 1 ob OB] _ _ := hG
  exact g_iretH S hr hlk hQ dL_leg_22 (Nat.le_of_ble_eq_true rfl) (Nat.le_of_ble_eq_true rfl) ((pv2_7, pr2_7, pX2_7) : PV × RU × (Int → Int)) rfl hG

set_option maxHeartbeats 1000000 in
set_option maxRecDepth 100000 in
theorem c_L_legAt (l : Launch) (K : KC) (ad : Nat → Nat) (ou : Int) (mi : Int) (bo : Int) (ln : Int) (LF : Int → Int) (sn : Int) (SF : Int → Int) (N : Int → Int) (pv : PV) (ps : Nat) (pr : RU) (pX : Int → Int) (y : Int) (x : Int) (ob : Nat) (OB : Int → Int) (hS : ScOk N ou mi bo ln LF sn SF) (hN : NOk0 N) (hv : -2147483648 ≤ y ∧ y < 2147483648) (hs : 0 ≤ y ∧ y < N 4) (hx : 0 ≤ x ∧ x < 2147483648) : mH l yL_legAt wsL_legAt 6 143 K [.ref (ad 0), .int (iI y), .int (iI x), .ref ob] [gRLC K ad, gPthV K (ad 8) (ad 27) (ad 35) (ad 28) (ad 29) (ad 30) (ad 31) (ad 32) (ad 33) (ad 34) pv, gRayU K (ad 35) (ad 36) (ad 37) (ad 38) (ad 39) ps pr pX, gScn K (ad 3) (ad 14) (ad 15) (ad 16) (ad 17) ou mi bo ln LF sn SF, gArrL K 1 ob OB] (fun (v : Value) (u : PV × RU × (Int → Int)) => (v = .int (iI 0)) ∧ (PthR N (sP N y) (sY N y) (sD N y) u.1)) (fun (u : PV × RU × (Int → Int)) => [gRLC K ad, gPthV K (ad 8) (ad 27) (ad 35) (ad 28) (ad 29) (ad 30) (ad 31) (ad 32) (ad 33) (ad 34) u.1, gRayU K (ad 35) (ad 36) (ad 37) (ad 38) (ad 39) (ad 3) u.2.1 u.2.2, gScn K (ad 3) (ad 14) (ad 15) (ad 16) (ad 17) ou mi bo ln LF sn SF, gArrL K 1 ob (upI OB 0 (iI (legN N y x)).toInt)]) 0 0 := by
  refine mH_of cL_legAt 5 (by decide) rfl (Nat.le_of_ble_eq_true rfl) ?_
  intro p e s m below meth c A ls Q S C hG hl hr hlk hin htab hQ
  have S : CallFix p m c cL_legAt 5 s ([.ref (ad 0), .int (iI y), .int (iI x), .ref ob] : List Value).toArray wsL_legAt RL := S
  have hl : lv_has ls 5 [(0, .ref (ad 0)), (1, .int (iI y)), (2, .int (iI x)), (3, .ref ob)] := hl
  have hG : gW K A s.heap [gRLC K ad, gPthV K (ad 8) (ad 27) (ad 35) (ad 28) (ad 29) (ad 30) (ad 31) (ad 32) (ad 33) (ad 34) pv, gRayU K (ad 35) (ad 36) (ad 37) (ad 38) (ad 39) ps pr pX, gScn K (ad 3) (ad 14) (ad 15) (ad 16) (ad 17) ou mi bo ln LF sn SF, gArrL K 1 ob OB] s.heap [] := hG
  refine lv_aload_n S.1 S.2.1 dL_legAt_0 rfl (lv_at hl 3 rfl) ?_
  refine g_iconst S dL_legAt_1 ?_
  refine lv_aload_n S.1 S.2.1 dL_legAt_2 rfl (lv_at hl 0 rfl) ?_
  refine lv_iload_n S.1 S.2.1 dL_legAt_3 rfl (lv_at hl 1 rfl) ?_
  refine lv_iload_n S.1 S.2.1 dL_legAt_4 rfl (lv_at hl 2 rfl) ?_
  refine g_invV (As := [.int (iI y), .int (iI x)]) (rest := [.int (iI 0), .ref ob]) (gs' := (fun u : PV × RU × (Int → Int) => [gRLC K ad, gPthV K (ad 8) (ad 27) (ad 35) (ad 28) (ad 29) (ad 30) (ad 31) (ad 32) (ad 33) (ad 34) u.1, gRayU K (ad 35) (ad 36) (ad 37) (ad 38) (ad 39) (ad 3) u.2.1 u.2.2, gScn K (ad 3) (ad 14) (ad 15) (ad 16) (ad 17) ou mi bo ln LF sn SF, gArrL K 1 ob OB])) S C hG [0, 1, 2, 3] (c_X8_legAt l K ad ou mi bo ln LF sn SF N pv ps pr pX y x hS hN hv hs hx) rfl rfl 0 rfl rfl (cwV 2 S.2.2.2.2 gL_legAt_X8_legAt rfl rfl rfl (by decide +kernel) ⟨Nat.le_of_ble_eq_true rfl, Nat.le_of_ble_eq_true rfl⟩) rfl hl.1 rfl (Nat.le_of_ble_eq_true rfl) dL_legAt_5 ⟨Nat.le_of_ble_eq_true rfl, Nat.le_of_ble_eq_true rfl⟩ (fun _ => Nat.le_of_ble_eq_true rfl) (fun _ => rfl) (fun v u H locs hp hG => ?_)
  obtain ⟨pv2_5, pr2_5, pX2_5⟩ := u
  obtain ⟨rfl, hp_5⟩ := hp
  have hp_5 : PthR N (sP N y) (sY N y) (sD N y) pv2_5 := hp_5
  have hG : gW K A s.heap [gRLC K ad, gPthV K (ad 8) (ad 27) (ad 35) (ad 28) (ad 29) (ad 30) (ad 31) (ad 32) (ad 33) (ad 34) pv2_5, gRayU K (ad 35) (ad 36) (ad 37) (ad 38) (ad 39) (ad 3) pr2_5 pX2_5, gScn K (ad 3) (ad 14) (ad 15) (ad 16) (ad 17) ou mi bo ln LF sn SF, gArrL K 1 ob OB] _ _ := hG
  refine g_i2lr S dL_legAt_8 ?_
  refine g_last (n := 1) (gs' := [gRLC K ad, gPthV K (ad 8) (ad 27) (ad 35) (ad 28) (ad 29) (ad 30) (ad 31) (ad 32) (ad 33) (ad 34) pv2_5, gRayU K (ad 35) (ad 36) (ad 37) (ad 38) (ad 39) (ad 3) pr2_5 pX2_5, gScn K (ad 3) (ad 14) (ad 15) (ad 16) (ad 17) ou mi bo ln LF sn SF, gArrL K 1 ob (upI OB 0 ((iI (legN N y x)).toInt))]) S C hG 20 rfl (by decide) (by decide) (by decide) rfl dL_legAt_9 (fun H locs hG => ?_)
  refine lv_goto (tgt := 21) S.1 S.2.1 dL_legAt_10 (by decide) ?_
  refine g_iconst S dL_legAt_21 ?_
  have hG : gW K A s.heap [gRLC K ad, gPthV K (ad 8) (ad 27) (ad 35) (ad 28) (ad 29) (ad 30) (ad 31) (ad 32) (ad 33) (ad 34) pv2_5, gRayU K (ad 35) (ad 36) (ad 37) (ad 38) (ad 39) (ad 3) pr2_5 pX2_5, gScn K (ad 3) (ad 14) (ad 15) (ad 16) (ad 17) ou mi bo ln LF sn SF, gArrL K 1 ob (upI OB 0 (iI (legN N y x)).toInt)] _ _ := hG
  exact g_iretH S hr hlk hQ dL_legAt_22 (Nat.le_of_ble_eq_true rfl) (Nat.le_of_ble_eq_true rfl) ((pv2_5, pr2_5, pX2_5) : PV × RU × (Int → Int)) ⟨rfl, hp_5⟩ hG

set_option maxHeartbeats 1000000 in
set_option maxRecDepth 100000 in
theorem x1_L_legAt (l : Launch) (K : KC) (ad : Nat → Nat) (ou : Int) (mi : Int) (bo : Int) (ln : Int) (LF : Int → Int) (sn : Int) (SF : Int → Int) (N : Int → Int) (pv : PV) (ps : Nat) (pr : RU) (pX : Int → Int) (y : Int) (x : Int) (ob : Nat) (OB : Int → Int) (hS : ScOk N ou mi bo ln LF sn SF) (hN : NOk0 N) (hv : -2147483648 ≤ y ∧ y < 2147483648) (hx : -2147483648 ≤ x ∧ x < 2147483648) (h0 : ¬ (0 ≤ y ∧ y < N 4)) (hst : l.stackTraces = false) : mH l yL_legAt wsL_legAt 9 149 K [.ref (ad 0), .int (iI y), .int (iI x), .ref ob] [gRLC K ad, gPthV K (ad 8) (ad 27) (ad 35) (ad 28) (ad 29) (ad 30) (ad 31) (ad 32) (ad 33) (ad 34) pv, gRayU K (ad 35) (ad 36) (ad 37) (ad 38) (ad 39) ps pr pX, gScn K (ad 3) (ad 14) (ad 15) (ad 16) (ad 17) ou mi bo ln LF sn SF, gArrL K 1 ob OB] (fun (v : Value) (u : Unit) => (v = .int (iI 1))) (fun (u : Unit) => [gRLC K ad, gPthV K (ad 8) (ad 27) (ad 35) (ad 28) (ad 29) (ad 30) (ad 31) (ad 32) (ad 33) (ad 34) pv, gRayU K (ad 35) (ad 36) (ad 37) (ad 38) (ad 39) ps pr pX, gScn K (ad 3) (ad 14) (ad 15) (ad 16) (ad 17) ou mi bo ln LF sn SF, gArrL K 1 ob OB]) 1 6 := by
  refine mH_of cL_legAt 5 (by decide) rfl (Nat.le_of_ble_eq_true rfl) ?_
  intro p e s m below meth c A ls Q S C hG hl hr hlk hin htab hQ
  have S : CallFix p m c cL_legAt 5 s ([.ref (ad 0), .int (iI y), .int (iI x), .ref ob] : List Value).toArray wsL_legAt RL := S
  have hl : lv_has ls 5 [(0, .ref (ad 0)), (1, .int (iI y)), (2, .int (iI x)), (3, .ref ob)] := hl
  have hG : gW K A s.heap [gRLC K ad, gPthV K (ad 8) (ad 27) (ad 35) (ad 28) (ad 29) (ad 30) (ad 31) (ad 32) (ad 33) (ad 34) pv, gRayU K (ad 35) (ad 36) (ad 37) (ad 38) (ad 39) ps pr pX, gScn K (ad 3) (ad 14) (ad 15) (ad 16) (ad 17) ou mi bo ln LF sn SF, gArrL K 1 ob OB] s.heap [] := hG
  refine lv_aload_n S.1 S.2.1 dL_legAt_0 rfl (lv_at hl 3 rfl) ?_
  refine g_iconst S dL_legAt_1 ?_
  refine lv_aload_n S.1 S.2.1 dL_legAt_2 rfl (lv_at hl 0 rfl) ?_
  refine lv_iload_n S.1 S.2.1 dL_legAt_3 rfl (lv_at hl 1 rfl) ?_
  refine lv_iload_n S.1 S.2.1 dL_legAt_4 rfl (lv_at hl 2 rfl) ?_
  refine g_xV (E := "java/lang/IndexOutOfBoundsException") (As := [.int (iI y), .int (iI x)]) (rest := [.int (iI 0), .ref ob]) (gs' := (fun u : Unit => [gRLC K ad, gPthV K (ad 8) (ad 27) (ad 35) (ad 28) (ad 29) (ad 30) (ad 31) (ad 32) (ad 33) (ad 34) pv, gRayU K (ad 35) (ad 36) (ad 37) (ad 38) (ad 39) ps pr pX, gScn K (ad 3) (ad 14) (ad 15) (ad 16) (ad 17) ou mi bo ln LF sn SF, gArrL K 1 ob OB])) S C hG [0, 1, 2, 3] (x1_legAt l K ad ou mi bo ln LF sn SF N pv ps pr pX y x hS hN hv hx h0 hst) rfl rfl 0 rfl rfl (cwV 2 S.2.2.2.2 gL_legAt_X8_legAt rfl rfl rfl (by decide +kernel) ⟨Nat.le_of_ble_eq_true rfl, Nat.le_of_ble_eq_true rfl⟩) rfl hl.1 rfl (Nat.le_of_ble_eq_true rfl) dL_legAt_5 ⟨Nat.le_of_ble_eq_true rfl, Nat.le_of_ble_eq_true rfl⟩ (fun _ => Nat.le_of_ble_eq_true rfl) (fun _ => rfl) (fun u q9 ce9 H locs hp hG hq9 hv9 hcl9 => ?_)
  refine g_catch (E := "java/lang/IndexOutOfBoundsException") (st := 0) (en := 10) (hpc := 13) (ct := 29) (suf' := [(0, 10, 17, 19)]) S C [] htab (List.mem_of_getElem? (l := exC) (i := 0) rfl) (fun _ h => absurd h List.not_mem_nil) ⟨by decide, by decide⟩ (by decide) (List.mem_of_getElem? (i := 1) rfl) hq9 hv9 hcl9 ?_
  refine lv_astore (lv' := [(4, .ref q9), (0, .ref (ad 0)), (1, .int (iI y)), (2, .int (iI x)), (3, .ref ob)]) S.1 S.2.1 dL_legAt_13 hl (by decide) rfl (fun ls hl => ?_)
  refine g_iconst S dL_legAt_15 ?_
  have hG : gW K A s.heap [gRLC K ad, gPthV K (ad 8) (ad 27) (ad 35) (ad 28) (ad 29) (ad 30) (ad 31) (ad 32) (ad 33) (ad 34) pv, gRayU K (ad 35) (ad 36) (ad 37) (ad 38) (ad 39) ps pr pX, gScn K (ad 3) (ad 14) (ad 15) (ad 16) (ad 17) ou mi bo ln LF sn SF, gArrL K 1 ob OB] _ _ := hG
  exact g_iretH S hr hlk hQ dL_legAt_16 (Nat.le_of_ble_eq_true rfl) (Nat.le_of_ble_eq_true rfl) (() : Unit) rfl hG

set_option maxHeartbeats 1000000 in
set_option maxRecDepth 100000 in
theorem x2_L_legAt (l : Launch) (K : KC) (ad : Nat → Nat) (ou : Int) (mi : Int) (bo : Int) (ln : Int) (LF : Int → Int) (sn : Int) (SF : Int → Int) (N : Int → Int) (pv : PV) (ps : Nat) (pr : RU) (pX : Int → Int) (y : Int) (x : Int) (ob : Nat) (OB : Int → Int) (hS : ScOk N ou mi bo ln LF sn SF) (hN : NOk0 N) (hv : -2147483648 ≤ y ∧ y < 2147483648) (hx : -2147483648 ≤ x ∧ x < 2147483648) (hs : 0 ≤ y ∧ y < N 4) (h1 : ¬ 0 ≤ x) (hst : l.stackTraces = false) : mH l yL_legAt wsL_legAt 9 148 K [.ref (ad 0), .int (iI y), .int (iI x), .ref ob] [gRLC K ad, gPthV K (ad 8) (ad 27) (ad 35) (ad 28) (ad 29) (ad 30) (ad 31) (ad 32) (ad 33) (ad 34) pv, gRayU K (ad 35) (ad 36) (ad 37) (ad 38) (ad 39) ps pr pX, gScn K (ad 3) (ad 14) (ad 15) (ad 16) (ad 17) ou mi bo ln LF sn SF, gArrL K 1 ob OB] (fun (v : Value) (u : Unit) => (v = .int (iI 2))) (fun (u : Unit) => [gRLC K ad, gPthV K (ad 8) (ad 27) (ad 35) (ad 28) (ad 29) (ad 30) (ad 31) (ad 32) (ad 33) (ad 34) pv, gRayU K (ad 35) (ad 36) (ad 37) (ad 38) (ad 39) ps pr pX, gScn K (ad 3) (ad 14) (ad 15) (ad 16) (ad 17) ou mi bo ln LF sn SF, gArrL K 1 ob OB]) 1 6 := by
  refine mH_of cL_legAt 5 (by decide) rfl (Nat.le_of_ble_eq_true rfl) ?_
  intro p e s m below meth c A ls Q S C hG hl hr hlk hin htab hQ
  have S : CallFix p m c cL_legAt 5 s ([.ref (ad 0), .int (iI y), .int (iI x), .ref ob] : List Value).toArray wsL_legAt RL := S
  have hl : lv_has ls 5 [(0, .ref (ad 0)), (1, .int (iI y)), (2, .int (iI x)), (3, .ref ob)] := hl
  have hG : gW K A s.heap [gRLC K ad, gPthV K (ad 8) (ad 27) (ad 35) (ad 28) (ad 29) (ad 30) (ad 31) (ad 32) (ad 33) (ad 34) pv, gRayU K (ad 35) (ad 36) (ad 37) (ad 38) (ad 39) ps pr pX, gScn K (ad 3) (ad 14) (ad 15) (ad 16) (ad 17) ou mi bo ln LF sn SF, gArrL K 1 ob OB] s.heap [] := hG
  refine lv_aload_n S.1 S.2.1 dL_legAt_0 rfl (lv_at hl 3 rfl) ?_
  refine g_iconst S dL_legAt_1 ?_
  refine lv_aload_n S.1 S.2.1 dL_legAt_2 rfl (lv_at hl 0 rfl) ?_
  refine lv_iload_n S.1 S.2.1 dL_legAt_3 rfl (lv_at hl 1 rfl) ?_
  refine lv_iload_n S.1 S.2.1 dL_legAt_4 rfl (lv_at hl 2 rfl) ?_
  refine g_xV (E := "java/lang/IllegalArgumentException") (As := [.int (iI y), .int (iI x)]) (rest := [.int (iI 0), .ref ob]) (gs' := (fun u : Unit => [gRLC K ad, gPthV K (ad 8) (ad 27) (ad 35) (ad 28) (ad 29) (ad 30) (ad 31) (ad 32) (ad 33) (ad 34) pv, gRayU K (ad 35) (ad 36) (ad 37) (ad 38) (ad 39) ps pr pX, gScn K (ad 3) (ad 14) (ad 15) (ad 16) (ad 17) ou mi bo ln LF sn SF, gArrL K 1 ob OB])) S C hG [0, 1, 2, 3] (x2_legAt l K ad ou mi bo ln LF sn SF N pv ps pr pX y x hS hN hv hx hs h1 hst) rfl rfl 0 rfl rfl (cwV 2 S.2.2.2.2 gL_legAt_X8_legAt rfl rfl rfl (by decide +kernel) ⟨Nat.le_of_ble_eq_true rfl, Nat.le_of_ble_eq_true rfl⟩) rfl hl.1 rfl (Nat.le_of_ble_eq_true rfl) dL_legAt_5 ⟨Nat.le_of_ble_eq_true rfl, Nat.le_of_ble_eq_true rfl⟩ (fun _ => Nat.le_of_ble_eq_true rfl) (fun _ => rfl) (fun u q9 ce9 H locs hp hG hq9 hv9 hcl9 => ?_)
  refine g_catch (E := "java/lang/IllegalArgumentException") (st := 0) (en := 10) (hpc := 17) (ct := 19) (suf' := []) S C [(0, 10, 13, 29)] htab (List.mem_of_getElem? (l := exC) (i := 1) rfl) (List.forall_mem_cons.mpr ⟨⟨by decide, "java/lang/IndexOutOfBoundsException", (List.mem_of_getElem? (l := exC) (i := 0) rfl), by decide, (List.mem_of_getElem? (i := 1) rfl)⟩, fun _ h => absurd h List.not_mem_nil⟩) ⟨by decide, by decide⟩ (by decide) (List.mem_of_getElem? (i := 2) rfl) hq9 hv9 hcl9 ?_
  refine lv_astore (lv' := [(4, .ref q9), (0, .ref (ad 0)), (1, .int (iI y)), (2, .int (iI x)), (3, .ref ob)]) S.1 S.2.1 dL_legAt_17 hl (by decide) rfl (fun ls hl => ?_)
  refine g_iconst S dL_legAt_19 ?_
  have hG : gW K A s.heap [gRLC K ad, gPthV K (ad 8) (ad 27) (ad 35) (ad 28) (ad 29) (ad 30) (ad 31) (ad 32) (ad 33) (ad 34) pv, gRayU K (ad 35) (ad 36) (ad 37) (ad 38) (ad 39) ps pr pX, gScn K (ad 3) (ad 14) (ad 15) (ad 16) (ad 17) ou mi bo ln LF sn SF, gArrL K 1 ob OB] _ _ := hG
  exact g_iretH S hr hlk hQ dL_legAt_20 (Nat.le_of_ble_eq_true rfl) (Nat.le_of_ble_eq_true rfl) (() : Unit) rfl hG

set_option maxHeartbeats 1000000 in
set_option maxRecDepth 100000 in
theorem c_L_shiftAt (l : Launch) (K : KC) (ad : Nat → Nat) (ou : Int) (mi : Int) (bo : Int) (ln : Int) (LF : Int → Int) (sn : Int) (SF : Int → Int) (N : Int → Int) (pv : PV) (ps : Nat) (pr : RU) (pX : Int → Int) (y : Int) (x : Int) (ob : Nat) (OB : Int → Int) (hS : ScOk N ou mi bo ln LF sn SF) (hN : NOk0 N) (hv : -2147483648 ≤ y ∧ y < 2147483648) (hs : 0 ≤ y ∧ y < N 4) (hx : 0 ≤ x ∧ x < 2147483648) : mH l yL_shiftAt wsL_shiftAt 6 143 K [.ref (ad 0), .int (iI y), .int (iI x), .ref ob] [gRLC K ad, gPthV K (ad 8) (ad 27) (ad 35) (ad 28) (ad 29) (ad 30) (ad 31) (ad 32) (ad 33) (ad 34) pv, gRayU K (ad 35) (ad 36) (ad 37) (ad 38) (ad 39) ps pr pX, gScn K (ad 3) (ad 14) (ad 15) (ad 16) (ad 17) ou mi bo ln LF sn SF, gArrL K 1 ob OB] (fun (v : Value) (u : PV × RU × (Int → Int)) => (v = .int (iI 0)) ∧ (PthR N (sP N y) (sY N y) (sD N y) u.1)) (fun (u : PV × RU × (Int → Int)) => [gRLC K ad, gPthV K (ad 8) (ad 27) (ad 35) (ad 28) (ad 29) (ad 30) (ad 31) (ad 32) (ad 33) (ad 34) u.1, gRayU K (ad 35) (ad 36) (ad 37) (ad 38) (ad 39) (ad 3) u.2.1 u.2.2, gScn K (ad 3) (ad 14) (ad 15) (ad 16) (ad 17) ou mi bo ln LF sn SF, gArrL K 1 ob (upI OB 0 (iI (shtN N y x)).toInt)]) 0 0 := by
  refine mH_of cL_shiftAt 5 (by decide) rfl (Nat.le_of_ble_eq_true rfl) ?_
  intro p e s m below meth c A ls Q S C hG hl hr hlk hin htab hQ
  have S : CallFix p m c cL_shiftAt 5 s ([.ref (ad 0), .int (iI y), .int (iI x), .ref ob] : List Value).toArray wsL_shiftAt RL := S
  have hl : lv_has ls 5 [(0, .ref (ad 0)), (1, .int (iI y)), (2, .int (iI x)), (3, .ref ob)] := hl
  have hG : gW K A s.heap [gRLC K ad, gPthV K (ad 8) (ad 27) (ad 35) (ad 28) (ad 29) (ad 30) (ad 31) (ad 32) (ad 33) (ad 34) pv, gRayU K (ad 35) (ad 36) (ad 37) (ad 38) (ad 39) ps pr pX, gScn K (ad 3) (ad 14) (ad 15) (ad 16) (ad 17) ou mi bo ln LF sn SF, gArrL K 1 ob OB] s.heap [] := hG
  refine lv_aload_n S.1 S.2.1 dL_shiftAt_0 rfl (lv_at hl 3 rfl) ?_
  refine g_iconst S dL_shiftAt_1 ?_
  refine lv_aload_n S.1 S.2.1 dL_shiftAt_2 rfl (lv_at hl 0 rfl) ?_
  refine lv_iload_n S.1 S.2.1 dL_shiftAt_3 rfl (lv_at hl 1 rfl) ?_
  refine lv_iload_n S.1 S.2.1 dL_shiftAt_4 rfl (lv_at hl 2 rfl) ?_
  refine g_invV (As := [.int (iI y), .int (iI x)]) (rest := [.int (iI 0), .ref ob]) (gs' := (fun u : PV × RU × (Int → Int) => [gRLC K ad, gPthV K (ad 8) (ad 27) (ad 35) (ad 28) (ad 29) (ad 30) (ad 31) (ad 32) (ad 33) (ad 34) u.1, gRayU K (ad 35) (ad 36) (ad 37) (ad 38) (ad 39) (ad 3) u.2.1 u.2.2, gScn K (ad 3) (ad 14) (ad 15) (ad 16) (ad 17) ou mi bo ln LF sn SF, gArrL K 1 ob OB])) S C hG [0, 1, 2, 3] (c_X8_shiftAt l K ad ou mi bo ln LF sn SF N pv ps pr pX y x hS hN hv hs hx) rfl rfl 0 rfl rfl (cwV 2 S.2.2.2.2 gL_shiftAt_X8_shiftAt rfl rfl rfl (by decide +kernel) ⟨Nat.le_of_ble_eq_true rfl, Nat.le_of_ble_eq_true rfl⟩) rfl hl.1 rfl (Nat.le_of_ble_eq_true rfl) dL_shiftAt_5 ⟨Nat.le_of_ble_eq_true rfl, Nat.le_of_ble_eq_true rfl⟩ (fun _ => Nat.le_of_ble_eq_true rfl) (fun _ => rfl) (fun v u H locs hp hG => ?_)
  obtain ⟨pv2_5, pr2_5, pX2_5⟩ := u
  obtain ⟨rfl, hp_5⟩ := hp
  have hp_5 : PthR N (sP N y) (sY N y) (sD N y) pv2_5 := hp_5
  have hG : gW K A s.heap [gRLC K ad, gPthV K (ad 8) (ad 27) (ad 35) (ad 28) (ad 29) (ad 30) (ad 31) (ad 32) (ad 33) (ad 34) pv2_5, gRayU K (ad 35) (ad 36) (ad 37) (ad 38) (ad 39) (ad 3) pr2_5 pX2_5, gScn K (ad 3) (ad 14) (ad 15) (ad 16) (ad 17) ou mi bo ln LF sn SF, gArrL K 1 ob OB] _ _ := hG
  refine g_i2lr S dL_shiftAt_8 ?_
  refine g_last (n := 1) (gs' := [gRLC K ad, gPthV K (ad 8) (ad 27) (ad 35) (ad 28) (ad 29) (ad 30) (ad 31) (ad 32) (ad 33) (ad 34) pv2_5, gRayU K (ad 35) (ad 36) (ad 37) (ad 38) (ad 39) (ad 3) pr2_5 pX2_5, gScn K (ad 3) (ad 14) (ad 15) (ad 16) (ad 17) ou mi bo ln LF sn SF, gArrL K 1 ob (upI OB 0 ((iI (shtN N y x)).toInt))]) S C hG 20 rfl (by decide) (by decide) (by decide) rfl dL_shiftAt_9 (fun H locs hG => ?_)
  refine lv_goto (tgt := 21) S.1 S.2.1 dL_shiftAt_10 (by decide) ?_
  refine g_iconst S dL_shiftAt_21 ?_
  have hG : gW K A s.heap [gRLC K ad, gPthV K (ad 8) (ad 27) (ad 35) (ad 28) (ad 29) (ad 30) (ad 31) (ad 32) (ad 33) (ad 34) pv2_5, gRayU K (ad 35) (ad 36) (ad 37) (ad 38) (ad 39) (ad 3) pr2_5 pX2_5, gScn K (ad 3) (ad 14) (ad 15) (ad 16) (ad 17) ou mi bo ln LF sn SF, gArrL K 1 ob (upI OB 0 (iI (shtN N y x)).toInt)] _ _ := hG
  exact g_iretH S hr hlk hQ dL_shiftAt_22 (Nat.le_of_ble_eq_true rfl) (Nat.le_of_ble_eq_true rfl) ((pv2_5, pr2_5, pX2_5) : PV × RU × (Int → Int)) ⟨rfl, hp_5⟩ hG

set_option maxHeartbeats 1000000 in
set_option maxRecDepth 100000 in
theorem x1_L_shiftAt (l : Launch) (K : KC) (ad : Nat → Nat) (ou : Int) (mi : Int) (bo : Int) (ln : Int) (LF : Int → Int) (sn : Int) (SF : Int → Int) (N : Int → Int) (pv : PV) (ps : Nat) (pr : RU) (pX : Int → Int) (y : Int) (x : Int) (ob : Nat) (OB : Int → Int) (hS : ScOk N ou mi bo ln LF sn SF) (hN : NOk0 N) (hv : -2147483648 ≤ y ∧ y < 2147483648) (hx : -2147483648 ≤ x ∧ x < 2147483648) (h0 : ¬ (0 ≤ y ∧ y < N 4)) (hst : l.stackTraces = false) : mH l yL_shiftAt wsL_shiftAt 9 149 K [.ref (ad 0), .int (iI y), .int (iI x), .ref ob] [gRLC K ad, gPthV K (ad 8) (ad 27) (ad 35) (ad 28) (ad 29) (ad 30) (ad 31) (ad 32) (ad 33) (ad 34) pv, gRayU K (ad 35) (ad 36) (ad 37) (ad 38) (ad 39) ps pr pX, gScn K (ad 3) (ad 14) (ad 15) (ad 16) (ad 17) ou mi bo ln LF sn SF, gArrL K 1 ob OB] (fun (v : Value) (u : Unit) => (v = .int (iI 1))) (fun (u : Unit) => [gRLC K ad, gPthV K (ad 8) (ad 27) (ad 35) (ad 28) (ad 29) (ad 30) (ad 31) (ad 32) (ad 33) (ad 34) pv, gRayU K (ad 35) (ad 36) (ad 37) (ad 38) (ad 39) ps pr pX, gScn K (ad 3) (ad 14) (ad 15) (ad 16) (ad 17) ou mi bo ln LF sn SF, gArrL K 1 ob OB]) 1 6 := by
  refine mH_of cL_shiftAt 5 (by decide) rfl (Nat.le_of_ble_eq_true rfl) ?_
  intro p e s m below meth c A ls Q S C hG hl hr hlk hin htab hQ
  have S : CallFix p m c cL_shiftAt 5 s ([.ref (ad 0), .int (iI y), .int (iI x), .ref ob] : List Value).toArray wsL_shiftAt RL := S
  have hl : lv_has ls 5 [(0, .ref (ad 0)), (1, .int (iI y)), (2, .int (iI x)), (3, .ref ob)] := hl
  have hG : gW K A s.heap [gRLC K ad, gPthV K (ad 8) (ad 27) (ad 35) (ad 28) (ad 29) (ad 30) (ad 31) (ad 32) (ad 33) (ad 34) pv, gRayU K (ad 35) (ad 36) (ad 37) (ad 38) (ad 39) ps pr pX, gScn K (ad 3) (ad 14) (ad 15) (ad 16) (ad 17) ou mi bo ln LF sn SF, gArrL K 1 ob OB] s.heap [] := hG
  refine lv_aload_n S.1 S.2.1 dL_shiftAt_0 rfl (lv_at hl 3 rfl) ?_
  refine g_iconst S dL_shiftAt_1 ?_
  refine lv_aload_n S.1 S.2.1 dL_shiftAt_2 rfl (lv_at hl 0 rfl) ?_
  refine lv_iload_n S.1 S.2.1 dL_shiftAt_3 rfl (lv_at hl 1 rfl) ?_
  refine lv_iload_n S.1 S.2.1 dL_shiftAt_4 rfl (lv_at hl 2 rfl) ?_
  refine g_xV (E := "java/lang/IndexOutOfBoundsException") (As := [.int (iI y), .int (iI x)]) (rest := [.int (iI 0), .ref ob]) (gs' := (fun u : Unit => [gRLC K ad, gPthV K (ad 8) (ad 27) (ad 35) (ad 28) (ad 29) (ad 30) (ad 31) (ad 32) (ad 33) (ad 34) pv, gRayU K (ad 35) (ad 36) (ad 37) (ad 38) (ad 39) ps pr pX, gScn K (ad 3) (ad 14) (ad 15) (ad 16) (ad 17) ou mi bo ln LF sn SF, gArrL K 1 ob OB])) S C hG [0, 1, 2, 3] (x1_shiftAt l K ad ou mi bo ln LF sn SF N pv ps pr pX y x hS hN hv hx h0 hst) rfl rfl 0 rfl rfl (cwV 2 S.2.2.2.2 gL_shiftAt_X8_shiftAt rfl rfl rfl (by decide +kernel) ⟨Nat.le_of_ble_eq_true rfl, Nat.le_of_ble_eq_true rfl⟩) rfl hl.1 rfl (Nat.le_of_ble_eq_true rfl) dL_shiftAt_5 ⟨Nat.le_of_ble_eq_true rfl, Nat.le_of_ble_eq_true rfl⟩ (fun _ => Nat.le_of_ble_eq_true rfl) (fun _ => rfl) (fun u q9 ce9 H locs hp hG hq9 hv9 hcl9 => ?_)
  refine g_catch (E := "java/lang/IndexOutOfBoundsException") (st := 0) (en := 10) (hpc := 13) (ct := 29) (suf' := [(0, 10, 17, 19)]) S C [] htab (List.mem_of_getElem? (l := exC) (i := 0) rfl) (fun _ h => absurd h List.not_mem_nil) ⟨by decide, by decide⟩ (by decide) (List.mem_of_getElem? (i := 1) rfl) hq9 hv9 hcl9 ?_
  refine lv_astore (lv' := [(4, .ref q9), (0, .ref (ad 0)), (1, .int (iI y)), (2, .int (iI x)), (3, .ref ob)]) S.1 S.2.1 dL_shiftAt_13 hl (by decide) rfl (fun ls hl => ?_)
  refine g_iconst S dL_shiftAt_15 ?_
  have hG : gW K A s.heap [gRLC K ad, gPthV K (ad 8) (ad 27) (ad 35) (ad 28) (ad 29) (ad 30) (ad 31) (ad 32) (ad 33) (ad 34) pv, gRayU K (ad 35) (ad 36) (ad 37) (ad 38) (ad 39) ps pr pX, gScn K (ad 3) (ad 14) (ad 15) (ad 16) (ad 17) ou mi bo ln LF sn SF, gArrL K 1 ob OB] _ _ := hG
  exact g_iretH S hr hlk hQ dL_shiftAt_16 (Nat.le_of_ble_eq_true rfl) (Nat.le_of_ble_eq_true rfl) (() : Unit) rfl hG

set_option maxHeartbeats 1000000 in
set_option maxRecDepth 100000 in
theorem x2_L_shiftAt (l : Launch) (K : KC) (ad : Nat → Nat) (ou : Int) (mi : Int) (bo : Int) (ln : Int) (LF : Int → Int) (sn : Int) (SF : Int → Int) (N : Int → Int) (pv : PV) (ps : Nat) (pr : RU) (pX : Int → Int) (y : Int) (x : Int) (ob : Nat) (OB : Int → Int) (hS : ScOk N ou mi bo ln LF sn SF) (hN : NOk0 N) (hv : -2147483648 ≤ y ∧ y < 2147483648) (hx : -2147483648 ≤ x ∧ x < 2147483648) (hs : 0 ≤ y ∧ y < N 4) (h1 : ¬ 0 ≤ x) (hst : l.stackTraces = false) : mH l yL_shiftAt wsL_shiftAt 9 148 K [.ref (ad 0), .int (iI y), .int (iI x), .ref ob] [gRLC K ad, gPthV K (ad 8) (ad 27) (ad 35) (ad 28) (ad 29) (ad 30) (ad 31) (ad 32) (ad 33) (ad 34) pv, gRayU K (ad 35) (ad 36) (ad 37) (ad 38) (ad 39) ps pr pX, gScn K (ad 3) (ad 14) (ad 15) (ad 16) (ad 17) ou mi bo ln LF sn SF, gArrL K 1 ob OB] (fun (v : Value) (u : Unit) => (v = .int (iI 2))) (fun (u : Unit) => [gRLC K ad, gPthV K (ad 8) (ad 27) (ad 35) (ad 28) (ad 29) (ad 30) (ad 31) (ad 32) (ad 33) (ad 34) pv, gRayU K (ad 35) (ad 36) (ad 37) (ad 38) (ad 39) ps pr pX, gScn K (ad 3) (ad 14) (ad 15) (ad 16) (ad 17) ou mi bo ln LF sn SF, gArrL K 1 ob OB]) 1 6 := by
  refine mH_of cL_shiftAt 5 (by decide) rfl (Nat.le_of_ble_eq_true rfl) ?_
  intro p e s m below meth c A ls Q S C hG hl hr hlk hin htab hQ
  have S : CallFix p m c cL_shiftAt 5 s ([.ref (ad 0), .int (iI y), .int (iI x), .ref ob] : List Value).toArray wsL_shiftAt RL := S
  have hl : lv_has ls 5 [(0, .ref (ad 0)), (1, .int (iI y)), (2, .int (iI x)), (3, .ref ob)] := hl
  have hG : gW K A s.heap [gRLC K ad, gPthV K (ad 8) (ad 27) (ad 35) (ad 28) (ad 29) (ad 30) (ad 31) (ad 32) (ad 33) (ad 34) pv, gRayU K (ad 35) (ad 36) (ad 37) (ad 38) (ad 39) ps pr pX, gScn K (ad 3) (ad 14) (ad 15) (ad 16) (ad 17) ou mi bo ln LF sn SF, gArrL K 1 ob OB] s.heap [] := hG
  refine lv_aload_n S.1 S.2.1 dL_shiftAt_0 rfl (lv_at hl 3 rfl) ?_
  refine g_iconst S dL_shiftAt_1 ?_
  refine lv_aload_n S.1 S.2.1 dL_shiftAt_2 rfl (lv_at hl 0 rfl) ?_
  refine lv_iload_n S.1 S.2.1 dL_shiftAt_3 rfl (lv_at hl 1 rfl) ?_
  refine lv_iload_n S.1 S.2.1 dL_shiftAt_4 rfl (lv_at hl 2 rfl) ?_
  refine g_xV (E := "java/lang/IllegalArgumentException") (As := [.int (iI y), .int (iI x)]) (rest := [.int (iI 0), .ref ob]) (gs' := (fun u : Unit => [gRLC K ad, gPthV K (ad 8) (ad 27) (ad 35) (ad 28) (ad 29) (ad 30) (ad 31) (ad 32) (ad 33) (ad 34) pv, gRayU K (ad 35) (ad 36) (ad 37) (ad 38) (ad 39) ps pr pX, gScn K (ad 3) (ad 14) (ad 15) (ad 16) (ad 17) ou mi bo ln LF sn SF, gArrL K 1 ob OB])) S C hG [0, 1, 2, 3] (x2_shiftAt l K ad ou mi bo ln LF sn SF N pv ps pr pX y x hS hN hv hx hs h1 hst) rfl rfl 0 rfl rfl (cwV 2 S.2.2.2.2 gL_shiftAt_X8_shiftAt rfl rfl rfl (by decide +kernel) ⟨Nat.le_of_ble_eq_true rfl, Nat.le_of_ble_eq_true rfl⟩) rfl hl.1 rfl (Nat.le_of_ble_eq_true rfl) dL_shiftAt_5 ⟨Nat.le_of_ble_eq_true rfl, Nat.le_of_ble_eq_true rfl⟩ (fun _ => Nat.le_of_ble_eq_true rfl) (fun _ => rfl) (fun u q9 ce9 H locs hp hG hq9 hv9 hcl9 => ?_)
  refine g_catch (E := "java/lang/IllegalArgumentException") (st := 0) (en := 10) (hpc := 17) (ct := 19) (suf' := []) S C [(0, 10, 13, 29)] htab (List.mem_of_getElem? (l := exC) (i := 1) rfl) (List.forall_mem_cons.mpr ⟨⟨by decide, "java/lang/IndexOutOfBoundsException", (List.mem_of_getElem? (l := exC) (i := 0) rfl), by decide, (List.mem_of_getElem? (i := 1) rfl)⟩, fun _ h => absurd h List.not_mem_nil⟩) ⟨by decide, by decide⟩ (by decide) (List.mem_of_getElem? (i := 2) rfl) hq9 hv9 hcl9 ?_
  refine lv_astore (lv' := [(4, .ref q9), (0, .ref (ad 0)), (1, .int (iI y)), (2, .int (iI x)), (3, .ref ob)]) S.1 S.2.1 dL_shiftAt_17 hl (by decide) rfl (fun ls hl => ?_)
  refine g_iconst S dL_shiftAt_19 ?_
  have hG : gW K A s.heap [gRLC K ad, gPthV K (ad 8) (ad 27) (ad 35) (ad 28) (ad 29) (ad 30) (ad 31) (ad 32) (ad 33) (ad 34) pv, gRayU K (ad 35) (ad 36) (ad 37) (ad 38) (ad 39) ps pr pX, gScn K (ad 3) (ad 14) (ad 15) (ad 16) (ad 17) ou mi bo ln LF sn SF, gArrL K 1 ob OB] _ _ := hG
  exact g_iretH S hr hlk hQ dL_shiftAt_20 (Nat.le_of_ble_eq_true rfl) (Nat.le_of_ble_eq_true rfl) (() : Unit) rfl hG

set_option maxHeartbeats 1000000 in
set_option maxRecDepth 100000 in
theorem c_L_depthAt (l : Launch) (K : KC) (ad : Nat → Nat) (ou : Int) (mi : Int) (bo : Int) (ln : Int) (LF : Int → Int) (sn : Int) (SF : Int → Int) (N : Int → Int) (pv : PV) (ps : Nat) (pr : RU) (pX : Int → Int) (y : Int) (x : Int) (ob : Nat) (OB : Int → Int) (hS : ScOk N ou mi bo ln LF sn SF) (hN : NOk0 N) (hv : -2147483648 ≤ y ∧ y < 2147483648) (hs : 0 ≤ y ∧ y < N 4) (hx : 0 ≤ x ∧ x < 2147483648) : mH l yL_depthAt wsL_depthAt 6 145 K [.ref (ad 0), .int (iI y), .int (iI x), .ref ob] [gRLC K ad, gPthV K (ad 8) (ad 27) (ad 35) (ad 28) (ad 29) (ad 30) (ad 31) (ad 32) (ad 33) (ad 34) pv, gRayU K (ad 35) (ad 36) (ad 37) (ad 38) (ad 39) ps pr pX, gScn K (ad 3) (ad 14) (ad 15) (ad 16) (ad 17) ou mi bo ln LF sn SF, gArrL K 1 ob OB] (fun (v : Value) (u : PV × RU × (Int → Int)) => (v = .int (iI 0)) ∧ (PthR N (sP N y) (sY N y) (sD N y) u.1)) (fun (u : PV × RU × (Int → Int)) => [gRLC K ad, gPthV K (ad 8) (ad 27) (ad 35) (ad 28) (ad 29) (ad 30) (ad 31) (ad 32) (ad 33) (ad 34) u.1, gRayU K (ad 35) (ad 36) (ad 37) (ad 38) (ad 39) (ad 3) u.2.1 u.2.2, gScn K (ad 3) (ad 14) (ad 15) (ad 16) (ad 17) ou mi bo ln LF sn SF, gArrL K 1 ob (upI OB 0 (iI (dptN N y x)).toInt)]) 0 0 := by
  refine mH_of cL_depthAt 5 (by decide) rfl (Nat.le_of_ble_eq_true rfl) ?_
  intro p e s m below meth c A ls Q S C hG hl hr hlk hin htab hQ
  have S : CallFix p m c cL_depthAt 5 s ([.ref (ad 0), .int (iI y), .int (iI x), .ref ob] : List Value).toArray wsL_depthAt RL := S
  have hl : lv_has ls 5 [(0, .ref (ad 0)), (1, .int (iI y)), (2, .int (iI x)), (3, .ref ob)] := hl
  have hG : gW K A s.heap [gRLC K ad, gPthV K (ad 8) (ad 27) (ad 35) (ad 28) (ad 29) (ad 30) (ad 31) (ad 32) (ad 33) (ad 34) pv, gRayU K (ad 35) (ad 36) (ad 37) (ad 38) (ad 39) ps pr pX, gScn K (ad 3) (ad 14) (ad 15) (ad 16) (ad 17) ou mi bo ln LF sn SF, gArrL K 1 ob OB] s.heap [] := hG
  refine lv_aload_n S.1 S.2.1 dL_depthAt_0 rfl (lv_at hl 3 rfl) ?_
  refine g_iconst S dL_depthAt_1 ?_
  refine lv_aload_n S.1 S.2.1 dL_depthAt_2 rfl (lv_at hl 0 rfl) ?_
  refine lv_iload_n S.1 S.2.1 dL_depthAt_3 rfl (lv_at hl 1 rfl) ?_
  refine lv_iload_n S.1 S.2.1 dL_depthAt_4 rfl (lv_at hl 2 rfl) ?_
  refine g_invV (As := [.int (iI y), .int (iI x)]) (rest := [.int (iI 0), .ref ob]) (gs' := (fun u : PV × RU × (Int → Int) => [gRLC K ad, gPthV K (ad 8) (ad 27) (ad 35) (ad 28) (ad 29) (ad 30) (ad 31) (ad 32) (ad 33) (ad 34) u.1, gRayU K (ad 35) (ad 36) (ad 37) (ad 38) (ad 39) (ad 3) u.2.1 u.2.2, gScn K (ad 3) (ad 14) (ad 15) (ad 16) (ad 17) ou mi bo ln LF sn SF, gArrL K 1 ob OB])) S C hG [0, 1, 2, 3] (c_X8_depthAt l K ad ou mi bo ln LF sn SF N pv ps pr pX y x hS hN hv hs hx) rfl rfl 0 rfl rfl (cwV 2 S.2.2.2.2 gL_depthAt_X8_depthAt rfl rfl rfl (by decide +kernel) ⟨Nat.le_of_ble_eq_true rfl, Nat.le_of_ble_eq_true rfl⟩) rfl hl.1 rfl (Nat.le_of_ble_eq_true rfl) dL_depthAt_5 ⟨Nat.le_of_ble_eq_true rfl, Nat.le_of_ble_eq_true rfl⟩ (fun _ => Nat.le_of_ble_eq_true rfl) (fun _ => rfl) (fun v u H locs hp hG => ?_)
  obtain ⟨pv2_5, pr2_5, pX2_5⟩ := u
  obtain ⟨rfl, hp_5⟩ := hp
  have hp_5 : PthR N (sP N y) (sY N y) (sD N y) pv2_5 := hp_5
  have hG : gW K A s.heap [gRLC K ad, gPthV K (ad 8) (ad 27) (ad 35) (ad 28) (ad 29) (ad 30) (ad 31) (ad 32) (ad 33) (ad 34) pv2_5, gRayU K (ad 35) (ad 36) (ad 37) (ad 38) (ad 39) (ad 3) pr2_5 pX2_5, gScn K (ad 3) (ad 14) (ad 15) (ad 16) (ad 17) ou mi bo ln LF sn SF, gArrL K 1 ob OB] _ _ := hG
  refine g_i2lr S dL_depthAt_8 ?_
  refine g_last (n := 1) (gs' := [gRLC K ad, gPthV K (ad 8) (ad 27) (ad 35) (ad 28) (ad 29) (ad 30) (ad 31) (ad 32) (ad 33) (ad 34) pv2_5, gRayU K (ad 35) (ad 36) (ad 37) (ad 38) (ad 39) (ad 3) pr2_5 pX2_5, gScn K (ad 3) (ad 14) (ad 15) (ad 16) (ad 17) ou mi bo ln LF sn SF, gArrL K 1 ob (upI OB 0 ((iI (dptN N y x)).toInt))]) S C hG 20 rfl (by decide) (by decide) (by decide) rfl dL_depthAt_9 (fun H locs hG => ?_)
  refine lv_goto (tgt := 21) S.1 S.2.1 dL_depthAt_10 (by decide) ?_
  refine g_iconst S dL_depthAt_21 ?_
  have hG : gW K A s.heap [gRLC K ad, gPthV K (ad 8) (ad 27) (ad 35) (ad 28) (ad 29) (ad 30) (ad 31) (ad 32) (ad 33) (ad 34) pv2_5, gRayU K (ad 35) (ad 36) (ad 37) (ad 38) (ad 39) (ad 3) pr2_5 pX2_5, gScn K (ad 3) (ad 14) (ad 15) (ad 16) (ad 17) ou mi bo ln LF sn SF, gArrL K 1 ob (upI OB 0 (iI (dptN N y x)).toInt)] _ _ := hG
  exact g_iretH S hr hlk hQ dL_depthAt_22 (Nat.le_of_ble_eq_true rfl) (Nat.le_of_ble_eq_true rfl) ((pv2_5, pr2_5, pX2_5) : PV × RU × (Int → Int)) ⟨rfl, hp_5⟩ hG

set_option maxHeartbeats 1000000 in
set_option maxRecDepth 100000 in
theorem x1_L_depthAt (l : Launch) (K : KC) (ad : Nat → Nat) (ou : Int) (mi : Int) (bo : Int) (ln : Int) (LF : Int → Int) (sn : Int) (SF : Int → Int) (N : Int → Int) (pv : PV) (ps : Nat) (pr : RU) (pX : Int → Int) (y : Int) (x : Int) (ob : Nat) (OB : Int → Int) (hS : ScOk N ou mi bo ln LF sn SF) (hN : NOk0 N) (hv : -2147483648 ≤ y ∧ y < 2147483648) (hx : -2147483648 ≤ x ∧ x < 2147483648) (h0 : ¬ (0 ≤ y ∧ y < N 4)) (hst : l.stackTraces = false) : mH l yL_depthAt wsL_depthAt 9 151 K [.ref (ad 0), .int (iI y), .int (iI x), .ref ob] [gRLC K ad, gPthV K (ad 8) (ad 27) (ad 35) (ad 28) (ad 29) (ad 30) (ad 31) (ad 32) (ad 33) (ad 34) pv, gRayU K (ad 35) (ad 36) (ad 37) (ad 38) (ad 39) ps pr pX, gScn K (ad 3) (ad 14) (ad 15) (ad 16) (ad 17) ou mi bo ln LF sn SF, gArrL K 1 ob OB] (fun (v : Value) (u : Unit) => (v = .int (iI 1))) (fun (u : Unit) => [gRLC K ad, gPthV K (ad 8) (ad 27) (ad 35) (ad 28) (ad 29) (ad 30) (ad 31) (ad 32) (ad 33) (ad 34) pv, gRayU K (ad 35) (ad 36) (ad 37) (ad 38) (ad 39) ps pr pX, gScn K (ad 3) (ad 14) (ad 15) (ad 16) (ad 17) ou mi bo ln LF sn SF, gArrL K 1 ob OB]) 1 6 := by
  refine mH_of cL_depthAt 5 (by decide) rfl (Nat.le_of_ble_eq_true rfl) ?_
  intro p e s m below meth c A ls Q S C hG hl hr hlk hin htab hQ
  have S : CallFix p m c cL_depthAt 5 s ([.ref (ad 0), .int (iI y), .int (iI x), .ref ob] : List Value).toArray wsL_depthAt RL := S
  have hl : lv_has ls 5 [(0, .ref (ad 0)), (1, .int (iI y)), (2, .int (iI x)), (3, .ref ob)] := hl
  have hG : gW K A s.heap [gRLC K ad, gPthV K (ad 8) (ad 27) (ad 35) (ad 28) (ad 29) (ad 30) (ad 31) (ad 32) (ad 33) (ad 34) pv, gRayU K (ad 35) (ad 36) (ad 37) (ad 38) (ad 39) ps pr pX, gScn K (ad 3) (ad 14) (ad 15) (ad 16) (ad 17) ou mi bo ln LF sn SF, gArrL K 1 ob OB] s.heap [] := hG
  refine lv_aload_n S.1 S.2.1 dL_depthAt_0 rfl (lv_at hl 3 rfl) ?_
  refine g_iconst S dL_depthAt_1 ?_
  refine lv_aload_n S.1 S.2.1 dL_depthAt_2 rfl (lv_at hl 0 rfl) ?_
  refine lv_iload_n S.1 S.2.1 dL_depthAt_3 rfl (lv_at hl 1 rfl) ?_
  refine lv_iload_n S.1 S.2.1 dL_depthAt_4 rfl (lv_at hl 2 rfl) ?_
  refine g_xV (E := "java/lang/IndexOutOfBoundsException") (As := [.int (iI y), .int (iI x)]) (rest := [.int (iI 0), .ref ob]) (gs' := (fun u : Unit => [gRLC K ad, gPthV K (ad 8) (ad 27) (ad 35) (ad 28) (ad 29) (ad 30) (ad 31) (ad 32) (ad 33) (ad 34) pv, gRayU K (ad 35) (ad 36) (ad 37) (ad 38) (ad 39) ps pr pX, gScn K (ad 3) (ad 14) (ad 15) (ad 16) (ad 17) ou mi bo ln LF sn SF, gArrL K 1 ob OB])) S C hG [0, 1, 2, 3] (x1_depthAt l K ad ou mi bo ln LF sn SF N pv ps pr pX y x hS hN hv hx h0 hst) rfl rfl 0 rfl rfl (cwV 2 S.2.2.2.2 gL_depthAt_X8_depthAt rfl rfl rfl (by decide +kernel) ⟨Nat.le_of_ble_eq_true rfl, Nat.le_of_ble_eq_true rfl⟩) rfl hl.1 rfl (Nat.le_of_ble_eq_true rfl) dL_depthAt_5 ⟨Nat.le_of_ble_eq_true rfl, Nat.le_of_ble_eq_true rfl⟩ (fun _ => Nat.le_of_ble_eq_true rfl) (fun _ => rfl) (fun u q9 ce9 H locs hp hG hq9 hv9 hcl9 => ?_)
  refine g_catch (E := "java/lang/IndexOutOfBoundsException") (st := 0) (en := 10) (hpc := 13) (ct := 29) (suf' := [(0, 10, 17, 19)]) S C [] htab (List.mem_of_getElem? (l := exC) (i := 0) rfl) (fun _ h => absurd h List.not_mem_nil) ⟨by decide, by decide⟩ (by decide) (List.mem_of_getElem? (i := 1) rfl) hq9 hv9 hcl9 ?_
  refine lv_astore (lv' := [(4, .ref q9), (0, .ref (ad 0)), (1, .int (iI y)), (2, .int (iI x)), (3, .ref ob)]) S.1 S.2.1 dL_depthAt_13 hl (by decide) rfl (fun ls hl => ?_)
  refine g_iconst S dL_depthAt_15 ?_
  have hG : gW K A s.heap [gRLC K ad, gPthV K (ad 8) (ad 27) (ad 35) (ad 28) (ad 29) (ad 30) (ad 31) (ad 32) (ad 33) (ad 34) pv, gRayU K (ad 35) (ad 36) (ad 37) (ad 38) (ad 39) ps pr pX, gScn K (ad 3) (ad 14) (ad 15) (ad 16) (ad 17) ou mi bo ln LF sn SF, gArrL K 1 ob OB] _ _ := hG
  exact g_iretH S hr hlk hQ dL_depthAt_16 (Nat.le_of_ble_eq_true rfl) (Nat.le_of_ble_eq_true rfl) (() : Unit) rfl hG

set_option maxHeartbeats 1000000 in
set_option maxRecDepth 100000 in
theorem x2_L_depthAt (l : Launch) (K : KC) (ad : Nat → Nat) (ou : Int) (mi : Int) (bo : Int) (ln : Int) (LF : Int → Int) (sn : Int) (SF : Int → Int) (N : Int → Int) (pv : PV) (ps : Nat) (pr : RU) (pX : Int → Int) (y : Int) (x : Int) (ob : Nat) (OB : Int → Int) (hS : ScOk N ou mi bo ln LF sn SF) (hN : NOk0 N) (hv : -2147483648 ≤ y ∧ y < 2147483648) (hx : -2147483648 ≤ x ∧ x < 2147483648) (hs : 0 ≤ y ∧ y < N 4) (h1 : ¬ 0 ≤ x) (hst : l.stackTraces = false) : mH l yL_depthAt wsL_depthAt 9 150 K [.ref (ad 0), .int (iI y), .int (iI x), .ref ob] [gRLC K ad, gPthV K (ad 8) (ad 27) (ad 35) (ad 28) (ad 29) (ad 30) (ad 31) (ad 32) (ad 33) (ad 34) pv, gRayU K (ad 35) (ad 36) (ad 37) (ad 38) (ad 39) ps pr pX, gScn K (ad 3) (ad 14) (ad 15) (ad 16) (ad 17) ou mi bo ln LF sn SF, gArrL K 1 ob OB] (fun (v : Value) (u : Unit) => (v = .int (iI 2))) (fun (u : Unit) => [gRLC K ad, gPthV K (ad 8) (ad 27) (ad 35) (ad 28) (ad 29) (ad 30) (ad 31) (ad 32) (ad 33) (ad 34) pv, gRayU K (ad 35) (ad 36) (ad 37) (ad 38) (ad 39) ps pr pX, gScn K (ad 3) (ad 14) (ad 15) (ad 16) (ad 17) ou mi bo ln LF sn SF, gArrL K 1 ob OB]) 1 6 := by
  refine mH_of cL_depthAt 5 (by decide) rfl (Nat.le_of_ble_eq_true rfl) ?_
  intro p e s m below meth c A ls Q S C hG hl hr hlk hin htab hQ
  have S : CallFix p m c cL_depthAt 5 s ([.ref (ad 0), .int (iI y), .int (iI x), .ref ob] : List Value).toArray wsL_depthAt RL := S
  have hl : lv_has ls 5 [(0, .ref (ad 0)), (1, .int (iI y)), (2, .int (iI x)), (3, .ref ob)] := hl
  have hG : gW K A s.heap [gRLC K ad, gPthV K (ad 8) (ad 27) (ad 35) (ad 28) (ad 29) (ad 30) (ad 31) (ad 32) (ad 33) (ad 34) pv, gRayU K (ad 35) (ad 36) (ad 37) (ad 38) (ad 39) ps pr pX, gScn K (ad 3) (ad 14) (ad 15) (ad 16) (ad 17) ou mi bo ln LF sn SF, gArrL K 1 ob OB] s.heap [] := hG
  refine lv_aload_n S.1 S.2.1 dL_depthAt_0 rfl (lv_at hl 3 rfl) ?_
  refine g_iconst S dL_depthAt_1 ?_
  refine lv_aload_n S.1 S.2.1 dL_depthAt_2 rfl (lv_at hl 0 rfl) ?_
  refine lv_iload_n S.1 S.2.1 dL_depthAt_3 rfl (lv_at hl 1 rfl) ?_
  refine lv_iload_n S.1 S.2.1 dL_depthAt_4 rfl (lv_at hl 2 rfl) ?_
  refine g_xV (E := "java/lang/IllegalArgumentException") (As := [.int (iI y), .int (iI x)]) (rest := [.int (iI 0), .ref ob]) (gs' := (fun u : Unit => [gRLC K ad, gPthV K (ad 8) (ad 27) (ad 35) (ad 28) (ad 29) (ad 30) (ad 31) (ad 32) (ad 33) (ad 34) pv, gRayU K (ad 35) (ad 36) (ad 37) (ad 38) (ad 39) ps pr pX, gScn K (ad 3) (ad 14) (ad 15) (ad 16) (ad 17) ou mi bo ln LF sn SF, gArrL K 1 ob OB])) S C hG [0, 1, 2, 3] (x2_depthAt l K ad ou mi bo ln LF sn SF N pv ps pr pX y x hS hN hv hx hs h1 hst) rfl rfl 0 rfl rfl (cwV 2 S.2.2.2.2 gL_depthAt_X8_depthAt rfl rfl rfl (by decide +kernel) ⟨Nat.le_of_ble_eq_true rfl, Nat.le_of_ble_eq_true rfl⟩) rfl hl.1 rfl (Nat.le_of_ble_eq_true rfl) dL_depthAt_5 ⟨Nat.le_of_ble_eq_true rfl, Nat.le_of_ble_eq_true rfl⟩ (fun _ => Nat.le_of_ble_eq_true rfl) (fun _ => rfl) (fun u q9 ce9 H locs hp hG hq9 hv9 hcl9 => ?_)
  refine g_catch (E := "java/lang/IllegalArgumentException") (st := 0) (en := 10) (hpc := 17) (ct := 19) (suf' := []) S C [(0, 10, 13, 29)] htab (List.mem_of_getElem? (l := exC) (i := 1) rfl) (List.forall_mem_cons.mpr ⟨⟨by decide, "java/lang/IndexOutOfBoundsException", (List.mem_of_getElem? (l := exC) (i := 0) rfl), by decide, (List.mem_of_getElem? (i := 1) rfl)⟩, fun _ h => absurd h List.not_mem_nil⟩) ⟨by decide, by decide⟩ (by decide) (List.mem_of_getElem? (i := 2) rfl) hq9 hv9 hcl9 ?_
  refine lv_astore (lv' := [(4, .ref q9), (0, .ref (ad 0)), (1, .int (iI y)), (2, .int (iI x)), (3, .ref ob)]) S.1 S.2.1 dL_depthAt_17 hl (by decide) rfl (fun ls hl => ?_)
  refine g_iconst S dL_depthAt_19 ?_
  have hG : gW K A s.heap [gRLC K ad, gPthV K (ad 8) (ad 27) (ad 35) (ad 28) (ad 29) (ad 30) (ad 31) (ad 32) (ad 33) (ad 34) pv, gRayU K (ad 35) (ad 36) (ad 37) (ad 38) (ad 39) ps pr pX, gScn K (ad 3) (ad 14) (ad 15) (ad 16) (ad 17) ou mi bo ln LF sn SF, gArrL K 1 ob OB] _ _ := hG
  exact g_iretH S hr hlk hQ dL_depthAt_20 (Nat.le_of_ble_eq_true rfl) (Nat.le_of_ble_eq_true rfl) (() : Unit) rfl hG

set_option maxHeartbeats 1000000 in
set_option maxRecDepth 100000 in
theorem c_L_critical (l : Launch) (K : KC) (ad : Nat → Nat) (ou : Int) (mi : Int) (bo : Int) (ln : Int) (LF : Int → Int) (sn : Int) (SF : Int → Int) (N : Int → Int) (y : Int) (x : Int) (ob : Nat) (OB : Int → Int) (hS : ScOk N ou mi bo ln LF sn SF) (hN : NOk0 N) (hv : -2147483648 ≤ y ∧ y < 2147483648) (hx : x = 0 ∨ x = 1) (hy : 0 ≤ y ∧ y < N 0) : mH l yL_critical wsL_critical 3 68 K [.ref (ad 0), .int (iI y), .int (iI x), .ref ob] [gRLC K ad, gScn K (ad 3) (ad 14) (ad 15) (ad 16) (ad 17) ou mi bo ln LF sn SF, gArrL K 1 ob OB] (fun (v : Value) (u : Unit) => (v = .int (iI 0))) (fun (u : Unit) => [gRLC K ad, gScn K (ad 3) (ad 14) (ad 15) (ad 16) (ad 17) ou mi bo ln LF sn SF, gArrL K 1 ob (upI OB 0 (iI (critZ N y (ahd y x))).toInt)]) 0 0 := by
  refine mH_of cL_critical 5 (by decide) rfl (Nat.le_of_ble_eq_true rfl) ?_
  intro p e s m below meth c A ls Q S C hG hl hr hlk hin htab hQ
  have S : CallFix p m c cL_critical 5 s ([.ref (ad 0), .int (iI y), .int (iI x), .ref ob] : List Value).toArray wsL_critical RL := S
  have hl : lv_has ls 5 [(0, .ref (ad 0)), (1, .int (iI y)), (2, .int (iI x)), (3, .ref ob)] := hl
  have hG : gW K A s.heap [gRLC K ad, gScn K (ad 3) (ad 14) (ad 15) (ad 16) (ad 17) ou mi bo ln LF sn SF, gArrL K 1 ob OB] s.heap [] := hG
  refine lv_aload_n S.1 S.2.1 dL_critical_0 rfl (lv_at hl 3 rfl) ?_
  refine g_iconst S dL_critical_1 ?_
  refine lv_aload_n S.1 S.2.1 dL_critical_2 rfl (lv_at hl 0 rfl) ?_
  refine lv_iload_n S.1 S.2.1 dL_critical_3 rfl (lv_at hl 1 rfl) ?_
  refine lv_iload_n S.1 S.2.1 dL_critical_4 rfl (lv_at hl 2 rfl) ?_
  refine g_invV (As := [.int (iI y), .int (iI x)]) (rest := [.int (iI 0), .ref ob]) (gs' := (fun u : Unit => [gRLC K ad, gScn K (ad 3) (ad 14) (ad 15) (ad 16) (ad 17) ou mi bo ln LF sn SF, gArrL K 1 ob OB])) S C hG [0, 1] (c_X8_critical l K ad ou mi bo ln LF sn SF N y x hS hN hv hx hy) rfl rfl 0 rfl rfl (cwV 2 S.2.2.2.2 gL_critical_X8_critical rfl rfl rfl (by decide +kernel) ⟨Nat.le_of_ble_eq_true rfl, Nat.le_of_ble_eq_true rfl⟩) rfl hl.1 rfl (Nat.le_of_ble_eq_true rfl) dL_critical_5 ⟨Nat.le_of_ble_eq_true rfl, Nat.le_of_ble_eq_true rfl⟩ (fun _ => Nat.le_of_ble_eq_true rfl) (fun _ => rfl) (fun v u H locs hp hG => ?_)
  subst hp
  refine g_i2lr S dL_critical_8 ?_
  refine g_last (n := 1) (gs' := [gRLC K ad, gScn K (ad 3) (ad 14) (ad 15) (ad 16) (ad 17) ou mi bo ln LF sn SF, gArrL K 1 ob (upI OB 0 ((iI (critZ N y (ahd y x))).toInt))]) S C hG 6 rfl (by decide) (by decide) (by decide) rfl dL_critical_9 (fun H locs hG => ?_)
  refine lv_goto (tgt := 17) S.1 S.2.1 dL_critical_10 (by decide) ?_
  refine g_iconst S dL_critical_17 ?_
  have hG : gW K A s.heap [gRLC K ad, gScn K (ad 3) (ad 14) (ad 15) (ad 16) (ad 17) ou mi bo ln LF sn SF, gArrL K 1 ob (upI OB 0 (iI (critZ N y (ahd y x))).toInt)] _ _ := hG
  exact g_iretH S hr hlk hQ dL_critical_18 (Nat.le_of_ble_eq_true rfl) (Nat.le_of_ble_eq_true rfl) (() : Unit) rfl hG

set_option maxHeartbeats 1000000 in
set_option maxRecDepth 100000 in
theorem x1_L_critical (l : Launch) (K : KC) (ad : Nat → Nat) (ou : Int) (mi : Int) (bo : Int) (ln : Int) (LF : Int → Int) (sn : Int) (SF : Int → Int) (N : Int → Int) (y : Int) (x : Int) (ob : Nat) (OB : Int → Int) (hS : ScOk N ou mi bo ln LF sn SF) (hN : NOk0 N) (hv : -2147483648 ≤ y ∧ y < 2147483648) (hx : x = 0 ∨ x = 1) (h0 : ¬ (0 ≤ y ∧ y < N 0)) (hst : l.stackTraces = false) : mH l yL_critical wsL_critical 8 127 K [.ref (ad 0), .int (iI y), .int (iI x), .ref ob] [gRLC K ad, gScn K (ad 3) (ad 14) (ad 15) (ad 16) (ad 17) ou mi bo ln LF sn SF, gArrL K 1 ob OB] (fun (v : Value) (u : Unit) => (v = .int (iI 1))) (fun (u : Unit) => [gRLC K ad, gScn K (ad 3) (ad 14) (ad 15) (ad 16) (ad 17) ou mi bo ln LF sn SF, gArrL K 1 ob OB]) 1 6 := by
  refine mH_of cL_critical 5 (by decide) rfl (Nat.le_of_ble_eq_true rfl) ?_
  intro p e s m below meth c A ls Q S C hG hl hr hlk hin htab hQ
  have S : CallFix p m c cL_critical 5 s ([.ref (ad 0), .int (iI y), .int (iI x), .ref ob] : List Value).toArray wsL_critical RL := S
  have hl : lv_has ls 5 [(0, .ref (ad 0)), (1, .int (iI y)), (2, .int (iI x)), (3, .ref ob)] := hl
  have hG : gW K A s.heap [gRLC K ad, gScn K (ad 3) (ad 14) (ad 15) (ad 16) (ad 17) ou mi bo ln LF sn SF, gArrL K 1 ob OB] s.heap [] := hG
  refine lv_aload_n S.1 S.2.1 dL_critical_0 rfl (lv_at hl 3 rfl) ?_
  refine g_iconst S dL_critical_1 ?_
  refine lv_aload_n S.1 S.2.1 dL_critical_2 rfl (lv_at hl 0 rfl) ?_
  refine lv_iload_n S.1 S.2.1 dL_critical_3 rfl (lv_at hl 1 rfl) ?_
  refine lv_iload_n S.1 S.2.1 dL_critical_4 rfl (lv_at hl 2 rfl) ?_
  refine g_xV (E := "java/lang/IndexOutOfBoundsException") (As := [.int (iI y), .int (iI x)]) (rest := [.int (iI 0), .ref ob]) (gs' := (fun u : Unit => [gRLC K ad, gScn K (ad 3) (ad 14) (ad 15) (ad 16) (ad 17) ou mi bo ln LF sn SF, gArrL K 1 ob OB])) S C hG [0, 1] (x1_critical l K ad ou mi bo ln LF sn SF N y x hS hN hv hx h0 hst) rfl rfl 0 rfl rfl (cwV 2 S.2.2.2.2 gL_critical_X8_critical rfl rfl rfl (by decide +kernel) ⟨Nat.le_of_ble_eq_true rfl, Nat.le_of_ble_eq_true rfl⟩) rfl hl.1 rfl (Nat.le_of_ble_eq_true rfl) dL_critical_5 ⟨Nat.le_of_ble_eq_true rfl, Nat.le_of_ble_eq_true rfl⟩ (fun _ => Nat.le_of_ble_eq_true rfl) (fun _ => rfl) (fun u q9 ce9 H locs hp hG hq9 hv9 hcl9 => ?_)
  refine g_catch (E := "java/lang/IndexOutOfBoundsException") (st := 0) (en := 10) (hpc := 13) (ct := 29) (suf' := []) S C [] htab (List.mem_of_getElem? (l := exC) (i := 0) rfl) (fun _ h => absurd h List.not_mem_nil) ⟨by decide, by decide⟩ (by decide) (List.mem_of_getElem? (i := 1) rfl) hq9 hv9 hcl9 ?_
  refine lv_astore (lv' := [(4, .ref q9), (0, .ref (ad 0)), (1, .int (iI y)), (2, .int (iI x)), (3, .ref ob)]) S.1 S.2.1 dL_critical_13 hl (by decide) rfl (fun ls hl => ?_)
  refine g_iconst S dL_critical_15 ?_
  have hG : gW K A s.heap [gRLC K ad, gScn K (ad 3) (ad 14) (ad 15) (ad 16) (ad 17) ou mi bo ln LF sn SF, gArrL K 1 ob OB] _ _ := hG
  exact g_iretH S hr hlk hQ dL_critical_16 (Nat.le_of_ble_eq_true rfl) (Nat.le_of_ble_eq_true rfl) (() : Unit) rfl hG

set_option maxHeartbeats 1000000 in
set_option maxRecDepth 100000 in
theorem c_L_endOf (l : Launch) (K : KC) (ad : Nat → Nat) (ou : Int) (mi : Int) (bo : Int) (ln : Int) (LF : Int → Int) (sn : Int) (SF : Int → Int) (N : Int → Int) (rs : Nat) (rv : RU) (XF : Int → Int) (y : Int) (x : Int) (z : Int) (ob : Nat) (OB : Int → Int) (hS : ScOk N ou mi bo ln LF sn SF) (hN : NOk0 N) (hv : -2147483648 ≤ y ∧ y < 2147483648) (hx : x = 0 ∨ x = 1) (hz : -2147483648 ≤ z ∧ z < 2147483648) (hy : 0 ≤ y ∧ y < N 0) (h1 : 0 ≤ z ∧ z ≤ 3999) : mH l yL_endOf wsL_endOf 5 117 K [.ref (ad 0), .int (iI y), .int (iI x), .int (iI z), .ref ob] [gRLC K ad, gScn K (ad 3) (ad 14) (ad 15) (ad 16) (ad 17) ou mi bo ln LF sn SF, gRayU K (ad 7) (ad 23) (ad 24) (ad 25) (ad 26) rs rv XF, gArrL K 1 ob OB] (fun (v : Value) (u : RU × (Int → Int)) => (v = .int (iI 0))) (fun (u : RU × (Int → Int)) => [gRLC K ad, gScn K (ad 3) (ad 14) (ad 15) (ad 16) (ad 17) ou mi bo ln LF sn SF, gRayU K (ad 7) (ad 23) (ad 24) (ad 25) (ad 26) (ad 3) u.1 u.2, gArrL K 1 ob (upI OB 0 (iI (enF N z y x)).toInt)]) 0 0 := by
  refine mH_of cL_endOf 6 (by decide) rfl (Nat.le_of_ble_eq_true rfl) ?_
  intro p e s m below meth c A ls Q S C hG hl hr hlk hin htab hQ
  have S : CallFix p m c cL_endOf 6 s ([.ref (ad 0), .int (iI y), .int (iI x), .int (iI z), .ref ob] : List Value).toArray wsL_endOf RL := S
  have hl : lv_has ls 6 [(0, .ref (ad 0)), (1, .int (iI y)), (2, .int (iI x)), (3, .int (iI z)), (4, .ref ob)] := hl
  have hG : gW K A s.heap [gRLC K ad, gScn K (ad 3) (ad 14) (ad 15) (ad 16) (ad 17) ou mi bo ln LF sn SF, gRayU K (ad 7) (ad 23) (ad 24) (ad 25) (ad 26) rs rv XF, gArrL K 1 ob OB] s.heap [] := hG
  refine lv_aload S.1 S.2.1 dL_endOf_0 (lv_at hl 4 rfl) ?_
  refine g_iconst S dL_endOf_2 ?_
  refine lv_aload_n S.1 S.2.1 dL_endOf_3 rfl (lv_at hl 0 rfl) ?_
  refine lv_iload_n S.1 S.2.1 dL_endOf_4 rfl (lv_at hl 1 rfl) ?_
  refine lv_iload_n S.1 S.2.1 dL_endOf_5 rfl (lv_at hl 2 rfl) ?_
  refine lv_iload_n S.1 S.2.1 dL_endOf_6 rfl (lv_at hl 3 rfl) ?_
  refine g_invV (As := [.int (iI y), .int (iI x), .int (iI z)]) (rest := [.int (iI 0), .ref ob]) (gs' := (fun u : RU × (Int → Int) => [gRLC K ad, gScn K (ad 3) (ad 14) (ad 15) (ad 16) (ad 17) ou mi bo ln LF sn SF, gRayU K (ad 7) (ad 23) (ad 24) (ad 25) (ad 26) (ad 3) u.1 u.2, gArrL K 1 ob OB])) S C hG [0, 1, 2] (c_X8_endOf l K ad ou mi bo ln LF sn SF N rs rv XF y x z hS hN hv hx hz hy h1) rfl rfl 0 rfl rfl (cwV 3 S.2.2.2.2 gL_endOf_X8_endOf rfl rfl rfl (by decide +kernel) ⟨Nat.le_of_ble_eq_true rfl, Nat.le_of_ble_eq_true rfl⟩) rfl hl.1 rfl (Nat.le_of_ble_eq_true rfl) dL_endOf_7 ⟨Nat.le_of_ble_eq_true rfl, Nat.le_of_ble_eq_true rfl⟩ (fun _ => Nat.le_of_ble_eq_true rfl) (fun _ => rfl) (fun v u H locs hp hG => ?_)
  obtain ⟨rv2_7, X2_7⟩ := u
  subst hp
  have hG : gW K A s.heap [gRLC K ad, gScn K (ad 3) (ad 14) (ad 15) (ad 16) (ad 17) ou mi bo ln LF sn SF, gRayU K (ad 7) (ad 23) (ad 24) (ad 25) (ad 26) (ad 3) rv2_7 X2_7, gArrL K 1 ob OB] _ _ := hG
  refine g_i2lr S dL_endOf_10 ?_
  refine g_last (n := 1) (gs' := [gRLC K ad, gScn K (ad 3) (ad 14) (ad 15) (ad 16) (ad 17) ou mi bo ln LF sn SF, gRayU K (ad 7) (ad 23) (ad 24) (ad 25) (ad 26) (ad 3) rv2_7 X2_7, gArrL K 1 ob (upI OB 0 ((iI (enF N z y x)).toInt))]) S C hG 11 rfl (by decide) (by decide) (by decide) rfl dL_endOf_11 (fun H locs hG => ?_)
  refine lv_goto (tgt := 23) S.1 S.2.1 dL_endOf_12 (by decide) ?_
  refine g_iconst S dL_endOf_23 ?_
  have hG : gW K A s.heap [gRLC K ad, gScn K (ad 3) (ad 14) (ad 15) (ad 16) (ad 17) ou mi bo ln LF sn SF, gRayU K (ad 7) (ad 23) (ad 24) (ad 25) (ad 26) (ad 3) rv2_7 X2_7, gArrL K 1 ob (upI OB 0 (iI (enF N z y x)).toInt)] _ _ := hG
  exact g_iretH S hr hlk hQ dL_endOf_24 (Nat.le_of_ble_eq_true rfl) (Nat.le_of_ble_eq_true rfl) ((rv2_7, X2_7) : RU × (Int → Int)) rfl hG

set_option maxHeartbeats 1000000 in
set_option maxRecDepth 100000 in
theorem x1_L_endOf (l : Launch) (K : KC) (ad : Nat → Nat) (ou : Int) (mi : Int) (bo : Int) (ln : Int) (LF : Int → Int) (sn : Int) (SF : Int → Int) (N : Int → Int) (rs : Nat) (rv : RU) (XF : Int → Int) (y : Int) (x : Int) (z : Int) (ob : Nat) (OB : Int → Int) (hS : ScOk N ou mi bo ln LF sn SF) (hN : NOk0 N) (hv : -2147483648 ≤ y ∧ y < 2147483648) (hx : x = 0 ∨ x = 1) (hz : -2147483648 ≤ z ∧ z < 2147483648) (h0 : ¬ (0 ≤ y ∧ y < N 0)) (hst : l.stackTraces = false) : mH l yL_endOf wsL_endOf 8 126 K [.ref (ad 0), .int (iI y), .int (iI x), .int (iI z), .ref ob] [gRLC K ad, gScn K (ad 3) (ad 14) (ad 15) (ad 16) (ad 17) ou mi bo ln LF sn SF, gRayU K (ad 7) (ad 23) (ad 24) (ad 25) (ad 26) rs rv XF, gArrL K 1 ob OB] (fun (v : Value) (u : Unit) => (v = .int (iI 1))) (fun (u : Unit) => [gRLC K ad, gScn K (ad 3) (ad 14) (ad 15) (ad 16) (ad 17) ou mi bo ln LF sn SF, gRayU K (ad 7) (ad 23) (ad 24) (ad 25) (ad 26) rs rv XF, gArrL K 1 ob OB]) 1 6 := by
  refine mH_of cL_endOf 6 (by decide) rfl (Nat.le_of_ble_eq_true rfl) ?_
  intro p e s m below meth c A ls Q S C hG hl hr hlk hin htab hQ
  have S : CallFix p m c cL_endOf 6 s ([.ref (ad 0), .int (iI y), .int (iI x), .int (iI z), .ref ob] : List Value).toArray wsL_endOf RL := S
  have hl : lv_has ls 6 [(0, .ref (ad 0)), (1, .int (iI y)), (2, .int (iI x)), (3, .int (iI z)), (4, .ref ob)] := hl
  have hG : gW K A s.heap [gRLC K ad, gScn K (ad 3) (ad 14) (ad 15) (ad 16) (ad 17) ou mi bo ln LF sn SF, gRayU K (ad 7) (ad 23) (ad 24) (ad 25) (ad 26) rs rv XF, gArrL K 1 ob OB] s.heap [] := hG
  refine lv_aload S.1 S.2.1 dL_endOf_0 (lv_at hl 4 rfl) ?_
  refine g_iconst S dL_endOf_2 ?_
  refine lv_aload_n S.1 S.2.1 dL_endOf_3 rfl (lv_at hl 0 rfl) ?_
  refine lv_iload_n S.1 S.2.1 dL_endOf_4 rfl (lv_at hl 1 rfl) ?_
  refine lv_iload_n S.1 S.2.1 dL_endOf_5 rfl (lv_at hl 2 rfl) ?_
  refine lv_iload_n S.1 S.2.1 dL_endOf_6 rfl (lv_at hl 3 rfl) ?_
  refine g_xV (E := "java/lang/IndexOutOfBoundsException") (As := [.int (iI y), .int (iI x), .int (iI z)]) (rest := [.int (iI 0), .ref ob]) (gs' := (fun u : Unit => [gRLC K ad, gScn K (ad 3) (ad 14) (ad 15) (ad 16) (ad 17) ou mi bo ln LF sn SF, gRayU K (ad 7) (ad 23) (ad 24) (ad 25) (ad 26) rs rv XF, gArrL K 1 ob OB])) S C hG [0, 1, 2] (x1_endOf l K ad ou mi bo ln LF sn SF N rs rv XF y x z hS hN hv hx hz h0 hst) rfl rfl 0 rfl rfl (cwV 3 S.2.2.2.2 gL_endOf_X8_endOf rfl rfl rfl (by decide +kernel) ⟨Nat.le_of_ble_eq_true rfl, Nat.le_of_ble_eq_true rfl⟩) rfl hl.1 rfl (Nat.le_of_ble_eq_true rfl) dL_endOf_7 ⟨Nat.le_of_ble_eq_true rfl, Nat.le_of_ble_eq_true rfl⟩ (fun _ => Nat.le_of_ble_eq_true rfl) (fun _ => rfl) (fun u q9 ce9 H locs hp hG hq9 hv9 hcl9 => ?_)
  refine g_catch (E := "java/lang/IndexOutOfBoundsException") (st := 0) (en := 12) (hpc := 15) (ct := 29) (suf' := [(0, 12, 19, 19)]) S C [] htab (List.mem_of_getElem? (l := exC) (i := 0) rfl) (fun _ h => absurd h List.not_mem_nil) ⟨by decide, by decide⟩ (by decide) (List.mem_of_getElem? (i := 1) rfl) hq9 hv9 hcl9 ?_
  refine lv_astore (lv' := [(5, .ref q9), (0, .ref (ad 0)), (1, .int (iI y)), (2, .int (iI x)), (3, .int (iI z)), (4, .ref ob)]) S.1 S.2.1 dL_endOf_15 hl (by decide) rfl (fun ls hl => ?_)
  refine g_iconst S dL_endOf_17 ?_
  have hG : gW K A s.heap [gRLC K ad, gScn K (ad 3) (ad 14) (ad 15) (ad 16) (ad 17) ou mi bo ln LF sn SF, gRayU K (ad 7) (ad 23) (ad 24) (ad 25) (ad 26) rs rv XF, gArrL K 1 ob OB] _ _ := hG
  exact g_iretH S hr hlk hQ dL_endOf_18 (Nat.le_of_ble_eq_true rfl) (Nat.le_of_ble_eq_true rfl) (() : Unit) rfl hG

set_option maxHeartbeats 1000000 in
set_option maxRecDepth 100000 in
theorem x2_L_endOf (l : Launch) (K : KC) (ad : Nat → Nat) (ou : Int) (mi : Int) (bo : Int) (ln : Int) (LF : Int → Int) (sn : Int) (SF : Int → Int) (N : Int → Int) (rs : Nat) (rv : RU) (XF : Int → Int) (y : Int) (x : Int) (z : Int) (ob : Nat) (OB : Int → Int) (hS : ScOk N ou mi bo ln LF sn SF) (hN : NOk0 N) (hv : -2147483648 ≤ y ∧ y < 2147483648) (hx : x = 0 ∨ x = 1) (hz : -2147483648 ≤ z ∧ z < 2147483648) (hy : 0 ≤ y ∧ y < N 0) (h1 : ¬ (0 ≤ z ∧ z ≤ 3999)) (hst : l.stackTraces = false) : mH l yL_endOf wsL_endOf 8 127 K [.ref (ad 0), .int (iI y), .int (iI x), .int (iI z), .ref ob] [gRLC K ad, gScn K (ad 3) (ad 14) (ad 15) (ad 16) (ad 17) ou mi bo ln LF sn SF, gRayU K (ad 7) (ad 23) (ad 24) (ad 25) (ad 26) rs rv XF, gArrL K 1 ob OB] (fun (v : Value) (u : Unit) => (v = .int (iI 2))) (fun (u : Unit) => [gRLC K ad, gScn K (ad 3) (ad 14) (ad 15) (ad 16) (ad 17) ou mi bo ln LF sn SF, gRayU K (ad 7) (ad 23) (ad 24) (ad 25) (ad 26) rs rv XF, gArrL K 1 ob OB]) 1 6 := by
  refine mH_of cL_endOf 6 (by decide) rfl (Nat.le_of_ble_eq_true rfl) ?_
  intro p e s m below meth c A ls Q S C hG hl hr hlk hin htab hQ
  have S : CallFix p m c cL_endOf 6 s ([.ref (ad 0), .int (iI y), .int (iI x), .int (iI z), .ref ob] : List Value).toArray wsL_endOf RL := S
  have hl : lv_has ls 6 [(0, .ref (ad 0)), (1, .int (iI y)), (2, .int (iI x)), (3, .int (iI z)), (4, .ref ob)] := hl
  have hG : gW K A s.heap [gRLC K ad, gScn K (ad 3) (ad 14) (ad 15) (ad 16) (ad 17) ou mi bo ln LF sn SF, gRayU K (ad 7) (ad 23) (ad 24) (ad 25) (ad 26) rs rv XF, gArrL K 1 ob OB] s.heap [] := hG
  refine lv_aload S.1 S.2.1 dL_endOf_0 (lv_at hl 4 rfl) ?_
  refine g_iconst S dL_endOf_2 ?_
  refine lv_aload_n S.1 S.2.1 dL_endOf_3 rfl (lv_at hl 0 rfl) ?_
  refine lv_iload_n S.1 S.2.1 dL_endOf_4 rfl (lv_at hl 1 rfl) ?_
  refine lv_iload_n S.1 S.2.1 dL_endOf_5 rfl (lv_at hl 2 rfl) ?_
  refine lv_iload_n S.1 S.2.1 dL_endOf_6 rfl (lv_at hl 3 rfl) ?_
  refine g_xV (E := "java/lang/IllegalArgumentException") (As := [.int (iI y), .int (iI x), .int (iI z)]) (rest := [.int (iI 0), .ref ob]) (gs' := (fun u : Unit => [gRLC K ad, gScn K (ad 3) (ad 14) (ad 15) (ad 16) (ad 17) ou mi bo ln LF sn SF, gRayU K (ad 7) (ad 23) (ad 24) (ad 25) (ad 26) rs rv XF, gArrL K 1 ob OB])) S C hG [0, 1, 2] (x2_endOf l K ad ou mi bo ln LF sn SF N rs rv XF y x z hS hN hv hx hz hy h1 hst) rfl rfl 0 rfl rfl (cwV 3 S.2.2.2.2 gL_endOf_X8_endOf rfl rfl rfl (by decide +kernel) ⟨Nat.le_of_ble_eq_true rfl, Nat.le_of_ble_eq_true rfl⟩) rfl hl.1 rfl (Nat.le_of_ble_eq_true rfl) dL_endOf_7 ⟨Nat.le_of_ble_eq_true rfl, Nat.le_of_ble_eq_true rfl⟩ (fun _ => Nat.le_of_ble_eq_true rfl) (fun _ => rfl) (fun u q9 ce9 H locs hp hG hq9 hv9 hcl9 => ?_)
  refine g_catch (E := "java/lang/IllegalArgumentException") (st := 0) (en := 12) (hpc := 19) (ct := 19) (suf' := []) S C [(0, 12, 15, 29)] htab (List.mem_of_getElem? (l := exC) (i := 1) rfl) (List.forall_mem_cons.mpr ⟨⟨by decide, "java/lang/IndexOutOfBoundsException", (List.mem_of_getElem? (l := exC) (i := 0) rfl), by decide, (List.mem_of_getElem? (i := 1) rfl)⟩, fun _ h => absurd h List.not_mem_nil⟩) ⟨by decide, by decide⟩ (by decide) (List.mem_of_getElem? (i := 2) rfl) hq9 hv9 hcl9 ?_
  refine lv_astore (lv' := [(5, .ref q9), (0, .ref (ad 0)), (1, .int (iI y)), (2, .int (iI x)), (3, .int (iI z)), (4, .ref ob)]) S.1 S.2.1 dL_endOf_19 hl (by decide) rfl (fun ls hl => ?_)
  refine g_iconst S dL_endOf_21 ?_
  have hG : gW K A s.heap [gRLC K ad, gScn K (ad 3) (ad 14) (ad 15) (ad 16) (ad 17) ou mi bo ln LF sn SF, gRayU K (ad 7) (ad 23) (ad 24) (ad 25) (ad 26) rs rv XF, gArrL K 1 ob OB] _ _ := hG
  exact g_iretH S hr hlk hQ dL_endOf_22 (Nat.le_of_ble_eq_true rfl) (Nat.le_of_ble_eq_true rfl) (() : Unit) rfl hG

set_option maxHeartbeats 1000000 in
set_option maxRecDepth 100000 in
theorem c_L_shiftOf (l : Launch) (K : KC) (ad : Nat → Nat) (ou : Int) (mi : Int) (bo : Int) (ln : Int) (LF : Int → Int) (sn : Int) (SF : Int → Int) (N : Int → Int) (rs : Nat) (rv : RU) (XF : Int → Int) (y : Int) (x : Int) (z : Int) (ob : Nat) (OB : Int → Int) (hS : ScOk N ou mi bo ln LF sn SF) (hN : NOk0 N) (hv : -2147483648 ≤ y ∧ y < 2147483648) (hx : x = 0 ∨ x = 1) (hz : -2147483648 ≤ z ∧ z < 2147483648) (hy : 0 ≤ y ∧ y < N 0) (h1 : 0 ≤ z ∧ z ≤ 3999) : mH l yL_shiftOf wsL_shiftOf 5 117 K [.ref (ad 0), .int (iI y), .int (iI x), .int (iI z), .ref ob] [gRLC K ad, gScn K (ad 3) (ad 14) (ad 15) (ad 16) (ad 17) ou mi bo ln LF sn SF, gRayU K (ad 7) (ad 23) (ad 24) (ad 25) (ad 26) rs rv XF, gArrL K 1 ob OB] (fun (v : Value) (u : RU × (Int → Int)) => (v = .int (iI 0))) (fun (u : RU × (Int → Int)) => [gRLC K ad, gScn K (ad 3) (ad 14) (ad 15) (ad 16) (ad 17) ou mi bo ln LF sn SF, gRayU K (ad 7) (ad 23) (ad 24) (ad 25) (ad 26) (ad 3) u.1 u.2, gArrL K 1 ob (upI OB 0 (iI (shiA N y x z)).toInt)]) 0 0 := by
  refine mH_of cL_shiftOf 6 (by decide) rfl (Nat.le_of_ble_eq_true rfl) ?_
  intro p e s m below meth c A ls Q S C hG hl hr hlk hin htab hQ
  have S : CallFix p m c cL_shiftOf 6 s ([.ref (ad 0), .int (iI y), .int (iI x), .int (iI z), .ref ob] : List Value).toArray wsL_shiftOf RL := S
  have hl : lv_has ls 6 [(0, .ref (ad 0)), (1, .int (iI y)), (2, .int (iI x)), (3, .int (iI z)), (4, .ref ob)] := hl
  have hG : gW K A s.heap [gRLC K ad, gScn K (ad 3) (ad 14) (ad 15) (ad 16) (ad 17) ou mi bo ln LF sn SF, gRayU K (ad 7) (ad 23) (ad 24) (ad 25) (ad 26) rs rv XF, gArrL K 1 ob OB] s.heap [] := hG
  refine lv_aload S.1 S.2.1 dL_shiftOf_0 (lv_at hl 4 rfl) ?_
  refine g_iconst S dL_shiftOf_2 ?_
  refine lv_aload_n S.1 S.2.1 dL_shiftOf_3 rfl (lv_at hl 0 rfl) ?_
  refine lv_iload_n S.1 S.2.1 dL_shiftOf_4 rfl (lv_at hl 1 rfl) ?_
  refine lv_iload_n S.1 S.2.1 dL_shiftOf_5 rfl (lv_at hl 2 rfl) ?_
  refine lv_iload_n S.1 S.2.1 dL_shiftOf_6 rfl (lv_at hl 3 rfl) ?_
  refine g_invV (As := [.int (iI y), .int (iI x), .int (iI z)]) (rest := [.int (iI 0), .ref ob]) (gs' := (fun u : RU × (Int → Int) => [gRLC K ad, gScn K (ad 3) (ad 14) (ad 15) (ad 16) (ad 17) ou mi bo ln LF sn SF, gRayU K (ad 7) (ad 23) (ad 24) (ad 25) (ad 26) (ad 3) u.1 u.2, gArrL K 1 ob OB])) S C hG [0, 1, 2] (c_X8_shiftOf l K ad ou mi bo ln LF sn SF N rs rv XF y x z hS hN hv hx hz hy h1) rfl rfl 0 rfl rfl (cwV 3 S.2.2.2.2 gL_shiftOf_X8_shiftOf rfl rfl rfl (by decide +kernel) ⟨Nat.le_of_ble_eq_true rfl, Nat.le_of_ble_eq_true rfl⟩) rfl hl.1 rfl (Nat.le_of_ble_eq_true rfl) dL_shiftOf_7 ⟨Nat.le_of_ble_eq_true rfl, Nat.le_of_ble_eq_true rfl⟩ (fun _ => Nat.le_of_ble_eq_true rfl) (fun _ => rfl) (fun v u H locs hp hG => ?_)
  obtain ⟨rv2_7, X2_7⟩ := u
  subst hp
  have hG : gW K A s.heap [gRLC K ad, gScn K (ad 3) (ad 14) (ad 15) (ad 16) (ad 17) ou mi bo ln LF sn SF, gRayU K (ad 7) (ad 23) (ad 24) (ad 25) (ad 26) (ad 3) rv2_7 X2_7, gArrL K 1 ob OB] _ _ := hG
  refine g_i2lr S dL_shiftOf_10 ?_
  refine g_last (n := 1) (gs' := [gRLC K ad, gScn K (ad 3) (ad 14) (ad 15) (ad 16) (ad 17) ou mi bo ln LF sn SF, gRayU K (ad 7) (ad 23) (ad 24) (ad 25) (ad 26) (ad 3) rv2_7 X2_7, gArrL K 1 ob (upI OB 0 ((iI (shiA N y x z)).toInt))]) S C hG 11 rfl (by decide) (by decide) (by decide) rfl dL_shiftOf_11 (fun H locs hG => ?_)
  refine lv_goto (tgt := 23) S.1 S.2.1 dL_shiftOf_12 (by decide) ?_
  refine g_iconst S dL_shiftOf_23 ?_
  have hG : gW K A s.heap [gRLC K ad, gScn K (ad 3) (ad 14) (ad 15) (ad 16) (ad 17) ou mi bo ln LF sn SF, gRayU K (ad 7) (ad 23) (ad 24) (ad 25) (ad 26) (ad 3) rv2_7 X2_7, gArrL K 1 ob (upI OB 0 (iI (shiA N y x z)).toInt)] _ _ := hG
  exact g_iretH S hr hlk hQ dL_shiftOf_24 (Nat.le_of_ble_eq_true rfl) (Nat.le_of_ble_eq_true rfl) ((rv2_7, X2_7) : RU × (Int → Int)) rfl hG

set_option maxHeartbeats 1000000 in
set_option maxRecDepth 100000 in
theorem x1_L_shiftOf (l : Launch) (K : KC) (ad : Nat → Nat) (ou : Int) (mi : Int) (bo : Int) (ln : Int) (LF : Int → Int) (sn : Int) (SF : Int → Int) (N : Int → Int) (rs : Nat) (rv : RU) (XF : Int → Int) (y : Int) (x : Int) (z : Int) (ob : Nat) (OB : Int → Int) (hS : ScOk N ou mi bo ln LF sn SF) (hN : NOk0 N) (hv : -2147483648 ≤ y ∧ y < 2147483648) (hx : x = 0 ∨ x = 1) (hz : -2147483648 ≤ z ∧ z < 2147483648) (h0 : ¬ (0 ≤ y ∧ y < N 0)) (hst : l.stackTraces = false) : mH l yL_shiftOf wsL_shiftOf 8 126 K [.ref (ad 0), .int (iI y), .int (iI x), .int (iI z), .ref ob] [gRLC K ad, gScn K (ad 3) (ad 14) (ad 15) (ad 16) (ad 17) ou mi bo ln LF sn SF, gRayU K (ad 7) (ad 23) (ad 24) (ad 25) (ad 26) rs rv XF, gArrL K 1 ob OB] (fun (v : Value) (u : Unit) => (v = .int (iI 1))) (fun (u : Unit) => [gRLC K ad, gScn K (ad 3) (ad 14) (ad 15) (ad 16) (ad 17) ou mi bo ln LF sn SF, gRayU K (ad 7) (ad 23) (ad 24) (ad 25) (ad 26) rs rv XF, gArrL K 1 ob OB]) 1 6 := by
  refine mH_of cL_shiftOf 6 (by decide) rfl (Nat.le_of_ble_eq_true rfl) ?_
  intro p e s m below meth c A ls Q S C hG hl hr hlk hin htab hQ
  have S : CallFix p m c cL_shiftOf 6 s ([.ref (ad 0), .int (iI y), .int (iI x), .int (iI z), .ref ob] : List Value).toArray wsL_shiftOf RL := S
  have hl : lv_has ls 6 [(0, .ref (ad 0)), (1, .int (iI y)), (2, .int (iI x)), (3, .int (iI z)), (4, .ref ob)] := hl
  have hG : gW K A s.heap [gRLC K ad, gScn K (ad 3) (ad 14) (ad 15) (ad 16) (ad 17) ou mi bo ln LF sn SF, gRayU K (ad 7) (ad 23) (ad 24) (ad 25) (ad 26) rs rv XF, gArrL K 1 ob OB] s.heap [] := hG
  refine lv_aload S.1 S.2.1 dL_shiftOf_0 (lv_at hl 4 rfl) ?_
  refine g_iconst S dL_shiftOf_2 ?_
  refine lv_aload_n S.1 S.2.1 dL_shiftOf_3 rfl (lv_at hl 0 rfl) ?_
  refine lv_iload_n S.1 S.2.1 dL_shiftOf_4 rfl (lv_at hl 1 rfl) ?_
  refine lv_iload_n S.1 S.2.1 dL_shiftOf_5 rfl (lv_at hl 2 rfl) ?_
  refine lv_iload_n S.1 S.2.1 dL_shiftOf_6 rfl (lv_at hl 3 rfl) ?_
  refine g_xV (E := "java/lang/IndexOutOfBoundsException") (As := [.int (iI y), .int (iI x), .int (iI z)]) (rest := [.int (iI 0), .ref ob]) (gs' := (fun u : Unit => [gRLC K ad, gScn K (ad 3) (ad 14) (ad 15) (ad 16) (ad 17) ou mi bo ln LF sn SF, gRayU K (ad 7) (ad 23) (ad 24) (ad 25) (ad 26) rs rv XF, gArrL K 1 ob OB])) S C hG [0, 1, 2] (x1_shiftOf l K ad ou mi bo ln LF sn SF N rs rv XF y x z hS hN hv hx hz h0 hst) rfl rfl 0 rfl rfl (cwV 3 S.2.2.2.2 gL_shiftOf_X8_shiftOf rfl rfl rfl (by decide +kernel) ⟨Nat.le_of_ble_eq_true rfl, Nat.le_of_ble_eq_true rfl⟩) rfl hl.1 rfl (Nat.le_of_ble_eq_true rfl) dL_shiftOf_7 ⟨Nat.le_of_ble_eq_true rfl, Nat.le_of_ble_eq_true rfl⟩ (fun _ => Nat.le_of_ble_eq_true rfl) (fun _ => rfl) (fun u q9 ce9 H locs hp hG hq9 hv9 hcl9 => ?_)
  refine g_catch (E := "java/lang/IndexOutOfBoundsException") (st := 0) (en := 12) (hpc := 15) (ct := 29) (suf' := [(0, 12, 19, 19)]) S C [] htab (List.mem_of_getElem? (l := exC) (i := 0) rfl) (fun _ h => absurd h List.not_mem_nil) ⟨by decide, by decide⟩ (by decide) (List.mem_of_getElem? (i := 1) rfl) hq9 hv9 hcl9 ?_
  refine lv_astore (lv' := [(5, .ref q9), (0, .ref (ad 0)), (1, .int (iI y)), (2, .int (iI x)), (3, .int (iI z)), (4, .ref ob)]) S.1 S.2.1 dL_shiftOf_15 hl (by decide) rfl (fun ls hl => ?_)
  refine g_iconst S dL_shiftOf_17 ?_
  have hG : gW K A s.heap [gRLC K ad, gScn K (ad 3) (ad 14) (ad 15) (ad 16) (ad 17) ou mi bo ln LF sn SF, gRayU K (ad 7) (ad 23) (ad 24) (ad 25) (ad 26) rs rv XF, gArrL K 1 ob OB] _ _ := hG
  exact g_iretH S hr hlk hQ dL_shiftOf_18 (Nat.le_of_ble_eq_true rfl) (Nat.le_of_ble_eq_true rfl) (() : Unit) rfl hG

set_option maxHeartbeats 1000000 in
set_option maxRecDepth 100000 in
theorem x2_L_shiftOf (l : Launch) (K : KC) (ad : Nat → Nat) (ou : Int) (mi : Int) (bo : Int) (ln : Int) (LF : Int → Int) (sn : Int) (SF : Int → Int) (N : Int → Int) (rs : Nat) (rv : RU) (XF : Int → Int) (y : Int) (x : Int) (z : Int) (ob : Nat) (OB : Int → Int) (hS : ScOk N ou mi bo ln LF sn SF) (hN : NOk0 N) (hv : -2147483648 ≤ y ∧ y < 2147483648) (hx : x = 0 ∨ x = 1) (hz : -2147483648 ≤ z ∧ z < 2147483648) (hy : 0 ≤ y ∧ y < N 0) (h1 : ¬ (0 ≤ z ∧ z ≤ 3999)) (hst : l.stackTraces = false) : mH l yL_shiftOf wsL_shiftOf 8 127 K [.ref (ad 0), .int (iI y), .int (iI x), .int (iI z), .ref ob] [gRLC K ad, gScn K (ad 3) (ad 14) (ad 15) (ad 16) (ad 17) ou mi bo ln LF sn SF, gRayU K (ad 7) (ad 23) (ad 24) (ad 25) (ad 26) rs rv XF, gArrL K 1 ob OB] (fun (v : Value) (u : Unit) => (v = .int (iI 2))) (fun (u : Unit) => [gRLC K ad, gScn K (ad 3) (ad 14) (ad 15) (ad 16) (ad 17) ou mi bo ln LF sn SF, gRayU K (ad 7) (ad 23) (ad 24) (ad 25) (ad 26) rs rv XF, gArrL K 1 ob OB]) 1 6 := by
  refine mH_of cL_shiftOf 6 (by decide) rfl (Nat.le_of_ble_eq_true rfl) ?_
  intro p e s m below meth c A ls Q S C hG hl hr hlk hin htab hQ
  have S : CallFix p m c cL_shiftOf 6 s ([.ref (ad 0), .int (iI y), .int (iI x), .int (iI z), .ref ob] : List Value).toArray wsL_shiftOf RL := S
  have hl : lv_has ls 6 [(0, .ref (ad 0)), (1, .int (iI y)), (2, .int (iI x)), (3, .int (iI z)), (4, .ref ob)] := hl
  have hG : gW K A s.heap [gRLC K ad, gScn K (ad 3) (ad 14) (ad 15) (ad 16) (ad 17) ou mi bo ln LF sn SF, gRayU K (ad 7) (ad 23) (ad 24) (ad 25) (ad 26) rs rv XF, gArrL K 1 ob OB] s.heap [] := hG
  refine lv_aload S.1 S.2.1 dL_shiftOf_0 (lv_at hl 4 rfl) ?_
  refine g_iconst S dL_shiftOf_2 ?_
  refine lv_aload_n S.1 S.2.1 dL_shiftOf_3 rfl (lv_at hl 0 rfl) ?_
  refine lv_iload_n S.1 S.2.1 dL_shiftOf_4 rfl (lv_at hl 1 rfl) ?_
  refine lv_iload_n S.1 S.2.1 dL_shiftOf_5 rfl (lv_at hl 2 rfl) ?_
  refine lv_iload_n S.1 S.2.1 dL_shiftOf_6 rfl (lv_at hl 3 rfl) ?_
  refine g_xV (E := "java/lang/IllegalArgumentException") (As := [.int (iI y), .int (iI x), .int (iI z)]) (rest := [.int (iI 0), .ref ob]) (gs' := (fun u : Unit => [gRLC K ad, gScn K (ad 3) (ad 14) (ad 15) (ad 16) (ad 17) ou mi bo ln LF sn SF, gRayU K (ad 7) (ad 23) (ad 24) (ad 25) (ad 26) rs rv XF, gArrL K 1 ob OB])) S C hG [0, 1, 2] (x2_shiftOf l K ad ou mi bo ln LF sn SF N rs rv XF y x z hS hN hv hx hz hy h1 hst) rfl rfl 0 rfl rfl (cwV 3 S.2.2.2.2 gL_shiftOf_X8_shiftOf rfl rfl rfl (by decide +kernel) ⟨Nat.le_of_ble_eq_true rfl, Nat.le_of_ble_eq_true rfl⟩) rfl hl.1 rfl (Nat.le_of_ble_eq_true rfl) dL_shiftOf_7 ⟨Nat.le_of_ble_eq_true rfl, Nat.le_of_ble_eq_true rfl⟩ (fun _ => Nat.le_of_ble_eq_true rfl) (fun _ => rfl) (fun u q9 ce9 H locs hp hG hq9 hv9 hcl9 => ?_)
  refine g_catch (E := "java/lang/IllegalArgumentException") (st := 0) (en := 12) (hpc := 19) (ct := 19) (suf' := []) S C [(0, 12, 15, 29)] htab (List.mem_of_getElem? (l := exC) (i := 1) rfl) (List.forall_mem_cons.mpr ⟨⟨by decide, "java/lang/IndexOutOfBoundsException", (List.mem_of_getElem? (l := exC) (i := 0) rfl), by decide, (List.mem_of_getElem? (i := 1) rfl)⟩, fun _ h => absurd h List.not_mem_nil⟩) ⟨by decide, by decide⟩ (by decide) (List.mem_of_getElem? (i := 2) rfl) hq9 hv9 hcl9 ?_
  refine lv_astore (lv' := [(5, .ref q9), (0, .ref (ad 0)), (1, .int (iI y)), (2, .int (iI x)), (3, .int (iI z)), (4, .ref ob)]) S.1 S.2.1 dL_shiftOf_19 hl (by decide) rfl (fun ls hl => ?_)
  refine g_iconst S dL_shiftOf_21 ?_
  have hG : gW K A s.heap [gRLC K ad, gScn K (ad 3) (ad 14) (ad 15) (ad 16) (ad 17) ou mi bo ln LF sn SF, gRayU K (ad 7) (ad 23) (ad 24) (ad 25) (ad 26) rs rv XF, gArrL K 1 ob OB] _ _ := hG
  exact g_iretH S hr hlk hQ dL_shiftOf_22 (Nat.le_of_ble_eq_true rfl) (Nat.le_of_ble_eq_true rfl) (() : Unit) rfl hG

set_option maxHeartbeats 1000000 in
set_option maxRecDepth 100000 in
theorem c_L_slants (l : Launch) (K : KC) (ad : Nat → Nat) (ou : Int) (mi : Int) (bo : Int) (ln : Int) (LF : Int → Int) (sn : Int) (SF : Int → Int) (N : Int → Int) (vl : Int) (vd : Int) (vn : Int) (vf : Int) (vt : Int) (ve : Int) (vg : Int) (vb : Int) (vw : Int) (rz : RU) (zX : Int → Int) (y : Int) (x : Int) (z : Int) (ob : Nat) (OB : Int → Int) (hS : ScOk N ou mi bo ln LF sn SF) (hN : NOk0 N) (hv : -2147483648 ≤ y ∧ y < 2147483648) (hx : x = 0 ∨ x = 1) (hz : -2147483648 ≤ z ∧ z < 2147483648) (hvw : -3000000000 ≤ vw ∧ vw ≤ 3000000000) (hy : 0 ≤ y ∧ y < N 0) (h1 : 0 ≤ z ∧ z ≤ 3) : mH l yL_slants wsL_slants 7 165 K [.ref (ad 0), .int (iI y), .int (iI x), .int (iI z), .ref ob] [gRLC K ad, gSvyC K (ad 10) (ad 3) (ad 53) vl vd vn vf vt ve vg vb vw, gRayU K (ad 53) (ad 54) (ad 55) (ad 56) (ad 57) (ad 3) rz zX, gScn K (ad 3) (ad 14) (ad 15) (ad 16) (ad 17) ou mi bo ln LF sn SF, gArrL K 1 ob OB] (fun (v : Value) (u : Int × Int × Int × Int × Int × Int × Int × Int × Int × RU × (Int → Int)) => (v = .int (iI 0)) ∧ (-3000000000 ≤ u.2.2.2.2.2.2.2.2.1 ∧ u.2.2.2.2.2.2.2.2.1 ≤ 3000000000)) (fun (u : Int × Int × Int × Int × Int × Int × Int × Int × Int × RU × (Int → Int)) => [gRLC K ad, gSvyC K (ad 10) (ad 3) (ad 53) u.1 u.2.1 u.2.2.1 u.2.2.2.1 u.2.2.2.2.1 u.2.2.2.2.2.1 u.2.2.2.2.2.2.1 u.2.2.2.2.2.2.2.1 u.2.2.2.2.2.2.2.2.1, gRayU K (ad 53) (ad 54) (ad 55) (ad 56) (ad 57) (ad 3) u.2.2.2.2.2.2.2.2.2.1 u.2.2.2.2.2.2.2.2.2.2, gScn K (ad 3) (ad 14) (ad 15) (ad 16) (ad 17) ou mi bo ln LF sn SF, gArrL K 1 ob (upI OB 0 (iI (cntS N y x z (nX N y).toNat)).toInt)]) 0 0 := by
  refine mH_of cL_slants 6 (by decide) rfl (Nat.le_of_ble_eq_true rfl) ?_
  intro p e s m below meth c A ls Q S C hG hl hr hlk hin htab hQ
  have S : CallFix p m c cL_slants 6 s ([.ref (ad 0), .int (iI y), .int (iI x), .int (iI z), .ref ob] : List Value).toArray wsL_slants RL := S
  have hl : lv_has ls 6 [(0, .ref (ad 0)), (1, .int (iI y)), (2, .int (iI x)), (3, .int (iI z)), (4, .ref ob)] := hl
  have hG : gW K A s.heap [gRLC K ad, gSvyC K (ad 10) (ad 3) (ad 53) vl vd vn vf vt ve vg vb vw, gRayU K (ad 53) (ad 54) (ad 55) (ad 56) (ad 57) (ad 3) rz zX, gScn K (ad 3) (ad 14) (ad 15) (ad 16) (ad 17) ou mi bo ln LF sn SF, gArrL K 1 ob OB] s.heap [] := hG
  refine lv_aload S.1 S.2.1 dL_slants_0 (lv_at hl 4 rfl) ?_
  refine g_iconst S dL_slants_2 ?_
  refine lv_aload_n S.1 S.2.1 dL_slants_3 rfl (lv_at hl 0 rfl) ?_
  refine lv_iload_n S.1 S.2.1 dL_slants_4 rfl (lv_at hl 1 rfl) ?_
  refine lv_iload_n S.1 S.2.1 dL_slants_5 rfl (lv_at hl 2 rfl) ?_
  refine lv_iload_n S.1 S.2.1 dL_slants_6 rfl (lv_at hl 3 rfl) ?_
  refine g_invV (As := [.int (iI y), .int (iI x), .int (iI z)]) (rest := [.int (iI 0), .ref ob]) (gs' := (fun u : Int × Int × Int × Int × Int × Int × Int × Int × Int × RU × (Int → Int) => [gRLC K ad, gSvyC K (ad 10) (ad 3) (ad 53) u.1 u.2.1 u.2.2.1 u.2.2.2.1 u.2.2.2.2.1 u.2.2.2.2.2.1 u.2.2.2.2.2.2.1 u.2.2.2.2.2.2.2.1 u.2.2.2.2.2.2.2.2.1, gRayU K (ad 53) (ad 54) (ad 55) (ad 56) (ad 57) (ad 3) u.2.2.2.2.2.2.2.2.2.1 u.2.2.2.2.2.2.2.2.2.2, gScn K (ad 3) (ad 14) (ad 15) (ad 16) (ad 17) ou mi bo ln LF sn SF, gArrL K 1 ob OB])) S C hG [0, 1, 2, 3] (c_X8_slants l K ad ou mi bo ln LF sn SF N vl vd vn vf vt ve vg vb vw rz zX y x z hS hN hv hx hz hvw hy h1) rfl rfl 0 rfl rfl (cwV 3 S.2.2.2.2 gL_slants_X8_slants rfl rfl rfl (by decide +kernel) ⟨Nat.le_of_ble_eq_true rfl, Nat.le_of_ble_eq_true rfl⟩) rfl hl.1 rfl (Nat.le_of_ble_eq_true rfl) dL_slants_7 ⟨Nat.le_of_ble_eq_true rfl, Nat.le_of_ble_eq_true rfl⟩ (fun _ => Nat.le_of_ble_eq_true rfl) (fun _ => rfl) (fun v u H locs hp hG => ?_)
  obtain ⟨vl2_7, vd2_7, vn2_7, vf2_7, vt2_7, ve2_7, vg2_7, vb2_7, vw2_7, rz2_7, zX2_7⟩ := u
  obtain ⟨rfl, hw2_7⟩ := hp
  have hw2_7 : -3000000000 ≤ vw2_7 ∧ vw2_7 ≤ 3000000000 := hw2_7
  have hG : gW K A s.heap [gRLC K ad, gSvyC K (ad 10) (ad 3) (ad 53) vl2_7 vd2_7 vn2_7 vf2_7 vt2_7 ve2_7 vg2_7 vb2_7 vw2_7, gRayU K (ad 53) (ad 54) (ad 55) (ad 56) (ad 57) (ad 3) rz2_7 zX2_7, gScn K (ad 3) (ad 14) (ad 15) (ad 16) (ad 17) ou mi bo ln LF sn SF, gArrL K 1 ob OB] _ _ := hG
  refine g_i2lr S dL_slants_10 ?_
  refine g_last (n := 1) (gs' := [gRLC K ad, gSvyC K (ad 10) (ad 3) (ad 53) vl2_7 vd2_7 vn2_7 vf2_7 vt2_7 ve2_7 vg2_7 vb2_7 vw2_7, gRayU K (ad 53) (ad 54) (ad 55) (ad 56) (ad 57) (ad 3) rz2_7 zX2_7, gScn K (ad 3) (ad 14) (ad 15) (ad 16) (ad 17) ou mi bo ln LF sn SF, gArrL K 1 ob (upI OB 0 ((iI (cntS N y x z (nX N y).toNat)).toInt))]) S C hG 12 rfl (by decide) (by decide) (by decide) rfl dL_slants_11 (fun H locs hG => ?_)
  refine lv_goto (tgt := 23) S.1 S.2.1 dL_slants_12 (by decide) ?_
  refine g_iconst S dL_slants_23 ?_
  have hG : gW K A s.heap [gRLC K ad, gSvyC K (ad 10) (ad 3) (ad 53) vl2_7 vd2_7 vn2_7 vf2_7 vt2_7 ve2_7 vg2_7 vb2_7 vw2_7, gRayU K (ad 53) (ad 54) (ad 55) (ad 56) (ad 57) (ad 3) rz2_7 zX2_7, gScn K (ad 3) (ad 14) (ad 15) (ad 16) (ad 17) ou mi bo ln LF sn SF, gArrL K 1 ob (upI OB 0 (iI (cntS N y x z (nX N y).toNat)).toInt)] _ _ := hG
  exact g_iretH S hr hlk hQ dL_slants_24 (Nat.le_of_ble_eq_true rfl) (Nat.le_of_ble_eq_true rfl) ((vl2_7, vd2_7, vn2_7, vf2_7, vt2_7, ve2_7, vg2_7, vb2_7, vw2_7, rz2_7, zX2_7) : Int × Int × Int × Int × Int × Int × Int × Int × Int × RU × (Int → Int)) ⟨rfl, hw2_7⟩ hG

set_option maxHeartbeats 1000000 in
set_option maxRecDepth 100000 in
theorem x1_L_slants (l : Launch) (K : KC) (ad : Nat → Nat) (ou : Int) (mi : Int) (bo : Int) (ln : Int) (LF : Int → Int) (sn : Int) (SF : Int → Int) (N : Int → Int) (vl : Int) (vd : Int) (vn : Int) (vf : Int) (vt : Int) (ve : Int) (vg : Int) (vb : Int) (vw : Int) (rz : RU) (zX : Int → Int) (y : Int) (x : Int) (z : Int) (ob : Nat) (OB : Int → Int) (hS : ScOk N ou mi bo ln LF sn SF) (hN : NOk0 N) (hv : -2147483648 ≤ y ∧ y < 2147483648) (hx : x = 0 ∨ x = 1) (hz : -2147483648 ≤ z ∧ z < 2147483648) (hvw : -3000000000 ≤ vw ∧ vw ≤ 3000000000) (h0 : ¬ (0 ≤ y ∧ y < N 0)) (hst : l.stackTraces = false) : mH l yL_slants wsL_slants 9 148 K [.ref (ad 0), .int (iI y), .int (iI x), .int (iI z), .ref ob] [gRLC K ad, gSvyC K (ad 10) (ad 3) (ad 53) vl vd vn vf vt ve vg vb vw, gRayU K (ad 53) (ad 54) (ad 55) (ad 56) (ad 57) (ad 3) rz zX, gScn K (ad 3) (ad 14) (ad 15) (ad 16) (ad 17) ou mi bo ln LF sn SF, gArrL K 1 ob OB] (fun (v : Value) (u : Unit) => (v = .int (iI 1))) (fun (u : Unit) => [gRLC K ad, gSvyC K (ad 10) (ad 3) (ad 53) vl vd vn vf vt ve vg vb vw, gRayU K (ad 53) (ad 54) (ad 55) (ad 56) (ad 57) (ad 3) rz zX, gScn K (ad 3) (ad 14) (ad 15) (ad 16) (ad 17) ou mi bo ln LF sn SF, gArrL K 1 ob OB]) 1 6 := by
  refine mH_of cL_slants 6 (by decide) rfl (Nat.le_of_ble_eq_true rfl) ?_
  intro p e s m below meth c A ls Q S C hG hl hr hlk hin htab hQ
  have S : CallFix p m c cL_slants 6 s ([.ref (ad 0), .int (iI y), .int (iI x), .int (iI z), .ref ob] : List Value).toArray wsL_slants RL := S
  have hl : lv_has ls 6 [(0, .ref (ad 0)), (1, .int (iI y)), (2, .int (iI x)), (3, .int (iI z)), (4, .ref ob)] := hl
  have hG : gW K A s.heap [gRLC K ad, gSvyC K (ad 10) (ad 3) (ad 53) vl vd vn vf vt ve vg vb vw, gRayU K (ad 53) (ad 54) (ad 55) (ad 56) (ad 57) (ad 3) rz zX, gScn K (ad 3) (ad 14) (ad 15) (ad 16) (ad 17) ou mi bo ln LF sn SF, gArrL K 1 ob OB] s.heap [] := hG
  refine lv_aload S.1 S.2.1 dL_slants_0 (lv_at hl 4 rfl) ?_
  refine g_iconst S dL_slants_2 ?_
  refine lv_aload_n S.1 S.2.1 dL_slants_3 rfl (lv_at hl 0 rfl) ?_
  refine lv_iload_n S.1 S.2.1 dL_slants_4 rfl (lv_at hl 1 rfl) ?_
  refine lv_iload_n S.1 S.2.1 dL_slants_5 rfl (lv_at hl 2 rfl) ?_
  refine lv_iload_n S.1 S.2.1 dL_slants_6 rfl (lv_at hl 3 rfl) ?_
  refine g_xV (E := "java/lang/IndexOutOfBoundsException") (As := [.int (iI y), .int (iI x), .int (iI z)]) (rest := [.int (iI 0), .ref ob]) (gs' := (fun u : Unit => [gRLC K ad, gSvyC K (ad 10) (ad 3) (ad 53) vl vd vn vf vt ve vg vb vw, gRayU K (ad 53) (ad 54) (ad 55) (ad 56) (ad 57) (ad 3) rz zX, gScn K (ad 3) (ad 14) (ad 15) (ad 16) (ad 17) ou mi bo ln LF sn SF, gArrL K 1 ob OB])) S C hG [0, 1, 2, 3] (x1_slants l K ad ou mi bo ln LF sn SF N vl vd vn vf vt ve vg vb vw rz zX y x z hS hN hv hx hz hvw h0 hst) rfl rfl 0 rfl rfl (cwV 3 S.2.2.2.2 gL_slants_X8_slants rfl rfl rfl (by decide +kernel) ⟨Nat.le_of_ble_eq_true rfl, Nat.le_of_ble_eq_true rfl⟩) rfl hl.1 rfl (Nat.le_of_ble_eq_true rfl) dL_slants_7 ⟨Nat.le_of_ble_eq_true rfl, Nat.le_of_ble_eq_true rfl⟩ (fun _ => Nat.le_of_ble_eq_true rfl) (fun _ => rfl) (fun u q9 ce9 H locs hp hG hq9 hv9 hcl9 => ?_)
  refine g_catch (E := "java/lang/IndexOutOfBoundsException") (st := 0) (en := 12) (hpc := 15) (ct := 29) (suf' := [(0, 12, 19, 19)]) S C [] htab (List.mem_of_getElem? (l := exC) (i := 0) rfl) (fun _ h => absurd h List.not_mem_nil) ⟨by decide, by decide⟩ (by decide) (List.mem_of_getElem? (i := 1) rfl) hq9 hv9 hcl9 ?_
  refine lv_astore (lv' := [(5, .ref q9), (0, .ref (ad 0)), (1, .int (iI y)), (2, .int (iI x)), (3, .int (iI z)), (4, .ref ob)]) S.1 S.2.1 dL_slants_15 hl (by decide) rfl (fun ls hl => ?_)
  refine g_iconst S dL_slants_17 ?_
  have hG : gW K A s.heap [gRLC K ad, gSvyC K (ad 10) (ad 3) (ad 53) vl vd vn vf vt ve vg vb vw, gRayU K (ad 53) (ad 54) (ad 55) (ad 56) (ad 57) (ad 3) rz zX, gScn K (ad 3) (ad 14) (ad 15) (ad 16) (ad 17) ou mi bo ln LF sn SF, gArrL K 1 ob OB] _ _ := hG
  exact g_iretH S hr hlk hQ dL_slants_18 (Nat.le_of_ble_eq_true rfl) (Nat.le_of_ble_eq_true rfl) (() : Unit) rfl hG

set_option maxHeartbeats 1000000 in
set_option maxRecDepth 100000 in
theorem x2_L_slants (l : Launch) (K : KC) (ad : Nat → Nat) (ou : Int) (mi : Int) (bo : Int) (ln : Int) (LF : Int → Int) (sn : Int) (SF : Int → Int) (N : Int → Int) (vl : Int) (vd : Int) (vn : Int) (vf : Int) (vt : Int) (ve : Int) (vg : Int) (vb : Int) (vw : Int) (rz : RU) (zX : Int → Int) (y : Int) (x : Int) (z : Int) (ob : Nat) (OB : Int → Int) (hS : ScOk N ou mi bo ln LF sn SF) (hN : NOk0 N) (hv : -2147483648 ≤ y ∧ y < 2147483648) (hx : x = 0 ∨ x = 1) (hz : -2147483648 ≤ z ∧ z < 2147483648) (hvw : -3000000000 ≤ vw ∧ vw ≤ 3000000000) (hy : 0 ≤ y ∧ y < N 0) (h1 : ¬ (0 ≤ z ∧ z ≤ 3)) (hst : l.stackTraces = false) : mH l yL_slants wsL_slants 9 149 K [.ref (ad 0), .int (iI y), .int (iI x), .int (iI z), .ref ob] [gRLC K ad, gSvyC K (ad 10) (ad 3) (ad 53) vl vd vn vf vt ve vg vb vw, gRayU K (ad 53) (ad 54) (ad 55) (ad 56) (ad 57) (ad 3) rz zX, gScn K (ad 3) (ad 14) (ad 15) (ad 16) (ad 17) ou mi bo ln LF sn SF, gArrL K 1 ob OB] (fun (v : Value) (u : Unit) => (v = .int (iI 2))) (fun (u : Unit) => [gRLC K ad, gSvyC K (ad 10) (ad 3) (ad 53) vl vd vn vf vt ve vg vb vw, gRayU K (ad 53) (ad 54) (ad 55) (ad 56) (ad 57) (ad 3) rz zX, gScn K (ad 3) (ad 14) (ad 15) (ad 16) (ad 17) ou mi bo ln LF sn SF, gArrL K 1 ob OB]) 1 6 := by
  refine mH_of cL_slants 6 (by decide) rfl (Nat.le_of_ble_eq_true rfl) ?_
  intro p e s m below meth c A ls Q S C hG hl hr hlk hin htab hQ
  have S : CallFix p m c cL_slants 6 s ([.ref (ad 0), .int (iI y), .int (iI x), .int (iI z), .ref ob] : List Value).toArray wsL_slants RL := S
  have hl : lv_has ls 6 [(0, .ref (ad 0)), (1, .int (iI y)), (2, .int (iI x)), (3, .int (iI z)), (4, .ref ob)] := hl
  have hG : gW K A s.heap [gRLC K ad, gSvyC K (ad 10) (ad 3) (ad 53) vl vd vn vf vt ve vg vb vw, gRayU K (ad 53) (ad 54) (ad 55) (ad 56) (ad 57) (ad 3) rz zX, gScn K (ad 3) (ad 14) (ad 15) (ad 16) (ad 17) ou mi bo ln LF sn SF, gArrL K 1 ob OB] s.heap [] := hG
  refine lv_aload S.1 S.2.1 dL_slants_0 (lv_at hl 4 rfl) ?_
  refine g_iconst S dL_slants_2 ?_
  refine lv_aload_n S.1 S.2.1 dL_slants_3 rfl (lv_at hl 0 rfl) ?_
  refine lv_iload_n S.1 S.2.1 dL_slants_4 rfl (lv_at hl 1 rfl) ?_
  refine lv_iload_n S.1 S.2.1 dL_slants_5 rfl (lv_at hl 2 rfl) ?_
  refine lv_iload_n S.1 S.2.1 dL_slants_6 rfl (lv_at hl 3 rfl) ?_
  refine g_xV (E := "java/lang/IllegalArgumentException") (As := [.int (iI y), .int (iI x), .int (iI z)]) (rest := [.int (iI 0), .ref ob]) (gs' := (fun u : Unit => [gRLC K ad, gSvyC K (ad 10) (ad 3) (ad 53) vl vd vn vf vt ve vg vb vw, gRayU K (ad 53) (ad 54) (ad 55) (ad 56) (ad 57) (ad 3) rz zX, gScn K (ad 3) (ad 14) (ad 15) (ad 16) (ad 17) ou mi bo ln LF sn SF, gArrL K 1 ob OB])) S C hG [0, 1, 2, 3] (x2_slants l K ad ou mi bo ln LF sn SF N vl vd vn vf vt ve vg vb vw rz zX y x z hS hN hv hx hz hvw hy h1 hst) rfl rfl 0 rfl rfl (cwV 3 S.2.2.2.2 gL_slants_X8_slants rfl rfl rfl (by decide +kernel) ⟨Nat.le_of_ble_eq_true rfl, Nat.le_of_ble_eq_true rfl⟩) rfl hl.1 rfl (Nat.le_of_ble_eq_true rfl) dL_slants_7 ⟨Nat.le_of_ble_eq_true rfl, Nat.le_of_ble_eq_true rfl⟩ (fun _ => Nat.le_of_ble_eq_true rfl) (fun _ => rfl) (fun u q9 ce9 H locs hp hG hq9 hv9 hcl9 => ?_)
  refine g_catch (E := "java/lang/IllegalArgumentException") (st := 0) (en := 12) (hpc := 19) (ct := 19) (suf' := []) S C [(0, 12, 15, 29)] htab (List.mem_of_getElem? (l := exC) (i := 1) rfl) (List.forall_mem_cons.mpr ⟨⟨by decide, "java/lang/IndexOutOfBoundsException", (List.mem_of_getElem? (l := exC) (i := 0) rfl), by decide, (List.mem_of_getElem? (i := 1) rfl)⟩, fun _ h => absurd h List.not_mem_nil⟩) ⟨by decide, by decide⟩ (by decide) (List.mem_of_getElem? (i := 2) rfl) hq9 hv9 hcl9 ?_
  refine lv_astore (lv' := [(5, .ref q9), (0, .ref (ad 0)), (1, .int (iI y)), (2, .int (iI x)), (3, .int (iI z)), (4, .ref ob)]) S.1 S.2.1 dL_slants_19 hl (by decide) rfl (fun ls hl => ?_)
  refine g_iconst S dL_slants_21 ?_
  have hG : gW K A s.heap [gRLC K ad, gSvyC K (ad 10) (ad 3) (ad 53) vl vd vn vf vt ve vg vb vw, gRayU K (ad 53) (ad 54) (ad 55) (ad 56) (ad 57) (ad 3) rz zX, gScn K (ad 3) (ad 14) (ad 15) (ad 16) (ad 17) ou mi bo ln LF sn SF, gArrL K 1 ob OB] _ _ := hG
  exact g_iretH S hr hlk hQ dL_slants_22 (Nat.le_of_ble_eq_true rfl) (Nat.le_of_ble_eq_true rfl) (() : Unit) rfl hG
