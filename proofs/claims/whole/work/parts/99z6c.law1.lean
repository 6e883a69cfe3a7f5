set_option maxHeartbeats 1000000 in
set_option maxRecDepth 100000 in
theorem c_L_setLayer (l : Launch) (K : KC) (ad : Nat → Nat) (ou : Int) (mi : Int) (bo : Int) (ln : Int) (LF : Int → Int) (sn : Int) (SF : Int → Int) (N : Int → Int) (nx : Int) (sz : Int) (o : Nat → Option SR) (y : Int) (w : Int) (x : Int) (ob : Nat) (OB : Int → Int) (hS : ScOk N ou mi bo ln LF sn SF) (hN : NOk0 N) (hnx : 0 ≤ nx ∧ nx < 6) (hsz : 0 ≤ sz ∧ sz ≤ 6) (hv : -2147483648 ≤ y ∧ y < 2147483648) (hw : -2147483648 ≤ w ∧ w < 2147483648) (hx : -2147483648 ≤ x ∧ x < 2147483648) (hy : 0 ≤ y ∧ y < N 0) (hi : isVal w x) : mH l yL_setLayer wsL_setLayer 5 148 K [.ref (ad 0), .int (iI y), .int (iI w), .int (iI x), .ref ob] [gRLC K ad, gScn K (ad 3) (ad 14) (ad 15) (ad 16) (ad 17) ou mi bo ln LF sn SF, gHisC K (ad 5) (ad 22) nx sz, gQS K (ad 22) 6 (oP o), gArrL K 1 ob OB, gSOs K o (List.range 6)] (fun (v : Value) (u : SR × (Int → Int)) => (v = .int (iI 0)) ∧ (ScR N u.1) ∧ (ScOk (upI N (5 + 3 * y + w) x) ou mi bo ln u.2 sn SF)) (fun (u : SR × (Int → Int)) => [gRLC K ad, gScn K (ad 3) (ad 14) (ad 15) (ad 16) (ad 17) ou mi bo ln u.2 sn SF, gHisC K (ad 5) (ad 22) ((nx + 1) % 6) (min (sz + 1) 6), gQS K (ad 22) 6 (oP (oup o nx.toNat u.1)), gArrL K 1 ob (upI OB 0 (iI (N (5 + 3 * y + w))).toInt), gSOs K (oup o nx.toNat u.1) (List.range 6)]) 5 129 := by
  refine mH_of cL_setLayer 6 (by decide) rfl (Nat.le_of_ble_eq_true rfl) ?_
  intro p e s m below meth c A ls Q S C hG hl hr hlk hin htab hQ
  have S : CallFix p m c cL_setLayer 6 s ([.ref (ad 0), .int (iI y), .int (iI w), .int (iI x), .ref ob] : List Value).toArray wsL_setLayer RL := S
  have hl : lv_has ls 6 [(0, .ref (ad 0)), (1, .int (iI y)), (2, .int (iI w)), (3, .int (iI x)), (4, .ref ob)] := hl
  have hG : gW K A s.heap [gRLC K ad, gScn K (ad 3) (ad 14) (ad 15) (ad 16) (ad 17) ou mi bo ln LF sn SF, gHisC K (ad 5) (ad 22) nx sz, gQS K (ad 22) 6 (oP o), gArrL K 1 ob OB, gSOs K o (List.range 6)] s.heap [] := hG
  refine lv_aload S.1 S.2.1 dL_setLayer_0 (lv_at hl 4 rfl) ?_
  refine g_iconst S dL_setLayer_2 ?_
  refine lv_aload_n S.1 S.2.1 dL_setLayer_3 rfl (lv_at hl 0 rfl) ?_
  refine lv_iload_n S.1 S.2.1 dL_setLayer_4 rfl (lv_at hl 1 rfl) ?_
  refine lv_iload_n S.1 S.2.1 dL_setLayer_5 rfl (lv_at hl 2 rfl) ?_
  refine lv_iload_n S.1 S.2.1 dL_setLayer_6 rfl (lv_at hl 3 rfl) ?_
  refine g_invV (As := [.int (iI y), .int (iI w), .int (iI x)]) (rest := [.int (iI 0), .ref ob]) (gs' := (fun u : SR × (Int → Int) => [gRLC K ad, gScn K (ad 3) (ad 14) (ad 15) (ad 16) (ad 17) ou mi bo ln u.2 sn SF, gHisC K (ad 5) (ad 22) ((nx + 1) % 6) (min (sz + 1) 6), gQS K (ad 22) 6 (oP (oup o nx.toNat u.1)), gArrL K 1 ob OB, gSOs K (oup o nx.toNat u.1) (List.range 6)])) S C hG [0, 1, 2, 3, 5] (c_X8_setLayer l K ad ou mi bo ln LF sn SF N nx sz o y w x hS hN hnx hsz hv hw hx hy hi) rfl rfl 0 rfl rfl (cwV 3 S.2.2.2.2 gL_setLayer_X8_setLayer rfl rfl rfl (by decide +kernel) ⟨Nat.le_of_ble_eq_true rfl, Nat.le_of_ble_eq_true rfl⟩) rfl hl.1 rfl (Nat.le_of_ble_eq_true rfl) dL_setLayer_7 ⟨Nat.le_of_ble_eq_true rfl, Nat.le_of_ble_eq_true rfl⟩ (fun _ => Nat.le_of_ble_eq_true rfl) (fun _ => rfl) (fun v u H locs hp hG => ?_)
  obtain ⟨u9_7, LF2_7⟩ := u
  obtain ⟨rfl, hu_7, hS2_7⟩ := hp
  have hu_7 : ScR N u9_7 := hu_7
  have hS2_7 : ScOk (upI N (5 + 3 * y + w) x) ou mi bo ln LF2_7 sn SF := hS2_7
  have hG : gW K A s.heap [gRLC K ad, gScn K (ad 3) (ad 14) (ad 15) (ad 16) (ad 17) ou mi bo ln LF2_7 sn SF, gHisC K (ad 5) (ad 22) ((nx + 1) % 6) (min (sz + 1) 6), gQS K (ad 22) 6 (oP (oup o nx.toNat u9_7)), gArrL K 1 ob OB, gSOs K (oup o nx.toNat u9_7) (List.range 6)] _ _ := hG
  refine g_i2lr S dL_setLayer_10 ?_
  refine g_last (n := 1) (gs' := [gRLC K ad, gScn K (ad 3) (ad 14) (ad 15) (ad 16) (ad 17) ou mi bo ln LF2_7 sn SF, gHisC K (ad 5) (ad 22) ((nx + 1) % 6) (min (sz + 1) 6), gQS K (ad 22) 6 (oP (oup o nx.toNat u9_7)), gArrL K 1 ob (upI OB 0 ((iI (N (5 + 3 * y + w))).toInt)), gSOs K (oup o nx.toNat u9_7) (List.range 6)]) S C hG 8 rfl (by decide) (by decide) (by decide) rfl dL_setLayer_11 (fun H locs hG => ?_)
  refine lv_goto (tgt := 23) S.1 S.2.1 dL_setLayer_12 (by decide) ?_
  refine g_iconst S dL_setLayer_23 ?_
  have hG : gW K A s.heap [gRLC K ad, gScn K (ad 3) (ad 14) (ad 15) (ad 16) (ad 17) ou mi bo ln LF2_7 sn SF, gHisC K (ad 5) (ad 22) ((nx + 1) % 6) (min (sz + 1) 6), gQS K (ad 22) 6 (oP (oup o nx.toNat u9_7)), gArrL K 1 ob (upI OB 0 (iI (N (5 + 3 * y + w))).toInt), gSOs K (oup o nx.toNat u9_7) (List.range 6)] _ _ := hG
  exact g_iretH S hr hlk hQ dL_setLayer_24 (Nat.le_of_ble_eq_true rfl) (Nat.le_of_ble_eq_true rfl) ((u9_7, LF2_7) : SR × (Int → Int)) ⟨rfl, hu_7, hS2_7⟩ hG

set_option maxHeartbeats 1000000 in
set_option maxRecDepth 100000 in
theorem x1_L_setLayer (l : Launch) (K : KC) (ad : Nat → Nat) (ou : Int) (mi : Int) (bo : Int) (ln : Int) (LF : Int → Int) (sn : Int) (SF : Int → Int) (N : Int → Int) (y : Int) (w : Int) (x : Int) (ob : Nat) (OB : Int → Int) (hS : ScOk N ou mi bo ln LF sn SF) (hN : NOk0 N) (hv : -2147483648 ≤ y ∧ y < 2147483648) (hw : -2147483648 ≤ w ∧ w < 2147483648) (hx : -2147483648 ≤ x ∧ x < 2147483648) (hy : ¬ (0 ≤ y ∧ y < N 0)) (hst : l.stackTraces = false) : mH l yL_setLayer wsL_setLayer 8 127 K [.ref (ad 0), .int (iI y), .int (iI w), .int (iI x), .ref ob] [gRLC K ad, gScn K (ad 3) (ad 14) (ad 15) (ad 16) (ad 17) ou mi bo ln LF sn SF, gArrL K 1 ob OB] (fun (v : Value) (u : Unit) => (v = .int (iI 1))) (fun (u : Unit) => [gRLC K ad, gScn K (ad 3) (ad 14) (ad 15) (ad 16) (ad 17) ou mi bo ln LF sn SF, gArrL K 1 ob OB]) 1 6 := by
  refine mH_of cL_setLayer 6 (by decide) rfl (Nat.le_of_ble_eq_true rfl) ?_
  intro p e s m below meth c A ls Q S C hG hl hr hlk hin htab hQ
  have S : CallFix p m c cL_setLayer 6 s ([.ref (ad 0), .int (iI y), .int (iI w), .int (iI x), .ref ob] : List Value).toArray wsL_setLayer RL := S
  have hl : lv_has ls 6 [(0, .ref (ad 0)), (1, .int (iI y)), (2, .int (iI w)), (3, .int (iI x)), (4, .ref ob)] := hl
  have hG : gW K A s.heap [gRLC K ad, gScn K (ad 3) (ad 14) (ad 15) (ad 16) (ad 17) ou mi bo ln LF sn SF, gArrL K 1 ob OB] s.heap [] := hG
  refine lv_aload S.1 S.2.1 dL_setLayer_0 (lv_at hl 4 rfl) ?_
  refine g_iconst S dL_setLayer_2 ?_
  refine lv_aload_n S.1 S.2.1 dL_setLayer_3 rfl (lv_at hl 0 rfl) ?_
  refine lv_iload_n S.1 S.2.1 dL_setLayer_4 rfl (lv_at hl 1 rfl) ?_
  refine lv_iload_n S.1 S.2.1 dL_setLayer_5 rfl (lv_at hl 2 rfl) ?_
  refine lv_iload_n S.1 S.2.1 dL_setLayer_6 rfl (lv_at hl 3 rfl) ?_
  refine g_xV (E := "java/lang/IndexOutOfBoundsException") (As := [.int (iI y), .int (iI w), .int (iI x)]) (rest := [.int (iI 0), .ref ob]) (gs' := (fun u : Unit => [gRLC K ad, gScn K (ad 3) (ad 14) (ad 15) (ad 16) (ad 17) ou mi bo ln LF sn SF, gArrL K 1 ob OB])) S C hG [0, 1] (x1_setLayer l K ad ou mi bo ln LF sn SF N y w x hS hN hv hw hx hy hst) rfl rfl 0 rfl rfl (cwV 3 S.2.2.2.2 gL_setLayer_X8_setLayer rfl rfl rfl (by decide +kernel) ⟨Nat.le_of_ble_eq_true rfl, Nat.le_of_ble_eq_true rfl⟩) rfl hl.1 rfl (Nat.le_of_ble_eq_true rfl) dL_setLayer_7 ⟨Nat.le_of_ble_eq_true rfl, Nat.le_of_ble_eq_true rfl⟩ (fun _ => Nat.le_of_ble_eq_true rfl) (fun _ => rfl) (fun u q9 ce9 H locs hp hG hq9 hv9 hcl9 => ?_)
  refine g_catch (E := "java/lang/IndexOutOfBoundsException") (st := 0) (en := 12) (hpc := 15) (ct := 29) (suf' := [(0, 12, 19, 19)]) S C [] htab (List.mem_of_getElem? (l := exC) (i := 0) rfl) (fun _ h => absurd h List.not_mem_nil) ⟨by decide, by decide⟩ (by decide) (List.mem_of_getElem? (i := 1) rfl) hq9 hv9 hcl9 ?_
  refine lv_astore (lv' := [(5, .ref q9), (0, .ref (ad 0)), (1, .int (iI y)), (2, .int (iI w)), (3, .int (iI x)), (4, .ref ob)]) S.1 S.2.1 dL_setLayer_15 hl (by decide) rfl (fun ls hl => ?_)
  refine g_iconst S dL_setLayer_17 ?_
  have hG : gW K A s.heap [gRLC K ad, gScn K (ad 3) (ad 14) (ad 15) (ad 16) (ad 17) ou mi bo ln LF sn SF, gArrL K 1 ob OB] _ _ := hG
  exact g_iretH S hr hlk hQ dL_setLayer_18 (Nat.le_of_ble_eq_true rfl) (Nat.le_of_ble_eq_true rfl) (() : Unit) rfl hG

set_option maxHeartbeats 1000000 in
set_option maxRecDepth 100000 in
theorem x2_L_setLayer (l : Launch) (K : KC) (ad : Nat → Nat) (ou : Int) (mi : Int) (bo : Int) (ln : Int) (LF : Int → Int) (sn : Int) (SF : Int → Int) (N : Int → Int) (y : Int) (w : Int) (x : Int) (ob : Nat) (OB : Int → Int) (hS : ScOk N ou mi bo ln LF sn SF) (hN : NOk0 N) (hv : -2147483648 ≤ y ∧ y < 2147483648) (hw : -2147483648 ≤ w ∧ w < 2147483648) (hx : -2147483648 ≤ x ∧ x < 2147483648) (hy : 0 ≤ y ∧ y < N 0) (hi : ¬ isVal w x) (hst : l.stackTraces = false) : mH l yL_setLayer wsL_setLayer 9 149 K [.ref (ad 0), .int (iI y), .int (iI w), .int (iI x), .ref ob] [gRLC K ad, gScn K (ad 3) (ad 14) (ad 15) (ad 16) (ad 17) ou mi bo ln LF sn SF, gArrL K 1 ob OB] (fun (v : Value) (u : Unit) => (v = .int (iI 2))) (fun (u : Unit) => [gRLC K ad, gScn K (ad 3) (ad 14) (ad 15) (ad 16) (ad 17) ou mi bo ln LF sn SF, gArrL K 1 ob OB]) 1 6 := by
  refine mH_of cL_setLayer 6 (by decide) rfl (Nat.le_of_ble_eq_true rfl) ?_
  intro p e s m below meth c A ls Q S C hG hl hr hlk hin htab hQ
  have S : CallFix p m c cL_setLayer 6 s ([.ref (ad 0), .int (iI y), .int (iI w), .int (iI x), .ref ob] : List Value).toArray wsL_setLayer RL := S
  have hl : lv_has ls 6 [(0, .ref (ad 0)), (1, .int (iI y)), (2, .int (iI w)), (3, .int (iI x)), (4, .ref ob)] := hl
  have hG : gW K A s.heap [gRLC K ad, gScn K (ad 3) (ad 14) (ad 15) (ad 16) (ad 17) ou mi bo ln LF sn SF, gArrL K 1 ob OB] s.heap [] := hG
  refine lv_aload S.1 S.2.1 dL_setLayer_0 (lv_at hl 4 rfl) ?_
  refine g_iconst S dL_setLayer_2 ?_
  refine lv_aload_n S.1 S.2.1 dL_setLayer_3 rfl (lv_at hl 0 rfl) ?_
  refine lv_iload_n S.1 S.2.1 dL_setLayer_4 rfl (lv_at hl 1 rfl) ?_
  refine lv_iload_n S.1 S.2.1 dL_setLayer_5 rfl (lv_at hl 2 rfl) ?_
  refine lv_iload_n S.1 S.2.1 dL_setLayer_6 rfl (lv_at hl 3 rfl) ?_
  refine g_xV (E := "java/lang/IllegalArgumentException") (As := [.int (iI y), .int (iI w), .int (iI x)]) (rest := [.int (iI 0), .ref ob]) (gs' := (fun u : Unit => [gRLC K ad, gScn K (ad 3) (ad 14) (ad 15) (ad 16) (ad 17) ou mi bo ln LF sn SF, gArrL K 1 ob OB])) S C hG [0, 1] (x2_setLayer l K ad ou mi bo ln LF sn SF N y w x hS hN hv hw hx hy hi hst) rfl rfl 0 rfl rfl (cwV 3 S.2.2.2.2 gL_setLayer_X8_setLayer rfl rfl rfl (by decide +kernel) ⟨Nat.le_of_ble_eq_true rfl, Nat.le_of_ble_eq_true rfl⟩) rfl hl.1 rfl (Nat.le_of_ble_eq_true rfl) dL_setLayer_7 ⟨Nat.le_of_ble_eq_true rfl, Nat.le_of_ble_eq_true rfl⟩ (fun _ => Nat.le_of_ble_eq_true rfl) (fun _ => rfl) (fun u q9 ce9 H locs hp hG hq9 hv9 hcl9 => ?_)
  refine g_catch (E := "java/lang/IllegalArgumentException") (st := 0) (en := 12) (hpc := 19) (ct := 19) (suf' := []) S C [(0, 12, 15, 29)] htab (List.mem_of_getElem? (l := exC) (i := 1) rfl) (List.forall_mem_cons.mpr ⟨⟨by decide, "java/lang/IndexOutOfBoundsException", (List.mem_of_getElem? (l := exC) (i := 0) rfl), by decide, (List.mem_of_getElem? (i := 1) rfl)⟩, fun _ h => absurd h List.not_mem_nil⟩) ⟨by decide, by decide⟩ (by decide) (List.mem_of_getElem? (i := 2) rfl) hq9 hv9 hcl9 ?_
  refine lv_astore (lv' := [(5, .ref q9), (0, .ref (ad 0)), (1, .int (iI y)), (2, .int (iI w)), (3, .int (iI x)), (4, .ref ob)]) S.1 S.2.1 dL_setLayer_19 hl (by decide) rfl (fun ls hl => ?_)
  refine g_iconst S dL_setLayer_21 ?_
  have hG : gW K A s.heap [gRLC K ad, gScn K (ad 3) (ad 14) (ad 15) (ad 16) (ad 17) ou mi bo ln LF sn SF, gArrL K 1 ob OB] _ _ := hG
  exact g_iretH S hr hlk hQ dL_setLayer_22 (Nat.le_of_ble_eq_true rfl) (Nat.le_of_ble_eq_true rfl) (() : Unit) rfl hG

set_option maxHeartbeats 1000000 in
set_option maxRecDepth 100000 in
theorem c_L_swapLayers (l : Launch) (K : KC) (ad : Nat → Nat) (ou : Int) (mi : Int) (bo : Int) (ln : Int) (LF : Int → Int) (sn : Int) (SF : Int → Int) (N : Int → Int) (nx : Int) (sz : Int) (o : Nat → Option SR) (ou_t : Int) (mi_t : Int) (bo_t : Int) (ln_t : Int) (LF_t : Int → Int) (sn_t : Int) (SF_t : Int → Int) (rs : Nat) (rv : RU) (XF : Int → Int) (y : Int) (x : Int) (ob : Nat) (OB : Int → Int) (hS : ScOk N ou mi bo ln LF sn SF) (hN : NOk0 N) (hnx : 0 ≤ nx ∧ nx < 6) (hsz : 0 ≤ sz ∧ sz ≤ 6) (hv : -2147483648 ≤ y ∧ y < 2147483648) (hx : -2147483648 ≤ x ∧ x < 2147483648) (hy : 0 ≤ y ∧ y < N 0) (hx2 : 0 ≤ x ∧ x < N 0) (hne : y ≠ x) : mH l yL_swapLayers wsL_swapLayers 6 149 K [.ref (ad 0), .int (iI y), .int (iI x), .ref ob] [gRLC K ad, gScn K (ad 3) (ad 14) (ad 15) (ad 16) (ad 17) ou mi bo ln LF sn SF, gScn K (ad 4) (ad 18) (ad 19) (ad 20) (ad 21) ou_t mi_t bo_t ln_t LF_t sn_t SF_t, gHisC K (ad 5) (ad 22) nx sz, gQS K (ad 22) 6 (oP o), gRayU K (ad 7) (ad 23) (ad 24) (ad 25) (ad 26) rs rv XF, gArrL K 1 ob OB, gSOs K o (List.range 6)] (fun (v : Value) (u : SR × (Int → Int) × Int × Int × Int × Int × (Int → Int) × Int × (Int → Int) × Nat × RU × (Int → Int)) => (v = .int (iI 0)) ∧ (ScR N u.1) ∧ (ScOk (swpLN N y x) ou mi bo ln u.2.1 sn SF)) (fun (u : SR × (Int → Int) × Int × Int × Int × Int × (Int → Int) × Int × (Int → Int) × Nat × RU × (Int → Int)) => [gRLC K ad, gScn K (ad 3) (ad 14) (ad 15) (ad 16) (ad 17) ou mi bo ln u.2.1 sn SF, gScn K (ad 4) (ad 18) (ad 19) (ad 20) (ad 21) u.2.2.1 u.2.2.2.1 u.2.2.2.2.1 u.2.2.2.2.2.1 u.2.2.2.2.2.2.1 u.2.2.2.2.2.2.2.1 u.2.2.2.2.2.2.2.2.1, gHisC K (ad 5) (ad 22) ((nx + 1) % 6) (min (sz + 1) 6), gQS K (ad 22) 6 (oP (oup o nx.toNat u.1)), gRayU K (ad 7) (ad 23) (ad 24) (ad 25) (ad 26) u.2.2.2.2.2.2.2.2.2.1 u.2.2.2.2.2.2.2.2.2.2.1 u.2.2.2.2.2.2.2.2.2.2.2, gArrL K 1 ob (upI OB 0 (iI (cntB (fun i : Nat => decide (eS (swpLN N y x) (i : Int) ≠ eS N (i : Int))) (N 4).toNat)).toInt), gSOs K (oup o nx.toNat u.1) (List.range 6)]) 5 129 := by
  refine mH_of cL_swapLayers 5 (by decide) rfl (Nat.le_of_ble_eq_true rfl) ?_
  intro p e s m below meth c A ls Q S C hG hl hr hlk hin htab hQ
  have S : CallFix p m c cL_swapLayers 5 s ([.ref (ad 0), .int (iI y), .int (iI x), .ref ob] : List Value).toArray wsL_swapLayers RL := S
  have hl : lv_has ls 5 [(0, .ref (ad 0)), (1, .int (iI y)), (2, .int (iI x)), (3, .ref ob)] := hl
  have hG : gW K A s.heap [gRLC K ad, gScn K (ad 3) (ad 14) (ad 15) (ad 16) (ad 17) ou mi bo ln LF sn SF, gScn K (ad 4) (ad 18) (ad 19) (ad 20) (ad 21) ou_t mi_t bo_t ln_t LF_t sn_t SF_t, gHisC K (ad 5) (ad 22) nx sz, gQS K (ad 22) 6 (oP o), gRayU K (ad 7) (ad 23) (ad 24) (ad 25) (ad 26) rs rv XF, gArrL K 1 ob OB, gSOs K o (List.range 6)] s.heap [] := hG
  refine lv_aload_n S.1 S.2.1 dL_swapLayers_0 rfl (lv_at hl 3 rfl) ?_
  refine g_iconst S dL_swapLayers_1 ?_
  refine lv_aload_n S.1 S.2.1 dL_swapLayers_2 rfl (lv_at hl 0 rfl) ?_
  refine lv_iload_n S.1 S.2.1 dL_swapLayers_3 rfl (lv_at hl 1 rfl) ?_
  refine lv_iload_n S.1 S.2.1 dL_swapLayers_4 rfl (lv_at hl 2 rfl) ?_
  refine g_invV (As := [.int (iI y), .int (iI x)]) (rest := [.int (iI 0), .ref ob]) (gs' := (fun u : SR × (Int → Int) × Int × Int × Int × Int × (Int → Int) × Int × (Int → Int) × Nat × RU × (Int → Int) => [gRLC K ad, gScn K (ad 3) (ad 14) (ad 15) (ad 16) (ad 17) ou mi bo ln u.2.1 sn SF, gScn K (ad 4) (ad 18) (ad 19) (ad 20) (ad 21) u.2.2.1 u.2.2.2.1 u.2.2.2.2.1 u.2.2.2.2.2.1 u.2.2.2.2.2.2.1 u.2.2.2.2.2.2.2.1 u.2.2.2.2.2.2.2.2.1, gHisC K (ad 5) (ad 22) ((nx + 1) % 6) (min (sz + 1) 6), gQS K (ad 22) 6 (oP (oup o nx.toNat u.1)), gRayU K (ad 7) (ad 23) (ad 24) (ad 25) (ad 26) u.2.2.2.2.2.2.2.2.2.1 u.2.2.2.2.2.2.2.2.2.2.1 u.2.2.2.2.2.2.2.2.2.2.2, gArrL K 1 ob OB, gSOs K (oup o nx.toNat u.1) (List.range 6)])) S C hG [0, 1, 2, 3, 4, 5, 7] (c_X8_swapLayers l K ad ou mi bo ln LF sn SF N nx sz o ou_t mi_t bo_t ln_t LF_t sn_t SF_t rs rv XF y x hS hN hnx hsz hv hx hy hx2 hne) rfl rfl 0 rfl rfl (cwV 2 S.2.2.2.2 gL_swapLayers_X8_swapLayers rfl rfl rfl (by decide +kernel) ⟨Nat.le_of_ble_eq_true rfl, Nat.le_of_ble_eq_true rfl⟩) rfl hl.1 rfl (Nat.le_of_ble_eq_true rfl) dL_swapLayers_5 ⟨Nat.le_of_ble_eq_true rfl, Nat.le_of_ble_eq_true rfl⟩ (fun _ => Nat.le_of_ble_eq_true rfl) (fun _ => rfl) (fun v u H locs hp hG => ?_)
  obtain ⟨u9_5, LF2_5, ou_t2_5, mi_t2_5, bo_t2_5, ln_t2_5, LF_t2_5, sn_t2_5, SF_t2_5, rs2_5, rv2_5, X2_5⟩ := u
  obtain ⟨rfl, hu_5, hS2_5⟩ := hp
  have hu_5 : ScR N u9_5 := hu_5
  have hS2_5 : ScOk (swpLN N y x) ou mi bo ln LF2_5 sn SF := hS2_5
  have hG : gW K A s.heap [gRLC K ad, gScn K (ad 3) (ad 14) (ad 15) (ad 16) (ad 17) ou mi bo ln LF2_5 sn SF, gScn K (ad 4) (ad 18) (ad 19) (ad 20) (ad 21) ou_t2_5 mi_t2_5 bo_t2_5 ln_t2_5 LF_t2_5 sn_t2_5 SF_t2_5, gHisC K (ad 5) (ad 22) ((nx + 1) % 6) (min (sz + 1) 6), gQS K (ad 22) 6 (oP (oup o nx.toNat u9_5)), gRayU K (ad 7) (ad 23) (ad 24) (ad 25) (ad 26) rs2_5 rv2_5 X2_5, gArrL K 1 ob OB, gSOs K (oup o nx.toNat u9_5) (List.range 6)] _ _ := hG
  refine g_i2lr S dL_swapLayers_8 ?_
  refine g_last (n := 1) (gs' := [gRLC K ad, gScn K (ad 3) (ad 14) (ad 15) (ad 16) (ad 17) ou mi bo ln LF2_5 sn SF, gScn K (ad 4) (ad 18) (ad 19) (ad 20) (ad 21) ou_t2_5 mi_t2_5 bo_t2_5 ln_t2_5 LF_t2_5 sn_t2_5 SF_t2_5, gHisC K (ad 5) (ad 22) ((nx + 1) % 6) (min (sz + 1) 6), gQS K (ad 22) 6 (oP (oup o nx.toNat u9_5)), gRayU K (ad 7) (ad 23) (ad 24) (ad 25) (ad 26) rs2_5 rv2_5 X2_5, gArrL K 1 ob (upI OB 0 ((iI (cntB (fun i : Nat => decide (eS (swpLN N y x) (i : Int) ≠ eS N (i : Int))) (N 4).toNat)).toInt)), gSOs K (oup o nx.toNat u9_5) (List.range 6)]) S C hG 18 rfl (by decide) (by decide) (by decide) rfl dL_swapLayers_9 (fun H locs hG => ?_)
  refine lv_goto (tgt := 21) S.1 S.2.1 dL_swapLayers_10 (by decide) ?_
  refine g_iconst S dL_swapLayers_21 ?_
  have hG : gW K A s.heap [gRLC K ad, gScn K (ad 3) (ad 14) (ad 15) (ad 16) (ad 17) ou mi bo ln LF2_5 sn SF, gScn K (ad 4) (ad 18) (ad 19) (ad 20) (ad 21) ou_t2_5 mi_t2_5 bo_t2_5 ln_t2_5 LF_t2_5 sn_t2_5 SF_t2_5, gHisC K (ad 5) (ad 22) ((nx + 1) % 6) (min (sz + 1) 6), gQS K (ad 22) 6 (oP (oup o nx.toNat u9_5)), gRayU K (ad 7) (ad 23) (ad 24) (ad 25) (ad 26) rs2_5 rv2_5 X2_5, gArrL K 1 ob (upI OB 0 (iI (cntB (fun i : Nat => decide (eS (swpLN N y x) (i : Int) ≠ eS N (i : Int))) (N 4).toNat)).toInt), gSOs K (oup o nx.toNat u9_5) (List.range 6)] _ _ := hG
  exact g_iretH S hr hlk hQ dL_swapLayers_22 (Nat.le_of_ble_eq_true rfl) (Nat.le_of_ble_eq_true rfl) ((u9_5, LF2_5, ou_t2_5, mi_t2_5, bo_t2_5, ln_t2_5, LF_t2_5, sn_t2_5, SF_t2_5, rs2_5, rv2_5, X2_5) : SR × (Int → Int) × Int × Int × Int × Int × (Int → Int) × Int × (Int → Int) × Nat × RU × (Int → Int)) ⟨rfl, hu_5, hS2_5⟩ hG

set_option maxHeartbeats 1000000 in
set_option maxRecDepth 100000 in
theorem x1_L_swapLayers (l : Launch) (K : KC) (ad : Nat → Nat) (ou : Int) (mi : Int) (bo : Int) (ln : Int) (LF : Int → Int) (sn : Int) (SF : Int → Int) (N : Int → Int) (y : Int) (x : Int) (ob : Nat) (OB : Int → Int) (hS : ScOk N ou mi bo ln LF sn SF) (hN : NOk0 N) (hv : -2147483648 ≤ y ∧ y < 2147483648) (hx : -2147483648 ≤ x ∧ x < 2147483648) (hy : ¬ (0 ≤ y ∧ y < N 0)) (hst : l.stackTraces = false) : mH l yL_swapLayers wsL_swapLayers 8 128 K [.ref (ad 0), .int (iI y), .int (iI x), .ref ob] [gRLC K ad, gScn K (ad 3) (ad 14) (ad 15) (ad 16) (ad 17) ou mi bo ln LF sn SF, gArrL K 1 ob OB] (fun (v : Value) (u : Unit) => (v = .int (iI 1))) (fun (u : Unit) => [gRLC K ad, gScn K (ad 3) (ad 14) (ad 15) (ad 16) (ad 17) ou mi bo ln LF sn SF, gArrL K 1 ob OB]) 1 6 := by
  refine mH_of cL_swapLayers 5 (by decide) rfl (Nat.le_of_ble_eq_true rfl) ?_
  intro p e s m below meth c A ls Q S C hG hl hr hlk hin htab hQ
  have S : CallFix p m c cL_swapLayers 5 s ([.ref (ad 0), .int (iI y), .int (iI x), .ref ob] : List Value).toArray wsL_swapLayers RL := S
  have hl : lv_has ls 5 [(0, .ref (ad 0)), (1, .int (iI y)), (2, .int (iI x)), (3, .ref ob)] := hl
  have hG : gW K A s.heap [gRLC K ad, gScn K (ad 3) (ad 14) (ad 15) (ad 16) (ad 17) ou mi bo ln LF sn SF, gArrL K 1 ob OB] s.heap [] := hG
  refine lv_aload_n S.1 S.2.1 dL_swapLayers_0 rfl (lv_at hl 3 rfl) ?_
  refine g_iconst S dL_swapLayers_1 ?_
  refine lv_aload_n S.1 S.2.1 dL_swapLayers_2 rfl (lv_at hl 0 rfl) ?_
  refine lv_iload_n S.1 S.2.1 dL_swapLayers_3 rfl (lv_at hl 1 rfl) ?_
  refine lv_iload_n S.1 S.2.1 dL_swapLayers_4 rfl (lv_at hl 2 rfl) ?_
  refine g_xV (E := "java/lang/IndexOutOfBoundsException") (As := [.int (iI y), .int (iI x)]) (rest := [.int (iI 0), .ref ob]) (gs' := (fun u : Unit => [gRLC K ad, gScn K (ad 3) (ad 14) (ad 15) (ad 16) (ad 17) ou mi bo ln LF sn SF, gArrL K 1 ob OB])) S C hG [0, 1] (x1_swapLayers l K ad ou mi bo ln LF sn SF N y x hS hN hv hx hy hst) rfl rfl 0 rfl rfl (cwV 2 S.2.2.2.2 gL_swapLayers_X8_swapLayers rfl rfl rfl (by decide +kernel) ⟨Nat.le_of_ble_eq_true rfl, Nat.le_of_ble_eq_true rfl⟩) rfl hl.1 rfl (Nat.le_of_ble_eq_true rfl) dL_swapLayers_5 ⟨Nat.le_of_ble_eq_true rfl, Nat.le_of_ble_eq_true rfl⟩ (fun _ => Nat.le_of_ble_eq_true rfl) (fun _ => rfl) (fun u q9 ce9 H locs hp hG hq9 hv9 hcl9 => ?_)
  refine g_catch (E := "java/lang/IndexOutOfBoundsException") (st := 0) (en := 10) (hpc := 13) (ct := 29) (suf' := [(0, 10, 17, 19)]) S C [] htab (List.mem_of_getElem? (l := exC) (i := 0) rfl) (fun _ h => absurd h List.not_mem_nil) ⟨by decide, by decide⟩ (by decide) (List.mem_of_getElem? (i := 1) rfl) hq9 hv9 hcl9 ?_
  refine lv_astore (lv' := [(4, .ref q9), (0, .ref (ad 0)), (1, .int (iI y)), (2, .int (iI x)), (3, .ref ob)]) S.1 S.2.1 dL_swapLayers_13 hl (by decide) rfl (fun ls hl => ?_)
  refine g_iconst S dL_swapLayers_15 ?_
  have hG : gW K A s.heap [gRLC K ad, gScn K (ad 3) (ad 14) (ad 15) (ad 16) (ad 17) ou mi bo ln LF sn SF, gArrL K 1 ob OB] _ _ := hG
  exact g_iretH S hr hlk hQ dL_swapLayers_16 (Nat.le_of_ble_eq_true rfl) (Nat.le_of_ble_eq_true rfl) (() : Unit) rfl hG

set_option maxHeartbeats 1000000 in
set_option maxRecDepth 100000 in
theorem x2_L_swapLayers (l : Launch) (K : KC) (ad : Nat → Nat) (ou : Int) (mi : Int) (bo : Int) (ln : Int) (LF : Int → Int) (sn : Int) (SF : Int → Int) (N : Int → Int) (y : Int) (x : Int) (ob : Nat) (OB : Int → Int) (hS : ScOk N ou mi bo ln LF sn SF) (hN : NOk0 N) (hv : -2147483648 ≤ y ∧ y < 2147483648) (hx : -2147483648 ≤ x ∧ x < 2147483648) (hy : 0 ≤ y ∧ y < N 0) (hx2 : ¬ (0 ≤ x ∧ x < N 0)) (hst : l.stackTraces = false) : mH l yL_swapLayers wsL_swapLayers 8 128 K [.ref (ad 0), .int (iI y), .int (iI x), .ref ob] [gRLC K ad, gScn K (ad 3) (ad 14) (ad 15) (ad 16) (ad 17) ou mi bo ln LF sn SF, gArrL K 1 ob OB] (fun (v : Value) (u : Unit) => (v = .int (iI 1))) (fun (u : Unit) => [gRLC K ad, gScn K (ad 3) (ad 14) (ad 15) (ad 16) (ad 17) ou mi bo ln LF sn SF, gArrL K 1 ob OB]) 1 6 := by
  refine mH_of cL_swapLayers 5 (by decide) rfl (Nat.le_of_ble_eq_true rfl) ?_
  intro p e s m below meth c A ls Q S C hG hl hr hlk hin htab hQ
  have S : CallFix p m c cL_swapLayers 5 s ([.ref (ad 0), .int (iI y), .int (iI x), .ref ob] : List Value).toArray wsL_swapLayers RL := S
  have hl : lv_has ls 5 [(0, .ref (ad 0)), (1, .int (iI y)), (2, .int (iI x)), (3, .ref ob)] := hl
  have hG : gW K A s.heap [gRLC K ad, gScn K (ad 3) (ad 14) (ad 15) (ad 16) (ad 17) ou mi bo ln LF sn SF, gArrL K 1 ob OB] s.heap [] := hG
  refine lv_aload_n S.1 S.2.1 dL_swapLayers_0 rfl (lv_at hl 3 rfl) ?_
  refine g_iconst S dL_swapLayers_1 ?_
  refine lv_aload_n S.1 S.2.1 dL_swapLayers_2 rfl (lv_at hl 0 rfl) ?_
  refine lv_iload_n S.1 S.2.1 dL_swapLayers_3 rfl (lv_at hl 1 rfl) ?_
  refine lv_iload_n S.1 S.2.1 dL_swapLayers_4 rfl (lv_at hl 2 rfl) ?_
  refine g_xV (E := "java/lang/IndexOutOfBoundsException") (As := [.int (iI y), .int (iI x)]) (rest := [.int (iI 0), .ref ob]) (gs' := (fun u : Unit => [gRLC K ad, gScn K (ad 3) (ad 14) (ad 15) (ad 16) (ad 17) ou mi bo ln LF sn SF, gArrL K 1 ob OB])) S C hG [0, 1] (x2_swapLayers l K ad ou mi bo ln LF sn SF N y x hS hN hv hx hy hx2 hst) rfl rfl 0 rfl rfl (cwV 2 S.2.2.2.2 gL_swapLayers_X8_swapLayers rfl rfl rfl (by decide +kernel) ⟨Nat.le_of_ble_eq_true rfl, Nat.le_of_ble_eq_true rfl⟩) rfl hl.1 rfl (Nat.le_of_ble_eq_true rfl) dL_swapLayers_5 ⟨Nat.le_of_ble_eq_true rfl, Nat.le_of_ble_eq_true rfl⟩ (fun _ => Nat.le_of_ble_eq_true rfl) (fun _ => rfl) (fun u q9 ce9 H locs hp hG hq9 hv9 hcl9 => ?_)
  refine g_catch (E := "java/lang/IndexOutOfBoundsException") (st := 0) (en := 10) (hpc := 13) (ct := 29) (suf' := [(0, 10, 17, 19)]) S C [] htab (List.mem_of_getElem? (l := exC) (i := 0) rfl) (fun _ h => absurd h List.not_mem_nil) ⟨by decide, by decide⟩ (by decide) (List.mem_of_getElem? (i := 1) rfl) hq9 hv9 hcl9 ?_
  refine lv_astore (lv' := [(4, .ref q9), (0, .ref (ad 0)), (1, .int (iI y)), (2, .int (iI x)), (3, .ref ob)]) S.1 S.2.1 dL_swapLayers_13 hl (by decide) rfl (fun ls hl => ?_)
  refine g_iconst S dL_swapLayers_15 ?_
  have hG : gW K A s.heap [gRLC K ad, gScn K (ad 3) (ad 14) (ad 15) (ad 16) (ad 17) ou mi bo ln LF sn SF, gArrL K 1 ob OB] _ _ := hG
  exact g_iretH S hr hlk hQ dL_swapLayers_16 (Nat.le_of_ble_eq_true rfl) (Nat.le_of_ble_eq_true rfl) (() : Unit) rfl hG

set_option maxHeartbeats 1000000 in
set_option maxRecDepth 100000 in
theorem x3_L_swapLayers (l : Launch) (K : KC) (ad : Nat → Nat) (ou : Int) (mi : Int) (bo : Int) (ln : Int) (LF : Int → Int) (sn : Int) (SF : Int → Int) (N : Int → Int) (y : Int) (x : Int) (ob : Nat) (OB : Int → Int) (hS : ScOk N ou mi bo ln LF sn SF) (hN : NOk0 N) (hv : -2147483648 ≤ y ∧ y < 2147483648) (hx : -2147483648 ≤ x ∧ x < 2147483648) (hy : 0 ≤ y ∧ y < N 0) (hx2 : 0 ≤ x ∧ x < N 0) (hne : y = x) (hst : l.stackTraces = false) : mH l yL_swapLayers wsL_swapLayers 7 107 K [.ref (ad 0), .int (iI y), .int (iI x), .ref ob] [gRLC K ad, gScn K (ad 3) (ad 14) (ad 15) (ad 16) (ad 17) ou mi bo ln LF sn SF, gArrL K 1 ob OB] (fun (v : Value) (u : Unit) => (v = .int (iI 2))) (fun (u : Unit) => [gRLC K ad, gScn K (ad 3) (ad 14) (ad 15) (ad 16) (ad 17) ou mi bo ln LF sn SF, gArrL K 1 ob OB]) 1 6 := by
  refine mH_of cL_swapLayers 5 (by decide) rfl (Nat.le_of_ble_eq_true rfl) ?_
  intro p e s m below meth c A ls Q S C hG hl hr hlk hin htab hQ
  have S : CallFix p m c cL_swapLayers 5 s ([.ref (ad 0), .int (iI y), .int (iI x), .ref ob] : List Value).toArray wsL_swapLayers RL := S
  have hl : lv_has ls 5 [(0, .ref (ad 0)), (1, .int (iI y)), (2, .int (iI x)), (3, .ref ob)] := hl
  have hG : gW K A s.heap [gRLC K ad, gScn K (ad 3) (ad 14) (ad 15) (ad 16) (ad 17) ou mi bo ln LF sn SF, gArrL K 1 ob OB] s.heap [] := hG
  refine lv_aload_n S.1 S.2.1 dL_swapLayers_0 rfl (lv_at hl 3 rfl) ?_
  refine g_iconst S dL_swapLayers_1 ?_
  refine lv_aload_n S.1 S.2.1 dL_swapLayers_2 rfl (lv_at hl 0 rfl) ?_
  refine lv_iload_n S.1 S.2.1 dL_swapLayers_3 rfl (lv_at hl 1 rfl) ?_
  refine lv_iload_n S.1 S.2.1 dL_swapLayers_4 rfl (lv_at hl 2 rfl) ?_
  refine g_xV (E := "java/lang/IllegalArgumentException") (As := [.int (iI y), .int (iI x)]) (rest := [.int (iI 0), .ref ob]) (gs' := (fun u : Unit => [gRLC K ad, gScn K (ad 3) (ad 14) (ad 15) (ad 16) (ad 17) ou mi bo ln LF sn SF, gArrL K 1 ob OB])) S C hG [0, 1] (x3_swapLayers l K ad ou mi bo ln LF sn SF N y x hS hN hv hx hy hx2 hne hst) rfl rfl 0 rfl rfl (cwV 2 S.2.2.2.2 gL_swapLayers_X8_swapLayers rfl rfl rfl (by decide +kernel) ⟨Nat.le_of_ble_eq_true rfl, Nat.le_of_ble_eq_true rfl⟩) rfl hl.1 rfl (Nat.le_of_ble_eq_true rfl) dL_swapLayers_5 ⟨Nat.le_of_ble_eq_true rfl, Nat.le_of_ble_eq_true rfl⟩ (fun _ => Nat.le_of_ble_eq_true rfl) (fun _ => rfl) (fun u q9 ce9 H locs hp hG hq9 hv9 hcl9 => ?_)
  refine g_catch (E := "java/lang/IllegalArgumentException") (st := 0) (en := 10) (hpc := 17) (ct := 19) (suf' := []) S C [(0, 10, 13, 29)] htab (List.mem_of_getElem? (l := exC) (i := 1) rfl) (List.forall_mem_cons.mpr ⟨⟨by decide, "java/lang/IndexOutOfBoundsException", (List.mem_of_getElem? (l := exC) (i := 0) rfl), by decide, (List.mem_of_getElem? (i := 1) rfl)⟩, fun _ h => absurd h List.not_mem_nil⟩) ⟨by decide, by decide⟩ (by decide) (List.mem_of_getElem? (i := 2) rfl) hq9 hv9 hcl9 ?_
  refine lv_astore (lv' := [(4, .ref q9), (0, .ref (ad 0)), (1, .int (iI y)), (2, .int (iI x)), (3, .ref ob)]) S.1 S.2.1 dL_swapLayers_17 hl (by decide) rfl (fun ls hl => ?_)
  refine g_iconst S dL_swapLayers_19 ?_
  have hG : gW K A s.heap [gRLC K ad, gScn K (ad 3) (ad 14) (ad 15) (ad 16) (ad 17) ou mi bo ln LF sn SF, gArrL K 1 ob OB] _ _ := hG
  exact g_iretH S hr hlk hQ dL_swapLayers_20 (Nat.le_of_ble_eq_true rfl) (Nat.le_of_ble_eq_true rfl) (() : Unit) rfl hG

set_option maxHeartbeats 1000000 in
set_option maxRecDepth 100000 in
theorem c_L_setOutside (l : Launch) (K : KC) (ad : Nat → Nat) (ou : Int) (mi : Int) (bo : Int) (ln : Int) (LF : Int → Int) (sn : Int) (SF : Int → Int) (N : Int → Int) (nx : Int) (sz : Int) (o : Nat → Option SR) (x : Int) (ob : Nat) (OB : Int → Int) (hS : ScOk N ou mi bo ln LF sn SF) (hN : NOk0 N) (hnx : 0 ≤ nx ∧ nx < 6) (hsz : 0 ≤ sz ∧ sz ≤ 6) (hx : -2147483648 ≤ x ∧ x < 2147483648) (h1 : 1000 ≤ x ∧ x ≤ 4000) : mH l yL_setOutside wsL_setOutside 5 146 K [.ref (ad 0), .int (iI x), .ref ob] [gRLC K ad, gScn K (ad 3) (ad 14) (ad 15) (ad 16) (ad 17) ou mi bo ln LF sn SF, gHisC K (ad 5) (ad 22) nx sz, gQS K (ad 22) 6 (oP o), gArrL K 1 ob OB, gSOs K o (List.range 6)] (fun (v : Value) (u : SR) => (v = .int (iI 0)) ∧ (ScR N u) ∧ (ScOk (upI N 1 x) x mi bo ln LF sn SF)) (fun (u : SR) => [gRLC K ad, gScn K (ad 3) (ad 14) (ad 15) (ad 16) (ad 17) x mi bo ln LF sn SF, gHisC K (ad 5) (ad 22) ((nx + 1) % 6) (min (sz + 1) 6), gQS K (ad 22) 6 (oP (oup o nx.toNat u)), gArrL K 1 ob (upI OB 0 (iI (N 1)).toInt), gSOs K (oup o nx.toNat u) (List.range 6)]) 5 129 := by
  refine mH_of cL_setOutside 4 (by decide) rfl (Nat.le_of_ble_eq_true rfl) ?_
  intro p e s m below meth c A ls Q S C hG hl hr hlk hin htab hQ
  have S : CallFix p m c cL_setOutside 4 s ([.ref (ad 0), .int (iI x), .ref ob] : List Value).toArray wsL_setOutside RL := S
  have hl : lv_has ls 4 [(0, .ref (ad 0)), (1, .int (iI x)), (2, .ref ob)] := hl
  have hG : gW K A s.heap [gRLC K ad, gScn K (ad 3) (ad 14) (ad 15) (ad 16) (ad 17) ou mi bo ln LF sn SF, gHisC K (ad 5) (ad 22) nx sz, gQS K (ad 22) 6 (oP o), gArrL K 1 ob OB, gSOs K o (List.range 6)] s.heap [] := hG
  refine lv_aload_n S.1 S.2.1 dL_setOutside_0 rfl (lv_at hl 2 rfl) ?_
  refine g_iconst S dL_setOutside_1 ?_
  refine lv_aload_n S.1 S.2.1 dL_setOutside_2 rfl (lv_at hl 0 rfl) ?_
  refine lv_iload_n S.1 S.2.1 dL_setOutside_3 rfl (lv_at hl 1 rfl) ?_
  refine g_invV (As := [.int (iI x)]) (rest := [.int (iI 0), .ref ob]) (gs' := (fun u : SR => [gRLC K ad, gScn K (ad 3) (ad 14) (ad 15) (ad 16) (ad 17) x mi bo ln LF sn SF, gHisC K (ad 5) (ad 22) ((nx + 1) % 6) (min (sz + 1) 6), gQS K (ad 22) 6 (oP (oup o nx.toNat u)), gArrL K 1 ob OB, gSOs K (oup o nx.toNat u) (List.range 6)])) S C hG [0, 1, 2, 3, 5] (c_X8_setOutside l K ad ou mi bo ln LF sn SF N nx sz o x hS hN hnx hsz hx h1) rfl rfl 0 rfl rfl (cwV 1 S.2.2.2.2 gL_setOutside_X8_setOutside rfl rfl rfl (by decide +kernel) ⟨Nat.le_of_ble_eq_true rfl, Nat.le_of_ble_eq_true rfl⟩) rfl hl.1 rfl (Nat.le_of_ble_eq_true rfl) dL_setOutside_4 ⟨Nat.le_of_ble_eq_true rfl, Nat.le_of_ble_eq_true rfl⟩ (fun _ => Nat.le_of_ble_eq_true rfl) (fun _ => rfl) (fun v u H locs hp hG => ?_)
  obtain ⟨u9_4, rfl⟩ : ∃ z, z = u := ⟨_, rfl⟩
  obtain ⟨rfl, hu_4, hS2_4⟩ := hp
  have hu_4 : ScR N u9_4 := hu_4
  have hS2_4 : ScOk (upI N 1 x) x mi bo ln LF sn SF := hS2_4
  have hG : gW K A s.heap [gRLC K ad, gScn K (ad 3) (ad 14) (ad 15) (ad 16) (ad 17) x mi bo ln LF sn SF, gHisC K (ad 5) (ad 22) ((nx + 1) % 6) (min (sz + 1) 6), gQS K (ad 22) 6 (oP (oup o nx.toNat u9_4)), gArrL K 1 ob OB, gSOs K (oup o nx.toNat u9_4) (List.range 6)] _ _ := hG
  refine g_i2lr S dL_setOutside_7 ?_
  refine g_last (n := 1) (gs' := [gRLC K ad, gScn K (ad 3) (ad 14) (ad 15) (ad 16) (ad 17) x mi bo ln LF sn SF, gHisC K (ad 5) (ad 22) ((nx + 1) % 6) (min (sz + 1) 6), gQS K (ad 22) 6 (oP (oup o nx.toNat u9_4)), gArrL K 1 ob (upI OB 0 ((iI (N 1)).toInt)), gSOs K (oup o nx.toNat u9_4) (List.range 6)]) S C hG 8 rfl (by decide) (by decide) (by decide) rfl dL_setOutside_8 (fun H locs hG => ?_)
  refine lv_goto (tgt := 15) S.1 S.2.1 dL_setOutside_9 (by decide) ?_
  refine g_iconst S dL_setOutside_15 ?_
  have hG : gW K A s.heap [gRLC K ad, gScn K (ad 3) (ad 14) (ad 15) (ad 16) (ad 17) x mi bo ln LF sn SF, gHisC K (ad 5) (ad 22) ((nx + 1) % 6) (min (sz + 1) 6), gQS K (ad 22) 6 (oP (oup o nx.toNat u9_4)), gArrL K 1 ob (upI OB 0 (iI (N 1)).toInt), gSOs K (oup o nx.toNat u9_4) (List.range 6)] _ _ := hG
  exact g_iretH S hr hlk hQ dL_setOutside_16 (Nat.le_of_ble_eq_true rfl) (Nat.le_of_ble_eq_true rfl) ((u9_4) : SR) ⟨rfl, hu_4, hS2_4⟩ hG

set_option maxHeartbeats 1000000 in
set_option maxRecDepth 100000 in
theorem x1_L_setOutside (l : Launch) (K : KC) (ad : Nat → Nat) (ou : Int) (mi : Int) (bo : Int) (ln : Int) (LF : Int → Int) (sn : Int) (SF : Int → Int) (N : Int → Int) (x : Int) (ob : Nat) (OB : Int → Int) (hS : ScOk N ou mi bo ln LF sn SF) (hN : NOk0 N) (hx : -2147483648 ≤ x ∧ x < 2147483648) (h1 : ¬ (1000 ≤ x ∧ x ≤ 4000)) (hst : l.stackTraces = false) : mH l yL_setOutside wsL_setOutside 8 126 K [.ref (ad 0), .int (iI x), .ref ob] [gRLC K ad, gScn K (ad 3) (ad 14) (ad 15) (ad 16) (ad 17) ou mi bo ln LF sn SF, gArrL K 1 ob OB] (fun (v : Value) (u : Unit) => (v = .int (iI 1))) (fun (u : Unit) => [gRLC K ad, gScn K (ad 3) (ad 14) (ad 15) (ad 16) (ad 17) ou mi bo ln LF sn SF, gArrL K 1 ob OB]) 1 6 := by
  refine mH_of cL_setOutside 4 (by decide) rfl (Nat.le_of_ble_eq_true rfl) ?_
  intro p e s m below meth c A ls Q S C hG hl hr hlk hin htab hQ
  have S : CallFix p m c cL_setOutside 4 s ([.ref (ad 0), .int (iI x), .ref ob] : List Value).toArray wsL_setOutside RL := S
  have hl : lv_has ls 4 [(0, .ref (ad 0)), (1, .int (iI x)), (2, .ref ob)] := hl
  have hG : gW K A s.heap [gRLC K ad, gScn K (ad 3) (ad 14) (ad 15) (ad 16) (ad 17) ou mi bo ln LF sn SF, gArrL K 1 ob OB] s.heap [] := hG
  refine lv_aload_n S.1 S.2.1 dL_setOutside_0 rfl (lv_at hl 2 rfl) ?_
  refine g_iconst S dL_setOutside_1 ?_
  refine lv_aload_n S.1 S.2.1 dL_setOutside_2 rfl (lv_at hl 0 rfl) ?_
  refine lv_iload_n S.1 S.2.1 dL_setOutside_3 rfl (lv_at hl 1 rfl) ?_
  refine g_xV (E := "java/lang/IllegalArgumentException") (As := [.int (iI x)]) (rest := [.int (iI 0), .ref ob]) (gs' := (fun u : Unit => [gRLC K ad, gScn K (ad 3) (ad 14) (ad 15) (ad 16) (ad 17) ou mi bo ln LF sn SF, gArrL K 1 ob OB])) S C hG [0, 1] (x1_setOutside l K ad ou mi bo ln LF sn SF N x hS hN hx h1 hst) rfl rfl 0 rfl rfl (cwV 1 S.2.2.2.2 gL_setOutside_X8_setOutside rfl rfl rfl (by decide +kernel) ⟨Nat.le_of_ble_eq_true rfl, Nat.le_of_ble_eq_true rfl⟩) rfl hl.1 rfl (Nat.le_of_ble_eq_true rfl) dL_setOutside_4 ⟨Nat.le_of_ble_eq_true rfl, Nat.le_of_ble_eq_true rfl⟩ (fun _ => Nat.le_of_ble_eq_true rfl) (fun _ => rfl) (fun u q9 ce9 H locs hp hG hq9 hv9 hcl9 => ?_)
  refine g_catch (E := "java/lang/IllegalArgumentException") (st := 0) (en := 9) (hpc := 12) (ct := 19) (suf' := []) S C [] htab (List.mem_of_getElem? (l := exC) (i := 1) rfl) (fun _ h => absurd h List.not_mem_nil) ⟨by decide, by decide⟩ (by decide) (List.mem_of_getElem? (i := 1) rfl) hq9 hv9 hcl9 ?_
  refine lv_astore_n (lv' := [(3, .ref q9), (0, .ref (ad 0)), (1, .int (iI x)), (2, .ref ob)]) S.1 S.2.1 dL_setOutside_12 rfl hl (by decide) rfl (fun ls hl => ?_)
  refine g_iconst S dL_setOutside_13 ?_
  have hG : gW K A s.heap [gRLC K ad, gScn K (ad 3) (ad 14) (ad 15) (ad 16) (ad 17) ou mi bo ln LF sn SF, gArrL K 1 ob OB] _ _ := hG
  exact g_iretH S hr hlk hQ dL_setOutside_14 (Nat.le_of_ble_eq_true rfl) (Nat.le_of_ble_eq_true rfl) (() : Unit) rfl hG

set_option maxHeartbeats 1000000 in
set_option maxRecDepth 100000 in
theorem c_L_setOpen (l : Launch) (K : KC) (ad : Nat → Nat) (ou : Int) (mi : Int) (bo : Int) (ln : Int) (LF : Int → Int) (sn : Int) (SF : Int → Int) (N : Int → Int) (nx : Int) (sz : Int) (o : Nat → Option SR) (x : Int) (ob : Nat) (OB : Int → Int) (hS : ScOk N ou mi bo ln LF sn SF) (hN : NOk0 N) (hnx : 0 ≤ nx ∧ nx < 6) (hsz : 0 ≤ sz ∧ sz ≤ 6) (hx : -2147483648 ≤ x ∧ x < 2147483648) (h1 : 1000 ≤ x ∧ x ≤ 4000) : mH l yL_setOpen wsL_setOpen 5 146 K [.ref (ad 0), .int (iI x), .ref ob] [gRLC K ad, gScn K (ad 3) (ad 14) (ad 15) (ad 16) (ad 17) ou mi bo ln LF sn SF, gHisC K (ad 5) (ad 22) nx sz, gQS K (ad 22) 6 (oP o), gArrL K 1 ob OB, gSOs K o (List.range 6)] (fun (v : Value) (u : SR) => (v = .int (iI 0)) ∧ (ScR N u) ∧ (ScOk (upI (upI N 2 0) 3 x) ou 0 x ln LF sn SF)) (fun (u : SR) => [gRLC K ad, gScn K (ad 3) (ad 14) (ad 15) (ad 16) (ad 17) ou 0 x ln LF sn SF, gHisC K (ad 5) (ad 22) ((nx + 1) % 6) (min (sz + 1) 6), gQS K (ad 22) 6 (oP (oup o nx.toNat u)), gArrL K 1 ob (upI OB 0 (iI (if N 2 = 1 then 5000 else N 3)).toInt), gSOs K (oup o nx.toNat u) (List.range 6)]) 5 129 := by
  refine mH_of cL_setOpen 4 (by decide) rfl (Nat.le_of_ble_eq_true rfl) ?_
  intro p e s m below meth c A ls Q S C hG hl hr hlk hin htab hQ
  have S : CallFix p m c cL_setOpen 4 s ([.ref (ad 0), .int (iI x), .ref ob] : List Value).toArray wsL_setOpen RL := S
  have hl : lv_has ls 4 [(0, .ref (ad 0)), (1, .int (iI x)), (2, .ref ob)] := hl
  have hG : gW K A s.heap [gRLC K ad, gScn K (ad 3) (ad 14) (ad 15) (ad 16) (ad 17) ou mi bo ln LF sn SF, gHisC K (ad 5) (ad 22) nx sz, gQS K (ad 22) 6 (oP o), gArrL K 1 ob OB, gSOs K o (List.range 6)] s.heap [] := hG
  refine lv_aload_n S.1 S.2.1 dL_setOpen_0 rfl (lv_at hl 2 rfl) ?_
  refine g_iconst S dL_setOpen_1 ?_
  refine lv_aload_n S.1 S.2.1 dL_setOpen_2 rfl (lv_at hl 0 rfl) ?_
  refine lv_iload_n S.1 S.2.1 dL_setOpen_3 rfl (lv_at hl 1 rfl) ?_
  refine g_invV (As := [.int (iI x)]) (rest := [.int (iI 0), .ref ob]) (gs' := (fun u : SR => [gRLC K ad, gScn K (ad 3) (ad 14) (ad 15) (ad 16) (ad 17) ou 0 x ln LF sn SF, gHisC K (ad 5) (ad 22) ((nx + 1) % 6) (min (sz + 1) 6), gQS K (ad 22) 6 (oP (oup o nx.toNat u)), gArrL K 1 ob OB, gSOs K (oup o nx.toNat u) (List.range 6)])) S C hG [0, 1, 2, 3, 5] (c_X8_setOpen l K ad ou mi bo ln LF sn SF N nx sz o x hS hN hnx hsz hx h1) rfl rfl 0 rfl rfl (cwV 1 S.2.2.2.2 gL_setOpen_X8_setOpen rfl rfl rfl (by decide +kernel) ⟨Nat.le_of_ble_eq_true rfl, Nat.le_of_ble_eq_true rfl⟩) rfl hl.1 rfl (Nat.le_of_ble_eq_true rfl) dL_setOpen_4 ⟨Nat.le_of_ble_eq_true rfl, Nat.le_of_ble_eq_true rfl⟩ (fun _ => Nat.le_of_ble_eq_true rfl) (fun _ => rfl) (fun v u H locs hp hG => ?_)
  obtain ⟨u9_4, rfl⟩ : ∃ z, z = u := ⟨_, rfl⟩
  obtain ⟨rfl, hu_4, hS2_4⟩ := hp
  have hu_4 : ScR N u9_4 := hu_4
  have hS2_4 : ScOk (upI (upI N 2 0) 3 x) ou 0 x ln LF sn SF := hS2_4
  have hG : gW K A s.heap [gRLC K ad, gScn K (ad 3) (ad 14) (ad 15) (ad 16) (ad 17) ou 0 x ln LF sn SF, gHisC K (ad 5) (ad 22) ((nx + 1) % 6) (min (sz + 1) 6), gQS K (ad 22) 6 (oP (oup o nx.toNat u9_4)), gArrL K 1 ob OB, gSOs K (oup o nx.toNat u9_4) (List.range 6)] _ _ := hG
  refine g_i2lr S dL_setOpen_7 ?_
  refine g_last (n := 1) (gs' := [gRLC K ad, gScn K (ad 3) (ad 14) (ad 15) (ad 16) (ad 17) ou 0 x ln LF sn SF, gHisC K (ad 5) (ad 22) ((nx + 1) % 6) (min (sz + 1) 6), gQS K (ad 22) 6 (oP (oup o nx.toNat u9_4)), gArrL K 1 ob (upI OB 0 ((iI (if N 2 = 1 then 5000 else N 3)).toInt)), gSOs K (oup o nx.toNat u9_4) (List.range 6)]) S C hG 8 rfl (by decide) (by decide) (by decide) rfl dL_setOpen_8 (fun H locs hG => ?_)
  refine lv_goto (tgt := 15) S.1 S.2.1 dL_setOpen_9 (by decide) ?_
  refine g_iconst S dL_setOpen_15 ?_
  have hG : gW K A s.heap [gRLC K ad, gScn K (ad 3) (ad 14) (ad 15) (ad 16) (ad 17) ou 0 x ln LF sn SF, gHisC K (ad 5) (ad 22) ((nx + 1) % 6) (min (sz + 1) 6), gQS K (ad 22) 6 (oP (oup o nx.toNat u9_4)), gArrL K 1 ob (upI OB 0 (iI (if N 2 = 1 then 5000 else N 3)).toInt), gSOs K (oup o nx.toNat u9_4) (List.range 6)] _ _ := hG
  exact g_iretH S hr hlk hQ dL_setOpen_16 (Nat.le_of_ble_eq_true rfl) (Nat.le_of_ble_eq_true rfl) ((u9_4) : SR) ⟨rfl, hu_4, hS2_4⟩ hG

set_option maxHeartbeats 1000000 in
set_option maxRecDepth 100000 in
theorem x1_L_setOpen (l : Launch) (K : KC) (ad : Nat → Nat) (ou : Int) (mi : Int) (bo : Int) (ln : Int) (LF : Int → Int) (sn : Int) (SF : Int → Int) (N : Int → Int) (x : Int) (ob : Nat) (OB : Int → Int) (hS : ScOk N ou mi bo ln LF sn SF) (hN : NOk0 N) (hx : -2147483648 ≤ x ∧ x < 2147483648) (h1 : ¬ (1000 ≤ x ∧ x ≤ 4000)) (hst : l.stackTraces = false) : mH l yL_setOpen wsL_setOpen 8 126 K [.ref (ad 0), .int (iI x), .ref ob] [gRLC K ad, gScn K (ad 3) (ad 14) (ad 15) (ad 16) (ad 17) ou mi bo ln LF sn SF, gArrL K 1 ob OB] (fun (v : Value) (u : Unit) => (v = .int (iI 1))) (fun (u : Unit) => [gRLC K ad, gScn K (ad 3) (ad 14) (ad 15) (ad 16) (ad 17) ou mi bo ln LF sn SF, gArrL K 1 ob OB]) 1 6 := by
  refine mH_of cL_setOpen 4 (by decide) rfl (Nat.le_of_ble_eq_true rfl) ?_
  intro p e s m below meth c A ls Q S C hG hl hr hlk hin htab hQ
  have S : CallFix p m c cL_setOpen 4 s ([.ref (ad 0), .int (iI x), .ref ob] : List Value).toArray wsL_setOpen RL := S
  have hl : lv_has ls 4 [(0, .ref (ad 0)), (1, .int (iI x)), (2, .ref ob)] := hl
  have hG : gW K A s.heap [gRLC K ad, gScn K (ad 3) (ad 14) (ad 15) (ad 16) (ad 17) ou mi bo ln LF sn SF, gArrL K 1 ob OB] s.heap [] := hG
  refine lv_aload_n S.1 S.2.1 dL_setOpen_0 rfl (lv_at hl 2 rfl) ?_
  refine g_iconst S dL_setOpen_1 ?_
  refine lv_aload_n S.1 S.2.1 dL_setOpen_2 rfl (lv_at hl 0 rfl) ?_
  refine lv_iload_n S.1 S.2.1 dL_setOpen_3 rfl (lv_at hl 1 rfl) ?_
  refine g_xV (E := "java/lang/IllegalArgumentException") (As := [.int (iI x)]) (rest := [.int (iI 0), .ref ob]) (gs' := (fun u : Unit => [gRLC K ad, gScn K (ad 3) (ad 14) (ad 15) (ad 16) (ad 17) ou mi bo ln LF sn SF, gArrL K 1 ob OB])) S C hG [0, 1] (x1_setOpen l K ad ou mi bo ln LF sn SF N x hS hN hx h1 hst) rfl rfl 0 rfl rfl (cwV 1 S.2.2.2.2 gL_setOpen_X8_setOpen rfl rfl rfl (by decide +kernel) ⟨Nat.le_of_ble_eq_true rfl, Nat.le_of_ble_eq_true rfl⟩) rfl hl.1 rfl (Nat.le_of_ble_eq_true rfl) dL_setOpen_4 ⟨Nat.le_of_ble_eq_true rfl, Nat.le_of_ble_eq_true rfl⟩ (fun _ => Nat.le_of_ble_eq_true rfl) (fun _ => rfl) (fun u q9 ce9 H locs hp hG hq9 hv9 hcl9 => ?_)
  refine g_catch (E := "java/lang/IllegalArgumentException") (st := 0) (en := 9) (hpc := 12) (ct := 19) (suf' := []) S C [] htab (List.mem_of_getElem? (l := exC) (i := 1) rfl) (fun _ h => absurd h List.not_mem_nil) ⟨by decide, by decide⟩ (by decide) (List.mem_of_getElem? (i := 1) rfl) hq9 hv9 hcl9 ?_
  refine lv_astore_n (lv' := [(3, .ref q9), (0, .ref (ad 0)), (1, .int (iI x)), (2, .ref ob)]) S.1 S.2.1 dL_setOpen_12 rfl hl (by decide) rfl (fun ls hl => ?_)
  refine g_iconst S dL_setOpen_13 ?_
  have hG : gW K A s.heap [gRLC K ad, gScn K (ad 3) (ad 14) (ad 15) (ad 16) (ad 17) ou mi bo ln LF sn SF, gArrL K 1 ob OB] _ _ := hG
  exact g_iretH S hr hlk hQ dL_setOpen_14 (Nat.le_of_ble_eq_true rfl) (Nat.le_of_ble_eq_true rfl) (() : Unit) rfl hG

set_option maxHeartbeats 1000000 in
set_option maxRecDepth 100000 in
theorem c_L_setMirror (l : Launch) (K : KC) (ad : Nat → Nat) (ou : Int) (mi : Int) (bo : Int) (ln : Int) (LF : Int → Int) (sn : Int) (SF : Int → Int) (N : Int → Int) (nx : Int) (sz : Int) (o : Nat → Option SR) (x : Int) (ob : Nat) (OB : Int → Int) (hS : ScOk N ou mi bo ln LF sn SF) (hN : NOk0 N) (hnx : 0 ≤ nx ∧ nx < 6) (hsz : 0 ≤ sz ∧ sz ≤ 6) (hx : -2147483648 ≤ x ∧ x < 2147483648) (h1 : 0 ≤ x ∧ x ≤ 100) : mH l yL_setMirror wsL_setMirror 5 146 K [.ref (ad 0), .int (iI x), .ref ob] [gRLC K ad, gScn K (ad 3) (ad 14) (ad 15) (ad 16) (ad 17) ou mi bo ln LF sn SF, gHisC K (ad 5) (ad 22) nx sz, gQS K (ad 22) 6 (oP o), gArrL K 1 ob OB, gSOs K o (List.range 6)] (fun (v : Value) (u : SR) => (v = .int (iI 0)) ∧ (ScR N u) ∧ (ScOk (upI (upI N 2 1) 3 x) ou 1 x ln LF sn SF)) (fun (u : SR) => [gRLC K ad, gScn K (ad 3) (ad 14) (ad 15) (ad 16) (ad 17) ou 1 x ln LF sn SF, gHisC K (ad 5) (ad 22) ((nx + 1) % 6) (min (sz + 1) 6), gQS K (ad 22) 6 (oP (oup o nx.toNat u)), gArrL K 1 ob (upI OB 0 (iI (if N 2 = 1 then N 3 else -1)).toInt), gSOs K (oup o nx.toNat u) (List.range 6)]) 5 129 := by
  refine mH_of cL_setMirror 4 (by decide) rfl (Nat.le_of_ble_eq_true rfl) ?_
  intro p e s m below meth c A ls Q S C hG hl hr hlk hin htab hQ
  have S : CallFix p m c cL_setMirror 4 s ([.ref (ad 0), .int (iI x), .ref ob] : List Value).toArray wsL_setMirror RL := S
  have hl : lv_has ls 4 [(0, .ref (ad 0)), (1, .int (iI x)), (2, .ref ob)] := hl
  have hG : gW K A s.heap [gRLC K ad, gScn K (ad 3) (ad 14) (ad 15) (ad 16) (ad 17) ou mi bo ln LF sn SF, gHisC K (ad 5) (ad 22) nx sz, gQS K (ad 22) 6 (oP o), gArrL K 1 ob OB, gSOs K o (List.range 6)] s.heap [] := hG
  refine lv_aload_n S.1 S.2.1 dL_setMirror_0 rfl (lv_at hl 2 rfl) ?_
  refine g_iconst S dL_setMirror_1 ?_
  refine lv_aload_n S.1 S.2.1 dL_setMirror_2 rfl (lv_at hl 0 rfl) ?_
  refine lv_iload_n S.1 S.2.1 dL_setMirror_3 rfl (lv_at hl 1 rfl) ?_
  refine g_invV (As := [.int (iI x)]) (rest := [.int (iI 0), .ref ob]) (gs' := (fun u : SR => [gRLC K ad, gScn K (ad 3) (ad 14) (ad 15) (ad 16) (ad 17) ou 1 x ln LF sn SF, gHisC K (ad 5) (ad 22) ((nx + 1) % 6) (min (sz + 1) 6), gQS K (ad 22) 6 (oP (oup o nx.toNat u)), gArrL K 1 ob OB, gSOs K (oup o nx.toNat u) (List.range 6)])) S C hG [0, 1, 2, 3, 5] (c_X8_setMirror l K ad ou mi bo ln LF sn SF N nx sz o x hS hN hnx hsz hx h1) rfl rfl 0 rfl rfl (cwV 1 S.2.2.2.2 gL_setMirror_X8_setMirror rfl rfl rfl (by decide +kernel) ⟨Nat.le_of_ble_eq_true rfl, Nat.le_of_ble_eq_true rfl⟩) rfl hl.1 rfl (Nat.le_of_ble_eq_true rfl) dL_setMirror_4 ⟨Nat.le_of_ble_eq_true rfl, Nat.le_of_ble_eq_true rfl⟩ (fun _ => Nat.le_of_ble_eq_true rfl) (fun _ => rfl) (fun v u H locs hp hG => ?_)
  obtain ⟨u9_4, rfl⟩ : ∃ z, z = u := ⟨_, rfl⟩
  obtain ⟨rfl, hu_4, hS2_4⟩ := hp
  have hu_4 : ScR N u9_4 := hu_4
  have hS2_4 : ScOk (upI (upI N 2 1) 3 x) ou 1 x ln LF sn SF := hS2_4
  have hG : gW K A s.heap [gRLC K ad, gScn K (ad 3) (ad 14) (ad 15) (ad 16) (ad 17) ou 1 x ln LF sn SF, gHisC K (ad 5) (ad 22) ((nx + 1) % 6) (min (sz + 1) 6), gQS K (ad 22) 6 (oP (oup o nx.toNat u9_4)), gArrL K 1 ob OB, gSOs K (oup o nx.toNat u9_4) (List.range 6)] _ _ := hG
  refine g_i2lr S dL_setMirror_7 ?_
  refine g_last (n := 1) (gs' := [gRLC K ad, gScn K (ad 3) (ad 14) (ad 15) (ad 16) (ad 17) ou 1 x ln LF sn SF, gHisC K (ad 5) (ad 22) ((nx + 1) % 6) (min (sz + 1) 6), gQS K (ad 22) 6 (oP (oup o nx.toNat u9_4)), gArrL K 1 ob (upI OB 0 ((iI (if N 2 = 1 then N 3 else -1)).toInt)), gSOs K (oup o nx.toNat u9_4) (List.range 6)]) S C hG 8 rfl (by decide) (by decide) (by decide) rfl dL_setMirror_8 (fun H locs hG => ?_)
  refine lv_goto (tgt := 15) S.1 S.2.1 dL_setMirror_9 (by decide) ?_
  refine g_iconst S dL_setMirror_15 ?_
  have hG : gW K A s.heap [gRLC K ad, gScn K (ad 3) (ad 14) (ad 15) (ad 16) (ad 17) ou 1 x ln LF sn SF, gHisC K (ad 5) (ad 22) ((nx + 1) % 6) (min (sz + 1) 6), gQS K (ad 22) 6 (oP (oup o nx.toNat u9_4)), gArrL K 1 ob (upI OB 0 (iI (if N 2 = 1 then N 3 else -1)).toInt), gSOs K (oup o nx.toNat u9_4) (List.range 6)] _ _ := hG
  exact g_iretH S hr hlk hQ dL_setMirror_16 (Nat.le_of_ble_eq_true rfl) (Nat.le_of_ble_eq_true rfl) ((u9_4) : SR) ⟨rfl, hu_4, hS2_4⟩ hG

set_option maxHeartbeats 1000000 in
set_option maxRecDepth 100000 in
theorem x1_L_setMirror (l : Launch) (K : KC) (ad : Nat → Nat) (ou : Int) (mi : Int) (bo : Int) (ln : Int) (LF : Int → Int) (sn : Int) (SF : Int → Int) (N : Int → Int) (x : Int) (ob : Nat) (OB : Int → Int) (hS : ScOk N ou mi bo ln LF sn SF) (hN : NOk0 N) (hx : -2147483648 ≤ x ∧ x < 2147483648) (h1 : ¬ (0 ≤ x ∧ x ≤ 100)) (hst : l.stackTraces = false) : mH l yL_setMirror wsL_setMirror 8 126 K [.ref (ad 0), .int (iI x), .ref ob] [gRLC K ad, gScn K (ad 3) (ad 14) (ad 15) (ad 16) (ad 17) ou mi bo ln LF sn SF, gArrL K 1 ob OB] (fun (v : Value) (u : Unit) => (v = .int (iI 1))) (fun (u : Unit) => [gRLC K ad, gScn K (ad 3) (ad 14) (ad 15) (ad 16) (ad 17) ou mi bo ln LF sn SF, gArrL K 1 ob OB]) 1 6 := by
  refine mH_of cL_setMirror 4 (by decide) rfl (Nat.le_of_ble_eq_true rfl) ?_
  intro p e s m below meth c A ls Q S C hG hl hr hlk hin htab hQ
  have S : CallFix p m c cL_setMirror 4 s ([.ref (ad 0), .int (iI x), .ref ob] : List Value).toArray wsL_setMirror RL := S
  have hl : lv_has ls 4 [(0, .ref (ad 0)), (1, .int (iI x)), (2, .ref ob)] := hl
  have hG : gW K A s.heap [gRLC K ad, gScn K (ad 3) (ad 14) (ad 15) (ad 16) (ad 17) ou mi bo ln LF sn SF, gArrL K 1 ob OB] s.heap [] := hG
  refine lv_aload_n S.1 S.2.1 dL_setMirror_0 rfl (lv_at hl 2 rfl) ?_
  refine g_iconst S dL_setMirror_1 ?_
  refine lv_aload_n S.1 S.2.1 dL_setMirror_2 rfl (lv_at hl 0 rfl) ?_
  refine lv_iload_n S.1 S.2.1 dL_setMirror_3 rfl (lv_at hl 1 rfl) ?_
  refine g_xV (E := "java/lang/IllegalArgumentException") (As := [.int (iI x)]) (rest := [.int (iI 0), .ref ob]) (gs' := (fun u : Unit => [gRLC K ad, gScn K (ad 3) (ad 14) (ad 15) (ad 16) (ad 17) ou mi bo ln LF sn SF, gArrL K 1 ob OB])) S C hG [0, 1] (x1_setMirror l K ad ou mi bo ln LF sn SF N x hS hN hx h1 hst) rfl rfl 0 rfl rfl (cwV 1 S.2.2.2.2 gL_setMirror_X8_setMirror rfl rfl rfl (by decide +kernel) ⟨Nat.le_of_ble_eq_true rfl, Nat.le_of_ble_eq_true rfl⟩) rfl hl.1 rfl (Nat.le_of_ble_eq_true rfl) dL_setMirror_4 ⟨Nat.le_of_ble_eq_true rfl, Nat.le_of_ble_eq_true rfl⟩ (fun _ => Nat.le_of_ble_eq_true rfl) (fun _ => rfl) (fun u q9 ce9 H locs hp hG hq9 hv9 hcl9 => ?_)
  refine g_catch (E := "java/lang/IllegalArgumentException") (st := 0) (en := 9) (hpc := 12) (ct := 19) (suf' := []) S C [] htab (List.mem_of_getElem? (l := exC) (i := 1) rfl) (fun _ h => absurd h List.not_mem_nil) ⟨by decide, by decide⟩ (by decide) (List.mem_of_getElem? (i := 1) rfl) hq9 hv9 hcl9 ?_
  refine lv_astore_n (lv' := [(3, .ref q9), (0, .ref (ad 0)), (1, .int (iI x)), (2, .ref ob)]) S.1 S.2.1 dL_setMirror_12 rfl hl (by decide) rfl (fun ls hl => ?_)
  refine g_iconst S dL_setMirror_13 ?_
  have hG : gW K A s.heap [gRLC K ad, gScn K (ad 3) (ad 14) (ad 15) (ad 16) (ad 17) ou mi bo ln LF sn SF, gArrL K 1 ob OB] _ _ := hG
  exact g_iretH S hr hlk hQ dL_setMirror_14 (Nat.le_of_ble_eq_true rfl) (Nat.le_of_ble_eq_true rfl) (() : Unit) rfl hG

set_option maxHeartbeats 1000000 in
set_option maxRecDepth 100000 in
theorem c_L_shoot (l : Launch) (K : KC) (ad : Nat → Nat) (ou : Int) (mi : Int) (bo : Int) (ln : Int) (LF : Int → Int) (sn : Int) (SF : Int → Int) (N : Int → Int) (nx : Int) (sz : Int) (o : Nat → Option SR) (y : Int) (x : Int) (z : Int) (ob : Nat) (OB : Int → Int) (hS : ScOk N ou mi bo ln LF sn SF) (hN : NOk0 N) (hnx : 0 ≤ nx ∧ nx < 6) (hsz : 0 ≤ sz ∧ sz ≤ 6) (hv : -2147483648 ≤ y ∧ y < 2147483648) (hx : x = 0 ∨ x = 1) (hz : -2147483648 ≤ z ∧ z < 2147483648) (hy : 0 ≤ y ∧ y < N 0) (h1 : 0 ≤ z ∧ z ≤ 3999 ∧ z < nX N y) (h7 : N 4 < 20) : mH l yL_shoot wsL_shoot 5 148 K [.ref (ad 0), .int (iI y), .int (iI x), .int (iI z), .ref ob] [gRLC K ad, gScn K (ad 3) (ad 14) (ad 15) (ad 16) (ad 17) ou mi bo ln LF sn SF, gHisC K (ad 5) (ad 22) nx sz, gQS K (ad 22) 6 (oP o), gArrL K 1 ob OB, gSOs K o (List.range 6)] (fun (v : Value) (u : SR × (Int → Int)) => (v = .int (iI 0)) ∧ (ScR N u.1) ∧ (ScOk (addSN N y x z) ou mi bo ln LF (sn + 1) u.2)) (fun (u : SR × (Int → Int)) => [gRLC K ad, gScn K (ad 3) (ad 14) (ad 15) (ad 16) (ad 17) ou mi bo ln LF (sn + 1) u.2, gHisC K (ad 5) (ad 22) ((nx + 1) % 6) (min (sz + 1) 6), gQS K (ad 22) 6 (oP (oup o nx.toNat u.1)), gArrL K 1 ob (upI OB 0 (iI (N 4)).toInt), gSOs K (oup o nx.toNat u.1) (List.range 6)]) 5 129 := by
  refine mH_of cL_shoot 6 (by decide) rfl (Nat.le_of_ble_eq_true rfl) ?_
  intro p e s m below meth c A ls Q S C hG hl hr hlk hin htab hQ
  have S : CallFix p m c cL_shoot 6 s ([.ref (ad 0), .int (iI y), .int (iI x), .int (iI z), .ref ob] : List Value).toArray wsL_shoot RL := S
  have hl : lv_has ls 6 [(0, .ref (ad 0)), (1, .int (iI y)), (2, .int (iI x)), (3, .int (iI z)), (4, .ref ob)] := hl
  have hG : gW K A s.heap [gRLC K ad, gScn K (ad 3) (ad 14) (ad 15) (ad 16) (ad 17) ou mi bo ln LF sn SF, gHisC K (ad 5) (ad 22) nx sz, gQS K (ad 22) 6 (oP o), gArrL K 1 ob OB, gSOs K o (List.range 6)] s.heap [] := hG
  refine lv_aload S.1 S.2.1 dL_shoot_0 (lv_at hl 4 rfl) ?_
  refine g_iconst S dL_shoot_2 ?_
  refine lv_aload_n S.1 S.2.1 dL_shoot_3 rfl (lv_at hl 0 rfl) ?_
  refine lv_iload_n S.1 S.2.1 dL_shoot_4 rfl (lv_at hl 1 rfl) ?_
  refine lv_iload_n S.1 S.2.1 dL_shoot_5 rfl (lv_at hl 2 rfl) ?_
  refine lv_iload_n S.1 S.2.1 dL_shoot_6 rfl (lv_at hl 3 rfl) ?_
  refine g_invV (As := [.int (iI y), .int (iI x), .int (iI z)]) (rest := [.int (iI 0), .ref ob]) (gs' := (fun u : SR × (Int → Int) => [gRLC K ad, gScn K (ad 3) (ad 14) (ad 15) (ad 16) (ad 17) ou mi bo ln LF (sn + 1) u.2, gHisC K (ad 5) (ad 22) ((nx + 1) % 6) (min (sz + 1) 6), gQS K (ad 22) 6 (oP (oup o nx.toNat u.1)), gArrL K 1 ob OB, gSOs K (oup o nx.toNat u.1) (List.range 6)])) S C hG [0, 1, 2, 3, 5] (c_X8_shoot l K ad ou mi bo ln LF sn SF N nx sz o y x z hS hN hnx hsz hv hx hz hy h1 h7) rfl rfl 0 rfl rfl (cwV 3 S.2.2.2.2 gL_shoot_X8_shoot rfl rfl rfl (by decide +kernel) ⟨Nat.le_of_ble_eq_true rfl, Nat.le_of_ble_eq_true rfl⟩) rfl hl.1 rfl (Nat.le_of_ble_eq_true rfl) dL_shoot_7 ⟨Nat.le_of_ble_eq_true rfl, Nat.le_of_ble_eq_true rfl⟩ (fun _ => Nat.le_of_ble_eq_true rfl) (fun _ => rfl) (fun v u H locs hp hG => ?_)
  obtain ⟨u9_7, SF2_7⟩ := u
  obtain ⟨rfl, hu_7, hS2_7⟩ := hp
  have hu_7 : ScR N u9_7 := hu_7
  have hS2_7 : ScOk (addSN N y x z) ou mi bo ln LF (sn + 1) SF2_7 := hS2_7
  have hG : gW K A s.heap [gRLC K ad, gScn K (ad 3) (ad 14) (ad 15) (ad 16) (ad 17) ou mi bo ln LF (sn + 1) SF2_7, gHisC K (ad 5) (ad 22) ((nx + 1) % 6) (min (sz + 1) 6), gQS K (ad 22) 6 (oP (oup o nx.toNat u9_7)), gArrL K 1 ob OB, gSOs K (oup o nx.toNat u9_7) (List.range 6)] _ _ := hG
  refine g_i2lr S dL_shoot_10 ?_
  refine g_last (n := 1) (gs' := [gRLC K ad, gScn K (ad 3) (ad 14) (ad 15) (ad 16) (ad 17) ou mi bo ln LF (sn + 1) SF2_7, gHisC K (ad 5) (ad 22) ((nx + 1) % 6) (min (sz + 1) 6), gQS K (ad 22) 6 (oP (oup o nx.toNat u9_7)), gArrL K 1 ob (upI OB 0 ((iI (N 4)).toInt)), gSOs K (oup o nx.toNat u9_7) (List.range 6)]) S C hG 8 rfl (by decide) (by decide) (by decide) rfl dL_shoot_11 (fun H locs hG => ?_)
  refine lv_goto (tgt := 27) S.1 S.2.1 dL_shoot_12 (by decide) ?_
  refine g_iconst S dL_shoot_27 ?_
  have hG : gW K A s.heap [gRLC K ad, gScn K (ad 3) (ad 14) (ad 15) (ad 16) (ad 17) ou mi bo ln LF (sn + 1) SF2_7, gHisC K (ad 5) (ad 22) ((nx + 1) % 6) (min (sz + 1) 6), gQS K (ad 22) 6 (oP (oup o nx.toNat u9_7)), gArrL K 1 ob (upI OB 0 (iI (N 4)).toInt), gSOs K (oup o nx.toNat u9_7) (List.range 6)] _ _ := hG
  exact g_iretH S hr hlk hQ dL_shoot_28 (Nat.le_of_ble_eq_true rfl) (Nat.le_of_ble_eq_true rfl) ((u9_7, SF2_7) : SR × (Int → Int)) ⟨rfl, hu_7, hS2_7⟩ hG

set_option maxHeartbeats 1000000 in
set_option maxRecDepth 100000 in
theorem x1_L_shoot (l : Launch) (K : KC) (ad : Nat → Nat) (ou : Int) (mi : Int) (bo : Int) (ln : Int) (LF : Int → Int) (sn : Int) (SF : Int → Int) (N : Int → Int) (y : Int) (x : Int) (z : Int) (ob : Nat) (OB : Int → Int) (hS : ScOk N ou mi bo ln LF sn SF) (hN : NOk0 N) (hv : -2147483648 ≤ y ∧ y < 2147483648) (hx : x = 0 ∨ x = 1) (hz : -2147483648 ≤ z ∧ z < 2147483648) (hy : ¬ (0 ≤ y ∧ y < N 0)) (hst : l.stackTraces = false) : mH l yL_shoot wsL_shoot 8 127 K [.ref (ad 0), .int (iI y), .int (iI x), .int (iI z), .ref ob] [gRLC K ad, gScn K (ad 3) (ad 14) (ad 15) (ad 16) (ad 17) ou mi bo ln LF sn SF, gArrL K 1 ob OB] (fun (v : Value) (u : Unit) => (v = .int (iI 1))) (fun (u : Unit) => [gRLC K ad, gScn K (ad 3) (ad 14) (ad 15) (ad 16) (ad 17) ou mi bo ln LF sn SF, gArrL K 1 ob OB]) 1 6 := by
  refine mH_of cL_shoot 6 (by decide) rfl (Nat.le_of_ble_eq_true rfl) ?_
  intro p e s m below meth c A ls Q S C hG hl hr hlk hin htab hQ
  have S : CallFix p m c cL_shoot 6 s ([.ref (ad 0), .int (iI y), .int (iI x), .int (iI z), .ref ob] : List Value).toArray wsL_shoot RL := S
  have hl : lv_has ls 6 [(0, .ref (ad 0)), (1, .int (iI y)), (2, .int (iI x)), (3, .int (iI z)), (4, .ref ob)] := hl
  have hG : gW K A s.heap [gRLC K ad, gScn K (ad 3) (ad 14) (ad 15) (ad 16) (ad 17) ou mi bo ln LF sn SF, gArrL K 1 ob OB] s.heap [] := hG
  refine lv_aload S.1 S.2.1 dL_shoot_0 (lv_at hl 4 rfl) ?_
  refine g_iconst S dL_shoot_2 ?_
  refine lv_aload_n S.1 S.2.1 dL_shoot_3 rfl (lv_at hl 0 rfl) ?_
  refine lv_iload_n S.1 S.2.1 dL_shoot_4 rfl (lv_at hl 1 rfl) ?_
  refine lv_iload_n S.1 S.2.1 dL_shoot_5 rfl (lv_at hl 2 rfl) ?_
  refine lv_iload_n S.1 S.2.1 dL_shoot_6 rfl (lv_at hl 3 rfl) ?_
  refine g_xV (E := "java/lang/IndexOutOfBoundsException") (As := [.int (iI y), .int (iI x), .int (iI z)]) (rest := [.int (iI 0), .ref ob]) (gs' := (fun u : Unit => [gRLC K ad, gScn K (ad 3) (ad 14) (ad 15) (ad 16) (ad 17) ou mi bo ln LF sn SF, gArrL K 1 ob OB])) S C hG [0, 1] (x1_shoot l K ad ou mi bo ln LF sn SF N y x z hS hN hv hx hz hy hst) rfl rfl 0 rfl rfl (cwV 3 S.2.2.2.2 gL_shoot_X8_shoot rfl rfl rfl (by decide +kernel) ⟨Nat.le_of_ble_eq_true rfl, Nat.le_of_ble_eq_true rfl⟩) rfl hl.1 rfl (Nat.le_of_ble_eq_true rfl) dL_shoot_7 ⟨Nat.le_of_ble_eq_true rfl, Nat.le_of_ble_eq_true rfl⟩ (fun _ => Nat.le_of_ble_eq_true rfl) (fun _ => rfl) (fun u q9 ce9 H locs hp hG hq9 hv9 hcl9 => ?_)
  refine g_catch (E := "java/lang/IndexOutOfBoundsException") (st := 0) (en := 12) (hpc := 15) (ct := 29) (suf' := [(0, 12, 19, 19), (0, 12, 23, 13)]) S C [] htab (List.mem_of_getElem? (l := exC) (i := 0) rfl) (fun _ h => absurd h List.not_mem_nil) ⟨by decide, by decide⟩ (by decide) (List.mem_of_getElem? (i := 1) rfl) hq9 hv9 hcl9 ?_
  refine lv_astore (lv' := [(5, .ref q9), (0, .ref (ad 0)), (1, .int (iI y)), (2, .int (iI x)), (3, .int (iI z)), (4, .ref ob)]) S.1 S.2.1 dL_shoot_15 hl (by decide) rfl (fun ls hl => ?_)
  refine g_iconst S dL_shoot_17 ?_
  have hG : gW K A s.heap [gRLC K ad, gScn K (ad 3) (ad 14) (ad 15) (ad 16) (ad 17) ou mi bo ln LF sn SF, gArrL K 1 ob OB] _ _ := hG
  exact g_iretH S hr hlk hQ dL_shoot_18 (Nat.le_of_ble_eq_true rfl) (Nat.le_of_ble_eq_true rfl) (() : Unit) rfl hG

set_option maxHeartbeats 1000000 in
set_option maxRecDepth 100000 in
theorem x2_L_shoot (l : Launch) (K : KC) (ad : Nat → Nat) (ou : Int) (mi : Int) (bo : Int) (ln : Int) (LF : Int → Int) (sn : Int) (SF : Int → Int) (N : Int → Int) (y : Int) (x : Int) (z : Int) (ob : Nat) (OB : Int → Int) (hS : ScOk N ou mi bo ln LF sn SF) (hN : NOk0 N) (hv : -2147483648 ≤ y ∧ y < 2147483648) (hx : x = 0 ∨ x = 1) (hz : -2147483648 ≤ z ∧ z < 2147483648) (hy : 0 ≤ y ∧ y < N 0) (h1 : ¬ (0 ≤ z ∧ z ≤ 3999 ∧ z < nX N y)) (hst : l.stackTraces = false) : mH l yL_shoot wsL_shoot 8 128 K [.ref (ad 0), .int (iI y), .int (iI x), .int (iI z), .ref ob] [gRLC K ad, gScn K (ad 3) (ad 14) (ad 15) (ad 16) (ad 17) ou mi bo ln LF sn SF, gArrL K 1 ob OB] (fun (v : Value) (u : Unit) => (v = .int (iI 2))) (fun (u : Unit) => [gRLC K ad, gScn K (ad 3) (ad 14) (ad 15) (ad 16) (ad 17) ou mi bo ln LF sn SF, gArrL K 1 ob OB]) 1 6 := by
  refine mH_of cL_shoot 6 (by decide) rfl (Nat.le_of_ble_eq_true rfl) ?_
  intro p e s m below meth c A ls Q S C hG hl hr hlk hin htab hQ
  have S : CallFix p m c cL_shoot 6 s ([.ref (ad 0), .int (iI y), .int (iI x), .int (iI z), .ref ob] : List Value).toArray wsL_shoot RL := S
  have hl : lv_has ls 6 [(0, .ref (ad 0)), (1, .int (iI y)), (2, .int (iI x)), (3, .int (iI z)), (4, .ref ob)] := hl
  have hG : gW K A s.heap [gRLC K ad, gScn K (ad 3) (ad 14) (ad 15) (ad 16) (ad 17) ou mi bo ln LF sn SF, gArrL K 1 ob OB] s.heap [] := hG
  refine lv_aload S.1 S.2.1 dL_shoot_0 (lv_at hl 4 rfl) ?_
  refine g_iconst S dL_shoot_2 ?_
  refine lv_aload_n S.1 S.2.1 dL_shoot_3 rfl (lv_at hl 0 rfl) ?_
  refine lv_iload_n S.1 S.2.1 dL_shoot_4 rfl (lv_at hl 1 rfl) ?_
  refine lv_iload_n S.1 S.2.1 dL_shoot_5 rfl (lv_at hl 2 rfl) ?_
  refine lv_iload_n S.1 S.2.1 dL_shoot_6 rfl (lv_at hl 3 rfl) ?_
  refine g_xV (E := "java/lang/IllegalArgumentException") (As := [.int (iI y), .int (iI x), .int (iI z)]) (rest := [.int (iI 0), .ref ob]) (gs' := (fun u : Unit => [gRLC K ad, gScn K (ad 3) (ad 14) (ad 15) (ad 16) (ad 17) ou mi bo ln LF sn SF, gArrL K 1 ob OB])) S C hG [0, 1] (x2_shoot l K ad ou mi bo ln LF sn SF N y x z hS hN hv hx hz hy h1 hst) rfl rfl 0 rfl rfl (cwV 3 S.2.2.2.2 gL_shoot_X8_shoot rfl rfl rfl (by decide +kernel) ⟨Nat.le_of_ble_eq_true rfl, Nat.le_of_ble_eq_true rfl⟩) rfl hl.1 rfl (Nat.le_of_ble_eq_true rfl) dL_shoot_7 ⟨Nat.le_of_ble_eq_true rfl, Nat.le_of_ble_eq_true rfl⟩ (fun _ => Nat.le_of_ble_eq_true rfl) (fun _ => rfl) (fun u q9 ce9 H locs hp hG hq9 hv9 hcl9 => ?_)
  refine g_catch (E := "java/lang/IllegalArgumentException") (st := 0) (en := 12) (hpc := 19) (ct := 19) (suf' := [(0, 12, 23, 13)]) S C [(0, 12, 15, 29)] htab (List.mem_of_getElem? (l := exC) (i := 1) rfl) (List.forall_mem_cons.mpr ⟨⟨by decide, "java/lang/IndexOutOfBoundsException", (List.mem_of_getElem? (l := exC) (i := 0) rfl), by decide, (List.mem_of_getElem? (i := 1) rfl)⟩, fun _ h => absurd h List.not_mem_nil⟩) ⟨by decide, by decide⟩ (by decide) (List.mem_of_getElem? (i := 2) rfl) hq9 hv9 hcl9 ?_
  refine lv_astore (lv' := [(5, .ref q9), (0, .ref (ad 0)), (1, .int (iI y)), (2, .int (iI x)), (3, .int (iI z)), (4, .ref ob)]) S.1 S.2.1 dL_shoot_19 hl (by decide) rfl (fun ls hl => ?_)
  refine g_iconst S dL_shoot_21 ?_
  have hG : gW K A s.heap [gRLC K ad, gScn K (ad 3) (ad 14) (ad 15) (ad 16) (ad 17) ou mi bo ln LF sn SF, gArrL K 1 ob OB] _ _ := hG
  exact g_iretH S hr hlk hQ dL_shoot_22 (Nat.le_of_ble_eq_true rfl) (Nat.le_of_ble_eq_true rfl) (() : Unit) rfl hG

set_option maxHeartbeats 1000000 in
set_option maxRecDepth 100000 in
theorem x3_L_shoot (l : Launch) (K : KC) (ad : Nat → Nat) (ou : Int) (mi : Int) (bo : Int) (ln : Int) (LF : Int → Int) (sn : Int) (SF : Int → Int) (N : Int → Int) (y : Int) (x : Int) (z : Int) (ob : Nat) (OB : Int → Int) (hS : ScOk N ou mi bo ln LF sn SF) (hN : NOk0 N) (hv : -2147483648 ≤ y ∧ y < 2147483648) (hx : x = 0 ∨ x = 1) (hz : -2147483648 ≤ z ∧ z < 2147483648) (hy : 0 ≤ y ∧ y < N 0) (h1 : 0 ≤ z ∧ z ≤ 3999 ∧ z < nX N y) (h7 : ¬ N 4 < 20) (hst : l.stackTraces = false) : mH l yL_shoot wsL_shoot 7 106 K [.ref (ad 0), .int (iI y), .int (iI x), .int (iI z), .ref ob] [gRLC K ad, gScn K (ad 3) (ad 14) (ad 15) (ad 16) (ad 17) ou mi bo ln LF sn SF, gArrL K 1 ob OB] (fun (v : Value) (u : Unit) => (v = .int (iI 3))) (fun (u : Unit) => [gRLC K ad, gScn K (ad 3) (ad 14) (ad 15) (ad 16) (ad 17) ou mi bo ln LF sn SF, gArrL K 1 ob OB]) 1 6 := by
  refine mH_of cL_shoot 6 (by decide) rfl (Nat.le_of_ble_eq_true rfl) ?_
  intro p e s m below meth c A ls Q S C hG hl hr hlk hin htab hQ
  have S : CallFix p m c cL_shoot 6 s ([.ref (ad 0), .int (iI y), .int (iI x), .int (iI z), .ref ob] : List Value).toArray wsL_shoot RL := S
  have hl : lv_has ls 6 [(0, .ref (ad 0)), (1, .int (iI y)), (2, .int (iI x)), (3, .int (iI z)), (4, .ref ob)] := hl
  have hG : gW K A s.heap [gRLC K ad, gScn K (ad 3) (ad 14) (ad 15) (ad 16) (ad 17) ou mi bo ln LF sn SF, gArrL K 1 ob OB] s.heap [] := hG
  refine lv_aload S.1 S.2.1 dL_shoot_0 (lv_at hl 4 rfl) ?_
  refine g_iconst S dL_shoot_2 ?_
  refine lv_aload_n S.1 S.2.1 dL_shoot_3 rfl (lv_at hl 0 rfl) ?_
  refine lv_iload_n S.1 S.2.1 dL_shoot_4 rfl (lv_at hl 1 rfl) ?_
  refine lv_iload_n S.1 S.2.1 dL_shoot_5 rfl (lv_at hl 2 rfl) ?_
  refine lv_iload_n S.1 S.2.1 dL_shoot_6 rfl (lv_at hl 3 rfl) ?_
  refine g_xV (E := "java/lang/IllegalStateException") (As := [.int (iI y), .int (iI x), .int (iI z)]) (rest := [.int (iI 0), .ref ob]) (gs' := (fun u : Unit => [gRLC K ad, gScn K (ad 3) (ad 14) (ad 15) (ad 16) (ad 17) ou mi bo ln LF sn SF, gArrL K 1 ob OB])) S C hG [0, 1] (x3_shoot l K ad ou mi bo ln LF sn SF N y x z hS hN hv hx hz hy h1 h7 hst) rfl rfl 0 rfl rfl (cwV 3 S.2.2.2.2 gL_shoot_X8_shoot rfl rfl rfl (by decide +kernel) ⟨Nat.le_of_ble_eq_true rfl, Nat.le_of_ble_eq_true rfl⟩) rfl hl.1 rfl (Nat.le_of_ble_eq_true rfl) dL_shoot_7 ⟨Nat.le_of_ble_eq_true rfl, Nat.le_of_ble_eq_true rfl⟩ (fun _ => Nat.le_of_ble_eq_true rfl) (fun _ => rfl) (fun u q9 ce9 H locs hp hG hq9 hv9 hcl9 => ?_)
  refine g_catch (E := "java/lang/IllegalStateException") (st := 0) (en := 12) (hpc := 23) (ct := 13) (suf' := []) S C [(0, 12, 15, 29), (0, 12, 19, 19)] htab (List.mem_of_getElem? (l := exC) (i := 2) rfl) (List.forall_mem_cons.mpr ⟨⟨by decide, "java/lang/IndexOutOfBoundsException", (List.mem_of_getElem? (l := exC) (i := 0) rfl), by decide, (List.mem_of_getElem? (i := 1) rfl)⟩, List.forall_mem_cons.mpr ⟨⟨by decide, "java/lang/IllegalArgumentException", (List.mem_of_getElem? (l := exC) (i := 1) rfl), by decide, (List.mem_of_getElem? (i := 2) rfl)⟩, fun _ h => absurd h List.not_mem_nil⟩⟩) ⟨by decide, by decide⟩ (by decide) (List.mem_of_getElem? (i := 3) rfl) hq9 hv9 hcl9 ?_
  refine lv_astore (lv' := [(5, .ref q9), (0, .ref (ad 0)), (1, .int (iI y)), (2, .int (iI x)), (3, .int (iI z)), (4, .ref ob)]) S.1 S.2.1 dL_shoot_23 hl (by decide) rfl (fun ls hl => ?_)
  refine g_iconst S dL_shoot_25 ?_
  have hG : gW K A s.heap [gRLC K ad, gScn K (ad 3) (ad 14) (ad 15) (ad 16) (ad 17) ou mi bo ln LF sn SF, gArrL K 1 ob OB] _ _ := hG
  exact g_iretH S hr hlk hQ dL_shoot_26 (Nat.le_of_ble_eq_true rfl) (Nat.le_of_ble_eq_true rfl) (() : Unit) rfl hG

set_option maxHeartbeats 1000000 in
set_option maxRecDepth 100000 in
theorem c_L_turn (l : Launch) (K : KC) (ad : Nat → Nat) (ou : Int) (mi : Int) (bo : Int) (ln : Int) (LF : Int → Int) (sn : Int) (SF : Int → Int) (N : Int → Int) (nx : Int) (sz : Int) (o : Nat → Option SR) (rs : Nat) (rv : RU) (XF : Int → Int) (y : Int) (x : Int) (ob : Nat) (OB : Int → Int) (hS : ScOk N ou mi bo ln LF sn SF) (hN : NOk0 N) (hnx : 0 ≤ nx ∧ nx < 6) (hsz : 0 ≤ sz ∧ sz ≤ 6) (hv : -2147483648 ≤ y ∧ y < 2147483648) (hx : -2147483648 ≤ x ∧ x < 2147483648) (hs : 0 ≤ y ∧ y < N 4) (h1 : 0 ≤ x ∧ x ≤ 3999) : mH l yL_turn wsL_turn 6 146 K [.ref (ad 0), .int (iI y), .int (iI x), .ref ob] [gRLC K ad, gScn K (ad 3) (ad 14) (ad 15) (ad 16) (ad 17) ou mi bo ln LF sn SF, gHisC K (ad 5) (ad 22) nx sz, gQS K (ad 22) 6 (oP o), gRayU K (ad 7) (ad 23) (ad 24) (ad 25) (ad 26) rs rv XF, gArrL K 1 ob OB, gSOs K o (List.range 6)] (fun (v : Value) (u : SR × (Int → Int) × RU × (Int → Int)) => (v = .int (iI 0)) ∧ (ScR N u.1) ∧ (ScOk (upI N (35 + 3 * y + 2) x) ou mi bo ln LF sn u.2.1)) (fun (u : SR × (Int → Int) × RU × (Int → Int)) => [gRLC K ad, gScn K (ad 3) (ad 14) (ad 15) (ad 16) (ad 17) ou mi bo ln LF sn u.2.1, gHisC K (ad 5) (ad 22) ((nx + 1) % 6) (min (sz + 1) 6), gQS K (ad 22) 6 (oP (oup o nx.toNat u.1)), gRayU K (ad 7) (ad 23) (ad 24) (ad 25) (ad 26) (ad 3) u.2.2.1 u.2.2.2, gArrL K 1 ob (upI OB 0 (iI (eS (upI N (35 + 3 * y + 2) x) y)).toInt), gSOs K (oup o nx.toNat u.1) (List.range 6)]) 5 129 := by
  refine mH_of cL_turn 5 (by decide) rfl (Nat.le_of_ble_eq_true rfl) ?_
  intro p e s m below meth c A ls Q S C hG hl hr hlk hin htab hQ
  have S : CallFix p m c cL_turn 5 s ([.ref (ad 0), .int (iI y), .int (iI x), .ref ob] : List Value).toArray wsL_turn RL := S
  have hl : lv_has ls 5 [(0, .ref (ad 0)), (1, .int (iI y)), (2, .int (iI x)), (3, .ref ob)] := hl
  have hG : gW K A s.heap [gRLC K ad, gScn K (ad 3) (ad 14) (ad 15) (ad 16) (ad 17) ou mi bo ln LF sn SF, gHisC K (ad 5) (ad 22) nx sz, gQS K (ad 22) 6 (oP o), gRayU K (ad 7) (ad 23) (ad 24) (ad 25) (ad 26) rs rv XF, gArrL K 1 ob OB, gSOs K o (List.range 6)] s.heap [] := hG
  refine lv_aload_n S.1 S.2.1 dL_turn_0 rfl (lv_at hl 3 rfl) ?_
  refine g_iconst S dL_turn_1 ?_
  refine lv_aload_n S.1 S.2.1 dL_turn_2 rfl (lv_at hl 0 rfl) ?_
  refine lv_iload_n S.1 S.2.1 dL_turn_3 rfl (lv_at hl 1 rfl) ?_
  refine lv_iload_n S.1 S.2.1 dL_turn_4 rfl (lv_at hl 2 rfl) ?_
  refine g_invV (As := [.int (iI y), .int (iI x)]) (rest := [.int (iI 0), .ref ob]) (gs' := (fun u : SR × (Int → Int) × RU × (Int → Int) => [gRLC K ad, gScn K (ad 3) (ad 14) (ad 15) (ad 16) (ad 17) ou mi bo ln LF sn u.2.1, gHisC K (ad 5) (ad 22) ((nx + 1) % 6) (min (sz + 1) 6), gQS K (ad 22) 6 (oP (oup o nx.toNat u.1)), gRayU K (ad 7) (ad 23) (ad 24) (ad 25) (ad 26) (ad 3) u.2.2.1 u.2.2.2, gArrL K 1 ob OB, gSOs K (oup o nx.toNat u.1) (List.range 6)])) S C hG [0, 1, 2, 3, 4, 6] (c_X8_turn l K ad ou mi bo ln LF sn SF N nx sz o rs rv XF y x hS hN hnx hsz hv hx hs h1) rfl rfl 0 rfl rfl (cwV 2 S.2.2.2.2 gL_turn_X8_turn rfl rfl rfl (by decide +kernel) ⟨Nat.le_of_ble_eq_true rfl, Nat.le_of_ble_eq_true rfl⟩) rfl hl.1 rfl (Nat.le_of_ble_eq_true rfl) dL_turn_5 ⟨Nat.le_of_ble_eq_true rfl, Nat.le_of_ble_eq_true rfl⟩ (fun _ => Nat.le_of_ble_eq_true rfl) (fun _ => rfl) (fun v u H locs hp hG => ?_)
  obtain ⟨u9_5, SF2_5, rv2_5, X2_5⟩ := u
  obtain ⟨rfl, hu_5, hS2_5⟩ := hp
  have hu_5 : ScR N u9_5 := hu_5
  have hS2_5 : ScOk (upI N (35 + 3 * y + 2) x) ou mi bo ln LF sn SF2_5 := hS2_5
  have hG : gW K A s.heap [gRLC K ad, gScn K (ad 3) (ad 14) (ad 15) (ad 16) (ad 17) ou mi bo ln LF sn SF2_5, gHisC K (ad 5) (ad 22) ((nx + 1) % 6) (min (sz + 1) 6), gQS K (ad 22) 6 (oP (oup o nx.toNat u9_5)), gRayU K (ad 7) (ad 23) (ad 24) (ad 25) (ad 26) (ad 3) rv2_5 X2_5, gArrL K 1 ob OB, gSOs K (oup o nx.toNat u9_5) (List.range 6)] _ _ := hG
  refine g_i2lr S dL_turn_8 ?_
  refine g_last (n := 1) (gs' := [gRLC K ad, gScn K (ad 3) (ad 14) (ad 15) (ad 16) (ad 17) ou mi bo ln LF sn SF2_5, gHisC K (ad 5) (ad 22) ((nx + 1) % 6) (min (sz + 1) 6), gQS K (ad 22) 6 (oP (oup o nx.toNat u9_5)), gRayU K (ad 7) (ad 23) (ad 24) (ad 25) (ad 26) (ad 3) rv2_5 X2_5, gArrL K 1 ob (upI OB 0 ((iI (eS (upI N (35 + 3 * y + 2) x) y)).toInt)), gSOs K (oup o nx.toNat u9_5) (List.range 6)]) S C hG 13 rfl (by decide) (by decide) (by decide) rfl dL_turn_9 (fun H locs hG => ?_)
  refine lv_goto (tgt := 21) S.1 S.2.1 dL_turn_10 (by decide) ?_
  refine g_iconst S dL_turn_21 ?_
  have hG : gW K A s.heap [gRLC K ad, gScn K (ad 3) (ad 14) (ad 15) (ad 16) (ad 17) ou mi bo ln LF sn SF2_5, gHisC K (ad 5) (ad 22) ((nx + 1) % 6) (min (sz + 1) 6), gQS K (ad 22) 6 (oP (oup o nx.toNat u9_5)), gRayU K (ad 7) (ad 23) (ad 24) (ad 25) (ad 26) (ad 3) rv2_5 X2_5, gArrL K 1 ob (upI OB 0 (iI (eS (upI N (35 + 3 * y + 2) x) y)).toInt), gSOs K (oup o nx.toNat u9_5) (List.range 6)] _ _ := hG
  exact g_iretH S hr hlk hQ dL_turn_22 (Nat.le_of_ble_eq_true rfl) (Nat.le_of_ble_eq_true rfl) ((u9_5, SF2_5, rv2_5, X2_5) : SR × (Int → Int) × RU × (Int → Int)) ⟨rfl, hu_5, hS2_5⟩ hG

set_option maxHeartbeats 1000000 in
set_option maxRecDepth 100000 in
theorem x1_L_turn (l : Launch) (K : KC) (ad : Nat → Nat) (ou : Int) (mi : Int) (bo : Int) (ln : Int) (LF : Int → Int) (sn : Int) (SF : Int → Int) (N : Int → Int) (y : Int) (x : Int) (ob : Nat) (OB : Int → Int) (hS : ScOk N ou mi bo ln LF sn SF) (hN : NOk0 N) (hv : -2147483648 ≤ y ∧ y < 2147483648) (hx : -2147483648 ≤ x ∧ x < 2147483648) (hs : ¬ (0 ≤ y ∧ y < N 4)) (hst : l.stackTraces = false) : mH l yL_turn wsL_turn 8 125 K [.ref (ad 0), .int (iI y), .int (iI x), .ref ob] [gRLC K ad, gScn K (ad 3) (ad 14) (ad 15) (ad 16) (ad 17) ou mi bo ln LF sn SF, gArrL K 1 ob OB] (fun (v : Value) (u : Unit) => (v = .int (iI 1))) (fun (u : Unit) => [gRLC K ad, gScn K (ad 3) (ad 14) (ad 15) (ad 16) (ad 17) ou mi bo ln LF sn SF, gArrL K 1 ob OB]) 1 6 := by
  refine mH_of cL_turn 5 (by decide) rfl (Nat.le_of_ble_eq_true rfl) ?_
  intro p e s m below meth c A ls Q S C hG hl hr hlk hin htab hQ
  have S : CallFix p m c cL_turn 5 s ([.ref (ad 0), .int (iI y), .int (iI x), .ref ob] : List Value).toArray wsL_turn RL := S
  have hl : lv_has ls 5 [(0, .ref (ad 0)), (1, .int (iI y)), (2, .int (iI x)), (3, .ref ob)] := hl
  have hG : gW K A s.heap [gRLC K ad, gScn K (ad 3) (ad 14) (ad 15) (ad 16) (ad 17) ou mi bo ln LF sn SF, gArrL K 1 ob OB] s.heap [] := hG
  refine lv_aload_n S.1 S.2.1 dL_turn_0 rfl (lv_at hl 3 rfl) ?_
  refine g_iconst S dL_turn_1 ?_
  refine lv_aload_n S.1 S.2.1 dL_turn_2 rfl (lv_at hl 0 rfl) ?_
  refine lv_iload_n S.1 S.2.1 dL_turn_3 rfl (lv_at hl 1 rfl) ?_
  refine lv_iload_n S.1 S.2.1 dL_turn_4 rfl (lv_at hl 2 rfl) ?_
  refine g_xV (E := "java/lang/IndexOutOfBoundsException") (As := [.int (iI y), .int (iI x)]) (rest := [.int (iI 0), .ref ob]) (gs' := (fun u : Unit => [gRLC K ad, gScn K (ad 3) (ad 14) (ad 15) (ad 16) (ad 17) ou mi bo ln LF sn SF, gArrL K 1 ob OB])) S C hG [0, 1] (x1_turn l K ad ou mi bo ln LF sn SF N y x hS hN hv hx hs hst) rfl rfl 0 rfl rfl (cwV 2 S.2.2.2.2 gL_turn_X8_turn rfl rfl rfl (by decide +kernel) ⟨Nat.le_of_ble_eq_true rfl, Nat.le_of_ble_eq_true rfl⟩) rfl hl.1 rfl (Nat.le_of_ble_eq_true rfl) dL_turn_5 ⟨Nat.le_of_ble_eq_true rfl, Nat.le_of_ble_eq_true rfl⟩ (fun _ => Nat.le_of_ble_eq_true rfl) (fun _ => rfl) (fun u q9 ce9 H locs hp hG hq9 hv9 hcl9 => ?_)
  refine g_catch (E := "java/lang/IndexOutOfBoundsException") (st := 0) (en := 10) (hpc := 13) (ct := 29) (suf' := [(0, 10, 17, 19)]) S C [] htab (List.mem_of_getElem? (l := exC) (i := 0) rfl) (fun _ h => absurd h List.not_mem_nil) ⟨by decide, by decide⟩ (by decide) (List.mem_of_getElem? (i := 1) rfl) hq9 hv9 hcl9 ?_
  refine lv_astore (lv' := [(4, .ref q9), (0, .ref (ad 0)), (1, .int (iI y)), (2, .int (iI x)), (3, .ref ob)]) S.1 S.2.1 dL_turn_13 hl (by decide) rfl (fun ls hl => ?_)
  refine g_iconst S dL_turn_15 ?_
  have hG : gW K A s.heap [gRLC K ad, gScn K (ad 3) (ad 14) (ad 15) (ad 16) (ad 17) ou mi bo ln LF sn SF, gArrL K 1 ob OB] _ _ := hG
  exact g_iretH S hr hlk hQ dL_turn_16 (Nat.le_of_ble_eq_true rfl) (Nat.le_of_ble_eq_true rfl) (() : Unit) rfl hG

set_option maxHeartbeats 1000000 in
set_option maxRecDepth 100000 in
theorem x2_L_turn (l : Launch) (K : KC) (ad : Nat → Nat) (ou : Int) (mi : Int) (bo : Int) (ln : Int) (LF : Int → Int) (sn : Int) (SF : Int → Int) (N : Int → Int) (y : Int) (x : Int) (ob : Nat) (OB : Int → Int) (hS : ScOk N ou mi bo ln LF sn SF) (hN : NOk0 N) (hv : -2147483648 ≤ y ∧ y < 2147483648) (hx : -2147483648 ≤ x ∧ x < 2147483648) (hs : 0 ≤ y ∧ y < N 4) (h1 : ¬ (0 ≤ x ∧ x ≤ 3999)) (hst : l.stackTraces = false) : mH l yL_turn wsL_turn 8 126 K [.ref (ad 0), .int (iI y), .int (iI x), .ref ob] [gRLC K ad, gScn K (ad 3) (ad 14) (ad 15) (ad 16) (ad 17) ou mi bo ln LF sn SF, gArrL K 1 ob OB] (fun (v : Value) (u : Unit) => (v = .int (iI 2))) (fun (u : Unit) => [gRLC K ad, gScn K (ad 3) (ad 14) (ad 15) (ad 16) (ad 17) ou mi bo ln LF sn SF, gArrL K 1 ob OB]) 1 6 := by
  refine mH_of cL_turn 5 (by decide) rfl (Nat.le_of_ble_eq_true rfl) ?_
  intro p e s m below meth c A ls Q S C hG hl hr hlk hin htab hQ
  have S : CallFix p m c cL_turn 5 s ([.ref (ad 0), .int (iI y), .int (iI x), .ref ob] : List Value).toArray wsL_turn RL := S
  have hl : lv_has ls 5 [(0, .ref (ad 0)), (1, .int (iI y)), (2, .int (iI x)), (3, .ref ob)] := hl
  have hG : gW K A s.heap [gRLC K ad, gScn K (ad 3) (ad 14) (ad 15) (ad 16) (ad 17) ou mi bo ln LF sn SF, gArrL K 1 ob OB] s.heap [] := hG
  refine lv_aload_n S.1 S.2.1 dL_turn_0 rfl (lv_at hl 3 rfl) ?_
  refine g_iconst S dL_turn_1 ?_
  refine lv_aload_n S.1 S.2.1 dL_turn_2 rfl (lv_at hl 0 rfl) ?_
  refine lv_iload_n S.1 S.2.1 dL_turn_3 rfl (lv_at hl 1 rfl) ?_
  refine lv_iload_n S.1 S.2.1 dL_turn_4 rfl (lv_at hl 2 rfl) ?_
  refine g_xV (E := "java/lang/IllegalArgumentException") (As := [.int (iI y), .int (iI x)]) (rest := [.int (iI 0), .ref ob]) (gs' := (fun u : Unit => [gRLC K ad, gScn K (ad 3) (ad 14) (ad 15) (ad 16) (ad 17) ou mi bo ln LF sn SF, gArrL K 1 ob OB])) S C hG [0, 1] (x2_turn l K ad ou mi bo ln LF sn SF N y x hS hN hv hx hs h1 hst) rfl rfl 0 rfl rfl (cwV 2 S.2.2.2.2 gL_turn_X8_turn rfl rfl rfl (by decide +kernel) ⟨Nat.le_of_ble_eq_true rfl, Nat.le_of_ble_eq_true rfl⟩) rfl hl.1 rfl (Nat.le_of_ble_eq_true rfl) dL_turn_5 ⟨Nat.le_of_ble_eq_true rfl, Nat.le_of_ble_eq_true rfl⟩ (fun _ => Nat.le_of_ble_eq_true rfl) (fun _ => rfl) (fun u q9 ce9 H locs hp hG hq9 hv9 hcl9 => ?_)
  refine g_catch (E := "java/lang/IllegalArgumentException") (st := 0) (en := 10) (hpc := 17) (ct := 19) (suf' := []) S C [(0, 10, 13, 29)] htab (List.mem_of_getElem? (l := exC) (i := 1) rfl) (List.forall_mem_cons.mpr ⟨⟨by decide, "java/lang/IndexOutOfBoundsException", (List.mem_of_getElem? (l := exC) (i := 0) rfl), by decide, (List.mem_of_getElem? (i := 1) rfl)⟩, fun _ h => absurd h List.not_mem_nil⟩) ⟨by decide, by decide⟩ (by decide) (List.mem_of_getElem? (i := 2) rfl) hq9 hv9 hcl9 ?_
  refine lv_astore (lv' := [(4, .ref q9), (0, .ref (ad 0)), (1, .int (iI y)), (2, .int (iI x)), (3, .ref ob)]) S.1 S.2.1 dL_turn_17 hl (by decide) rfl (fun ls hl => ?_)
  refine g_iconst S dL_turn_19 ?_
  have hG : gW K A s.heap [gRLC K ad, gScn K (ad 3) (ad 14) (ad 15) (ad 16) (ad 17) ou mi bo ln LF sn SF, gArrL K 1 ob OB] _ _ := hG
  exact g_iretH S hr hlk hQ dL_turn_20 (Nat.le_of_ble_eq_true rfl) (Nat.le_of_ble_eq_true rfl) (() : Unit) rfl hG

set_option maxHeartbeats 1000000 in
set_option maxRecDepth 100000 in
theorem c_L_dropShot (l : Launch) (K : KC) (ad : Nat → Nat) (ou : Int) (mi : Int) (bo : Int) (ln : Int) (LF : Int → Int) (sn : Int) (SF : Int → Int) (N : Int → Int) (nx : Int) (sz : Int) (o : Nat → Option SR) (y : Int) (ob : Nat) (OB : Int → Int) (hS : ScOk N ou mi bo ln LF sn SF) (hN : NOk0 N) (hnx : 0 ≤ nx ∧ nx < 6) (hsz : 0 ≤ sz ∧ sz ≤ 6) (hv : -2147483648 ≤ y ∧ y < 2147483648) (hs : 0 ≤ y ∧ y < N 4) : mH l yL_dropShot wsL_dropShot 5 145 K [.ref (ad 0), .int (iI y), .ref ob] [gRLC K ad, gScn K (ad 3) (ad 14) (ad 15) (ad 16) (ad 17) ou mi bo ln LF sn SF, gHisC K (ad 5) (ad 22) nx sz, gQS K (ad 22) 6 (oP o), gArrL K 1 ob OB, gSOs K o (List.range 6)] (fun (v : Value) (u : SR × (Int → Int)) => (v = .int (iI 0)) ∧ (ScR N u.1) ∧ (ScOk (remSN N y) ou mi bo ln LF (sn - 1) u.2)) (fun (u : SR × (Int → Int)) => [gRLC K ad, gScn K (ad 3) (ad 14) (ad 15) (ad 16) (ad 17) ou mi bo ln LF (sn - 1) u.2, gHisC K (ad 5) (ad 22) ((nx + 1) % 6) (min (sz + 1) 6), gQS K (ad 22) 6 (oP (oup o nx.toNat u.1)), gArrL K 1 ob (upI OB 0 (iI (N 4 - 1)).toInt), gSOs K (oup o nx.toNat u.1) (List.range 6)]) 5 129 := by
  refine mH_of cL_dropShot 4 (by decide) rfl (Nat.le_of_ble_eq_true rfl) ?_
  intro p e s m below meth c A ls Q S C hG hl hr hlk hin htab hQ
  have S : CallFix p m c cL_dropShot 4 s ([.ref (ad 0), .int (iI y), .ref ob] : List Value).toArray wsL_dropShot RL := S
  have hl : lv_has ls 4 [(0, .ref (ad 0)), (1, .int (iI y)), (2, .ref ob)] := hl
  have hG : gW K A s.heap [gRLC K ad, gScn K (ad 3) (ad 14) (ad 15) (ad 16) (ad 17) ou mi bo ln LF sn SF, gHisC K (ad 5) (ad 22) nx sz, gQS K (ad 22) 6 (oP o), gArrL K 1 ob OB, gSOs K o (List.range 6)] s.heap [] := hG
  refine lv_aload_n S.1 S.2.1 dL_dropShot_0 rfl (lv_at hl 2 rfl) ?_
  refine g_iconst S dL_dropShot_1 ?_
  refine lv_aload_n S.1 S.2.1 dL_dropShot_2 rfl (lv_at hl 0 rfl) ?_
  refine lv_iload_n S.1 S.2.1 dL_dropShot_3 rfl (lv_at hl 1 rfl) ?_
  refine g_invV (As := [.int (iI y)]) (rest := [.int (iI 0), .ref ob]) (gs' := (fun u : SR × (Int → Int) => [gRLC K ad, gScn K (ad 3) (ad 14) (ad 15) (ad 16) (ad 17) ou mi bo ln LF (sn - 1) u.2, gHisC K (ad 5) (ad 22) ((nx + 1) % 6) (min (sz + 1) 6), gQS K (ad 22) 6 (oP (oup o nx.toNat u.1)), gArrL K 1 ob OB, gSOs K (oup o nx.toNat u.1) (List.range 6)])) S C hG [0, 1, 2, 3, 5] (c_X8_dropShot l K ad ou mi bo ln LF sn SF N nx sz o y hS hN hnx hsz hv hs) rfl rfl 0 rfl rfl (cwV 1 S.2.2.2.2 gL_dropShot_X8_dropShot rfl rfl rfl (by decide +kernel) ⟨Nat.le_of_ble_eq_true rfl, Nat.le_of_ble_eq_true rfl⟩) rfl hl.1 rfl (Nat.le_of_ble_eq_true rfl) dL_dropShot_4 ⟨Nat.le_of_ble_eq_true rfl, Nat.le_of_ble_eq_true rfl⟩ (fun _ => Nat.le_of_ble_eq_true rfl) (fun _ => rfl) (fun v u H locs hp hG => ?_)
  obtain ⟨u9_4, SF2_4⟩ := u
  obtain ⟨rfl, hu_4, hS2_4⟩ := hp
  have hu_4 : ScR N u9_4 := hu_4
  have hS2_4 : ScOk (remSN N y) ou mi bo ln LF (sn - 1) SF2_4 := hS2_4
  have hG : gW K A s.heap [gRLC K ad, gScn K (ad 3) (ad 14) (ad 15) (ad 16) (ad 17) ou mi bo ln LF (sn - 1) SF2_4, gHisC K (ad 5) (ad 22) ((nx + 1) % 6) (min (sz + 1) 6), gQS K (ad 22) 6 (oP (oup o nx.toNat u9_4)), gArrL K 1 ob OB, gSOs K (oup o nx.toNat u9_4) (List.range 6)] _ _ := hG
  refine g_i2lr S dL_dropShot_7 ?_
  refine g_last (n := 1) (gs' := [gRLC K ad, gScn K (ad 3) (ad 14) (ad 15) (ad 16) (ad 17) ou mi bo ln LF (sn - 1) SF2_4, gHisC K (ad 5) (ad 22) ((nx + 1) % 6) (min (sz + 1) 6), gQS K (ad 22) 6 (oP (oup o nx.toNat u9_4)), gArrL K 1 ob (upI OB 0 ((iI (N 4 - 1)).toInt)), gSOs K (oup o nx.toNat u9_4) (List.range 6)]) S C hG 8 rfl (by decide) (by decide) (by decide) rfl dL_dropShot_8 (fun H locs hG => ?_)
  refine lv_goto (tgt := 15) S.1 S.2.1 dL_dropShot_9 (by decide) ?_
  refine g_iconst S dL_dropShot_15 ?_
  have hG : gW K A s.heap [gRLC K ad, gScn K (ad 3) (ad 14) (ad 15) (ad 16) (ad 17) ou mi bo ln LF (sn - 1) SF2_4, gHisC K (ad 5) (ad 22) ((nx + 1) % 6) (min (sz + 1) 6), gQS K (ad 22) 6 (oP (oup o nx.toNat u9_4)), gArrL K 1 ob (upI OB 0 (iI (N 4 - 1)).toInt), gSOs K (oup o nx.toNat u9_4) (List.range 6)] _ _ := hG
  exact g_iretH S hr hlk hQ dL_dropShot_16 (Nat.le_of_ble_eq_true rfl) (Nat.le_of_ble_eq_true rfl) ((u9_4, SF2_4) : SR × (Int → Int)) ⟨rfl, hu_4, hS2_4⟩ hG

set_option maxHeartbeats 1000000 in
set_option maxRecDepth 100000 in
theorem x1_L_dropShot (l : Launch) (K : KC) (ad : Nat → Nat) (ou : Int) (mi : Int) (bo : Int) (ln : Int) (LF : Int → Int) (sn : Int) (SF : Int → Int) (N : Int → Int) (y : Int) (ob : Nat) (OB : Int → Int) (hS : ScOk N ou mi bo ln LF sn SF) (hN : NOk0 N) (hv : -2147483648 ≤ y ∧ y < 2147483648) (hs : ¬ (0 ≤ y ∧ y < N 4)) (hst : l.stackTraces = false) : mH l yL_dropShot wsL_dropShot 8 124 K [.ref (ad 0), .int (iI y), .ref ob] [gRLC K ad, gScn K (ad 3) (ad 14) (ad 15) (ad 16) (ad 17) ou mi bo ln LF sn SF, gArrL K 1 ob OB] (fun (v : Value) (u : Unit) => (v = .int (iI 1))) (fun (u : Unit) => [gRLC K ad, gScn K (ad 3) (ad 14) (ad 15) (ad 16) (ad 17) ou mi bo ln LF sn SF, gArrL K 1 ob OB]) 1 6 := by
  refine mH_of cL_dropShot 4 (by decide) rfl (Nat.le_of_ble_eq_true rfl) ?_
  intro p e s m below meth c A ls Q S C hG hl hr hlk hin htab hQ
  have S : CallFix p m c cL_dropShot 4 s ([.ref (ad 0), .int (iI y), .ref ob] : List Value).toArray wsL_dropShot RL := S
  have hl : lv_has ls 4 [(0, .ref (ad 0)), (1, .int (iI y)), (2, .ref ob)] := hl
  have hG : gW K A s.heap [gRLC K ad, gScn K (ad 3) (ad 14) (ad 15) (ad 16) (ad 17) ou mi bo ln LF sn SF, gArrL K 1 ob OB] s.heap [] := hG
  refine lv_aload_n S.1 S.2.1 dL_dropShot_0 rfl (lv_at hl 2 rfl) ?_
  refine g_iconst S dL_dropShot_1 ?_
  refine lv_aload_n S.1 S.2.1 dL_dropShot_2 rfl (lv_at hl 0 rfl) ?_
  refine lv_iload_n S.1 S.2.1 dL_dropShot_3 rfl (lv_at hl 1 rfl) ?_
  refine g_xV (E := "java/lang/IndexOutOfBoundsException") (As := [.int (iI y)]) (rest := [.int (iI 0), .ref ob]) (gs' := (fun u : Unit => [gRLC K ad, gScn K (ad 3) (ad 14) (ad 15) (ad 16) (ad 17) ou mi bo ln LF sn SF, gArrL K 1 ob OB])) S C hG [0, 1] (x1_dropShot l K ad ou mi bo ln LF sn SF N y hS hN hv hs hst) rfl rfl 0 rfl rfl (cwV 1 S.2.2.2.2 gL_dropShot_X8_dropShot rfl rfl rfl (by decide +kernel) ⟨Nat.le_of_ble_eq_true rfl, Nat.le_of_ble_eq_true rfl⟩) rfl hl.1 rfl (Nat.le_of_ble_eq_true rfl) dL_dropShot_4 ⟨Nat.le_of_ble_eq_true rfl, Nat.le_of_ble_eq_true rfl⟩ (fun _ => Nat.le_of_ble_eq_true rfl) (fun _ => rfl) (fun u q9 ce9 H locs hp hG hq9 hv9 hcl9 => ?_)
  refine g_catch (E := "java/lang/IndexOutOfBoundsException") (st := 0) (en := 9) (hpc := 12) (ct := 29) (suf' := []) S C [] htab (List.mem_of_getElem? (l := exC) (i := 0) rfl) (fun _ h => absurd h List.not_mem_nil) ⟨by decide, by decide⟩ (by decide) (List.mem_of_getElem? (i := 1) rfl) hq9 hv9 hcl9 ?_
  refine lv_astore_n (lv' := [(3, .ref q9), (0, .ref (ad 0)), (1, .int (iI y)), (2, .ref ob)]) S.1 S.2.1 dL_dropShot_12 rfl hl (by decide) rfl (fun ls hl => ?_)
  refine g_iconst S dL_dropShot_13 ?_
  have hG : gW K A s.heap [gRLC K ad, gScn K (ad 3) (ad 14) (ad 15) (ad 16) (ad 17) ou mi bo ln LF sn SF, gArrL K 1 ob OB] _ _ := hG
  exact g_iretH S hr hlk hQ dL_dropShot_14 (Nat.le_of_ble_eq_true rfl) (Nat.le_of_ble_eq_true rfl) (() : Unit) rfl hG

set_option maxHeartbeats 1000000 in
set_option maxRecDepth 100000 in
theorem c_L_keep (l : Launch) (K : KC) (ad : Nat → Nat) (ou : Int) (mi : Int) (bo : Int) (ln : Int) (LF : Int → Int) (sn : Int) (SF : Int → Int) (N : Int → Int) (o : Nat → Option SR) (y : Int) (ob : Nat) (OB : Int → Int) (hS : ScOk N ou mi bo ln LF sn SF) (hN : NOk0 N) (hy : 0 ≤ y ∧ y < 2) : mH l yL_keep wsL_keep 4 124 K [.ref (ad 0), .int (iI y), .ref ob] [gRLC K ad, gScn K (ad 3) (ad 14) (ad 15) (ad 16) (ad 17) ou mi bo ln LF sn SF, gQS K (ad 6) 2 (oP o), gArrL K 1 ob OB, gSOs K o (List.range 2)] (fun (v : Value) (u : SR) => (v = .int (iI 0)) ∧ (ScR N u)) (fun (u : SR) => [gRLC K ad, gScn K (ad 3) (ad 14) (ad 15) (ad 16) (ad 17) ou mi bo ln LF sn SF, gQS K (ad 6) 2 (oP (oup o y.toNat u)), gArrL K 1 ob (upI OB 0 (iI (N 4)).toInt), gSOs K (oup o y.toNat u) (List.range 2)]) 5 129 := by
  refine mH_of cL_keep 4 (by decide) rfl (Nat.le_of_ble_eq_true rfl) ?_
  intro p e s m below meth c A ls Q S C hG hl hr hlk hin htab hQ
  have S : CallFix p m c cL_keep 4 s ([.ref (ad 0), .int (iI y), .ref ob] : List Value).toArray wsL_keep RL := S
  have hl : lv_has ls 4 [(0, .ref (ad 0)), (1, .int (iI y)), (2, .ref ob)] := hl
  have hG : gW K A s.heap [gRLC K ad, gScn K (ad 3) (ad 14) (ad 15) (ad 16) (ad 17) ou mi bo ln LF sn SF, gQS K (ad 6) 2 (oP o), gArrL K 1 ob OB, gSOs K o (List.range 2)] s.heap [] := hG
  refine lv_aload_n S.1 S.2.1 dL_keep_0 rfl (lv_at hl 2 rfl) ?_
  refine g_iconst S dL_keep_1 ?_
  refine lv_aload_n S.1 S.2.1 dL_keep_2 rfl (lv_at hl 0 rfl) ?_
  refine lv_iload_n S.1 S.2.1 dL_keep_3 rfl (lv_at hl 1 rfl) ?_
  refine g_invV (As := [.int (iI y)]) (rest := [.int (iI 0), .ref ob]) (gs' := (fun u : SR => [gRLC K ad, gScn K (ad 3) (ad 14) (ad 15) (ad 16) (ad 17) ou mi bo ln LF sn SF, gQS K (ad 6) 2 (oP (oup o y.toNat u)), gArrL K 1 ob OB, gSOs K (oup o y.toNat u) (List.range 2)])) S C hG [0, 1, 2, 4] (c_X8_keep l K ad ou mi bo ln LF sn SF N o y hS hN hy) rfl rfl 0 rfl rfl (cwV 1 S.2.2.2.2 gL_keep_X8_keep rfl rfl rfl (by decide +kernel) ⟨Nat.le_of_ble_eq_true rfl, Nat.le_of_ble_eq_true rfl⟩) rfl hl.1 rfl (Nat.le_of_ble_eq_true rfl) dL_keep_4 ⟨Nat.le_of_ble_eq_true rfl, Nat.le_of_ble_eq_true rfl⟩ (fun _ => Nat.le_of_ble_eq_true rfl) (fun _ => rfl) (fun v u H locs hp hG => ?_)
  obtain ⟨u9_4, rfl⟩ : ∃ z, z = u := ⟨_, rfl⟩
  obtain ⟨rfl, hu_4⟩ := hp
  have hu_4 : ScR N u9_4 := hu_4
  have hG : gW K A s.heap [gRLC K ad, gScn K (ad 3) (ad 14) (ad 15) (ad 16) (ad 17) ou mi bo ln LF sn SF, gQS K (ad 6) 2 (oP (oup o y.toNat u9_4)), gArrL K 1 ob OB, gSOs K (oup o y.toNat u9_4) (List.range 2)] _ _ := hG
  refine g_i2lr S dL_keep_7 ?_
  refine g_last (n := 1) (gs' := [gRLC K ad, gScn K (ad 3) (ad 14) (ad 15) (ad 16) (ad 17) ou mi bo ln LF sn SF, gQS K (ad 6) 2 (oP (oup o y.toNat u9_4)), gArrL K 1 ob (upI OB 0 ((iI (N 4)).toInt)), gSOs K (oup o y.toNat u9_4) (List.range 2)]) S C hG 7 rfl (by decide) (by decide) (by decide) rfl dL_keep_8 (fun H locs hG => ?_)
  refine lv_goto (tgt := 15) S.1 S.2.1 dL_keep_9 (by decide) ?_
  refine g_iconst S dL_keep_15 ?_
  have hG : gW K A s.heap [gRLC K ad, gScn K (ad 3) (ad 14) (ad 15) (ad 16) (ad 17) ou mi bo ln LF sn SF, gQS K (ad 6) 2 (oP (oup o y.toNat u9_4)), gArrL K 1 ob (upI OB 0 (iI (N 4)).toInt), gSOs K (oup o y.toNat u9_4) (List.range 2)] _ _ := hG
  exact g_iretH S hr hlk hQ dL_keep_16 (Nat.le_of_ble_eq_true rfl) (Nat.le_of_ble_eq_true rfl) ((u9_4) : SR) ⟨rfl, hu_4⟩ hG

set_option maxHeartbeats 1000000 in
set_option maxRecDepth 100000 in
theorem x1_L_keep (l : Launch) (K : KC) (ad : Nat → Nat) (y : Int) (ob : Nat) (OB : Int → Int) (hv : -2147483648 ≤ y ∧ y < 2147483648) (hy : ¬ (0 ≤ y ∧ y < 2)) (hst : l.stackTraces = false) : mH l yL_keep wsL_keep 8 125 K [.ref (ad 0), .int (iI y), .ref ob] [gRLC K ad, gArrL K 1 ob OB] (fun (v : Value) (u : Unit) => (v = .int (iI 1))) (fun (u : Unit) => [gRLC K ad, gArrL K 1 ob OB]) 1 6 := by
  refine mH_of cL_keep 4 (by decide) rfl (Nat.le_of_ble_eq_true rfl) ?_
  intro p e s m below meth c A ls Q S C hG hl hr hlk hin htab hQ
  have S : CallFix p m c cL_keep 4 s ([.ref (ad 0), .int (iI y), .ref ob] : List Value).toArray wsL_keep RL := S
  have hl : lv_has ls 4 [(0, .ref (ad 0)), (1, .int (iI y)), (2, .ref ob)] := hl
  have hG : gW K A s.heap [gRLC K ad, gArrL K 1 ob OB] s.heap [] := hG
  refine lv_aload_n S.1 S.2.1 dL_keep_0 rfl (lv_at hl 2 rfl) ?_
  refine g_iconst S dL_keep_1 ?_
  refine lv_aload_n S.1 S.2.1 dL_keep_2 rfl (lv_at hl 0 rfl) ?_
  refine lv_iload_n S.1 S.2.1 dL_keep_3 rfl (lv_at hl 1 rfl) ?_
  refine g_xV (E := "java/lang/IndexOutOfBoundsException") (As := [.int (iI y)]) (rest := [.int (iI 0), .ref ob]) (gs' := (fun u : Unit => [gRLC K ad, gArrL K 1 ob OB])) S C hG [0] (x1_keep l K ad y hv hy hst) rfl rfl 0 rfl rfl (cwV 1 S.2.2.2.2 gL_keep_X8_keep rfl rfl rfl (by decide +kernel) ⟨Nat.le_of_ble_eq_true rfl, Nat.le_of_ble_eq_true rfl⟩) rfl hl.1 rfl (Nat.le_of_ble_eq_true rfl) dL_keep_4 ⟨Nat.le_of_ble_eq_true rfl, Nat.le_of_ble_eq_true rfl⟩ (fun _ => Nat.le_of_ble_eq_true rfl) (fun _ => rfl) (fun u q9 ce9 H locs hp hG hq9 hv9 hcl9 => ?_)
  refine g_catch (E := "java/lang/IndexOutOfBoundsException") (st := 0) (en := 9) (hpc := 12) (ct := 29) (suf' := []) S C [] htab (List.mem_of_getElem? (l := exC) (i := 0) rfl) (fun _ h => absurd h List.not_mem_nil) ⟨by decide, by decide⟩ (by decide) (List.mem_of_getElem? (i := 1) rfl) hq9 hv9 hcl9 ?_
  refine lv_astore_n (lv' := [(3, .ref q9), (0, .ref (ad 0)), (1, .int (iI y)), (2, .ref ob)]) S.1 S.2.1 dL_keep_12 rfl hl (by decide) rfl (fun ls hl => ?_)
  refine g_iconst S dL_keep_13 ?_
  have hG : gW K A s.heap [gRLC K ad, gArrL K 1 ob OB] _ _ := hG
  exact g_iretH S hr hlk hQ dL_keep_14 (Nat.le_of_ble_eq_true rfl) (Nat.le_of_ble_eq_true rfl) (() : Unit) rfl hG

set_option maxHeartbeats 1000000 in
set_option maxRecDepth 100000 in
theorem c_L_restore (l : Launch) (K : KC) (ad : Nat → Nat) (ou : Int) (mi : Int) (bo : Int) (ln : Int) (LF : Int → Int) (sn : Int) (SF : Int → Int) (N : Int → Int) (nx : Int) (sz : Int) (o : Nat → Option SR) (os : Nat → Option SR) (y : Int) (r3 : SR) (M : Int → Int) (ob : Nat) (OB : Int → Int) (hS : ScOk N ou mi bo ln LF sn SF) (hN : NOk0 N) (hnx : 0 ≤ nx ∧ nx < 6) (hsz : 0 ≤ sz ∧ sz ≤ 6) (hy : 0 ≤ y ∧ y < 2) (ho : os y.toNat = some r3) (hM : ScR M r3) (hN2 : NOk0 M) : mH l yL_restore wsL_restore 5 146 K [.ref (ad 0), .int (iI y), .ref ob] [gRLC K ad, gScn K (ad 3) (ad 14) (ad 15) (ad 16) (ad 17) ou mi bo ln LF sn SF, gHisC K (ad 5) (ad 22) nx sz, gQS K (ad 22) 6 (oP o), gQS K (ad 6) 2 (oP os), gArrL K 1 ob OB, gSOs K o (List.range 6), gSOs K os (List.range 2)] (fun (v : Value) (u : SR × Int × Int × Int × Int × (Int → Int) × Int × (Int → Int)) => (v = .int (iI 0)) ∧ (ScR N u.1) ∧ (ScOk M u.2.1 u.2.2.1 u.2.2.2.1 u.2.2.2.2.1 u.2.2.2.2.2.1 u.2.2.2.2.2.2.1 u.2.2.2.2.2.2.2)) (fun (u : SR × Int × Int × Int × Int × (Int → Int) × Int × (Int → Int)) => [gRLC K ad, gScn K (ad 3) (ad 14) (ad 15) (ad 16) (ad 17) u.2.1 u.2.2.1 u.2.2.2.1 u.2.2.2.2.1 u.2.2.2.2.2.1 u.2.2.2.2.2.2.1 u.2.2.2.2.2.2.2, gHisC K (ad 5) (ad 22) ((nx + 1) % 6) (min (sz + 1) 6), gQS K (ad 22) 6 (oP (oup o nx.toNat u.1)), gQS K (ad 6) 2 (oP os), gArrL K 1 ob (upI OB 0 (iI (M 4)).toInt), gSOs K (oup o nx.toNat u.1) (List.range 6), gSOs K os (List.range 2)]) 5 129 := by
  refine mH_of cL_restore 4 (by decide) rfl (Nat.le_of_ble_eq_true rfl) ?_
  intro p e s m below meth c A ls Q S C hG hl hr hlk hin htab hQ
  have S : CallFix p m c cL_restore 4 s ([.ref (ad 0), .int (iI y), .ref ob] : List Value).toArray wsL_restore RL := S
  have hl : lv_has ls 4 [(0, .ref (ad 0)), (1, .int (iI y)), (2, .ref ob)] := hl
  have hG : gW K A s.heap [gRLC K ad, gScn K (ad 3) (ad 14) (ad 15) (ad 16) (ad 17) ou mi bo ln LF sn SF, gHisC K (ad 5) (ad 22) nx sz, gQS K (ad 22) 6 (oP o), gQS K (ad 6) 2 (oP os), gArrL K 1 ob OB, gSOs K o (List.range 6), gSOs K os (List.range 2)] s.heap [] := hG
  refine lv_aload_n S.1 S.2.1 dL_restore_0 rfl (lv_at hl 2 rfl) ?_
  refine g_iconst S dL_restore_1 ?_
  refine lv_aload_n S.1 S.2.1 dL_restore_2 rfl (lv_at hl 0 rfl) ?_
  refine lv_iload_n S.1 S.2.1 dL_restore_3 rfl (lv_at hl 1 rfl) ?_
  refine g_invV (As := [.int (iI y)]) (rest := [.int (iI 0), .ref ob]) (gs' := (fun u : SR × Int × Int × Int × Int × (Int → Int) × Int × (Int → Int) => [gRLC K ad, gScn K (ad 3) (ad 14) (ad 15) (ad 16) (ad 17) u.2.1 u.2.2.1 u.2.2.2.1 u.2.2.2.2.1 u.2.2.2.2.2.1 u.2.2.2.2.2.2.1 u.2.2.2.2.2.2.2, gHisC K (ad 5) (ad 22) ((nx + 1) % 6) (min (sz + 1) 6), gQS K (ad 22) 6 (oP (oup o nx.toNat u.1)), gQS K (ad 6) 2 (oP os), gArrL K 1 ob OB, gSOs K (oup o nx.toNat u.1) (List.range 6), gSOs K os (List.range 2)])) S C hG [0, 1, 2, 3, 4, 6, 7] (c_X8_restore l K ad ou mi bo ln LF sn SF N nx sz o os y r3 M hS hN hnx hsz hy ho hM hN2) rfl rfl 0 rfl rfl (cwV 1 S.2.2.2.2 gL_restore_X8_restore rfl rfl rfl (by decide +kernel) ⟨Nat.le_of_ble_eq_true rfl, Nat.le_of_ble_eq_true rfl⟩) rfl hl.1 rfl (Nat.le_of_ble_eq_true rfl) dL_restore_4 ⟨Nat.le_of_ble_eq_true rfl, Nat.le_of_ble_eq_true rfl⟩ (fun _ => Nat.le_of_ble_eq_true rfl) (fun _ => rfl) (fun v u H locs hp hG => ?_)
  obtain ⟨u9_4, ou9_4, mi9_4, bo9_4, ln9_4, LF9_4, sn9_4, SF9_4⟩ := u
  obtain ⟨rfl, hu_4, hS2_4⟩ := hp
  have hu_4 : ScR N u9_4 := hu_4
  have hS2_4 : ScOk M ou9_4 mi9_4 bo9_4 ln9_4 LF9_4 sn9_4 SF9_4 := hS2_4
  have hG : gW K A s.heap [gRLC K ad, gScn K (ad 3) (ad 14) (ad 15) (ad 16) (ad 17) ou9_4 mi9_4 bo9_4 ln9_4 LF9_4 sn9_4 SF9_4, gHisC K (ad 5) (ad 22) ((nx + 1) % 6) (min (sz + 1) 6), gQS K (ad 22) 6 (oP (oup o nx.toNat u9_4)), gQS K (ad 6) 2 (oP os), gArrL K 1 ob OB, gSOs K (oup o nx.toNat u9_4) (List.range 6), gSOs K os (List.range 2)] _ _ := hG
  refine g_i2lr S dL_restore_7 ?_
  refine g_last (n := 1) (gs' := [gRLC K ad, gScn K (ad 3) (ad 14) (ad 15) (ad 16) (ad 17) ou9_4 mi9_4 bo9_4 ln9_4 LF9_4 sn9_4 SF9_4, gHisC K (ad 5) (ad 22) ((nx + 1) % 6) (min (sz + 1) 6), gQS K (ad 22) 6 (oP (oup o nx.toNat u9_4)), gQS K (ad 6) 2 (oP os), gArrL K 1 ob (upI OB 0 ((iI (M 4)).toInt)), gSOs K (oup o nx.toNat u9_4) (List.range 6), gSOs K os (List.range 2)]) S C hG 9 rfl (by decide) (by decide) (by decide) rfl dL_restore_8 (fun H locs hG => ?_)
  refine lv_goto (tgt := 18) S.1 S.2.1 dL_restore_9 (by decide) ?_
  refine g_iconst S dL_restore_18 ?_
  have hG : gW K A s.heap [gRLC K ad, gScn K (ad 3) (ad 14) (ad 15) (ad 16) (ad 17) ou9_4 mi9_4 bo9_4 ln9_4 LF9_4 sn9_4 SF9_4, gHisC K (ad 5) (ad 22) ((nx + 1) % 6) (min (sz + 1) 6), gQS K (ad 22) 6 (oP (oup o nx.toNat u9_4)), gQS K (ad 6) 2 (oP os), gArrL K 1 ob (upI OB 0 (iI (M 4)).toInt), gSOs K (oup o nx.toNat u9_4) (List.range 6), gSOs K os (List.range 2)] _ _ := hG
  exact g_iretH S hr hlk hQ dL_restore_19 (Nat.le_of_ble_eq_true rfl) (Nat.le_of_ble_eq_true rfl) ((u9_4, ou9_4, mi9_4, bo9_4, ln9_4, LF9_4, sn9_4, SF9_4) : SR × Int × Int × Int × Int × (Int → Int) × Int × (Int → Int)) ⟨rfl, hu_4, hS2_4⟩ hG

set_option maxHeartbeats 1000000 in
set_option maxRecDepth 100000 in
theorem x1_L_restore (l : Launch) (K : KC) (ad : Nat → Nat) (y : Int) (ob : Nat) (OB : Int → Int) (hv : -2147483648 ≤ y ∧ y < 2147483648) (hy : ¬ (0 ≤ y ∧ y < 2)) (hst : l.stackTraces = false) : mH l yL_restore wsL_restore 8 125 K [.ref (ad 0), .int (iI y), .ref ob] [gRLC K ad, gArrL K 1 ob OB] (fun (v : Value) (u : Unit) => (v = .int (iI 1))) (fun (u : Unit) => [gRLC K ad, gArrL K 1 ob OB]) 1 6 := by
  refine mH_of cL_restore 4 (by decide) rfl (Nat.le_of_ble_eq_true rfl) ?_
  intro p e s m below meth c A ls Q S C hG hl hr hlk hin htab hQ
  have S : CallFix p m c cL_restore 4 s ([.ref (ad 0), .int (iI y), .ref ob] : List Value).toArray wsL_restore RL := S
  have hl : lv_has ls 4 [(0, .ref (ad 0)), (1, .int (iI y)), (2, .ref ob)] := hl
  have hG : gW K A s.heap [gRLC K ad, gArrL K 1 ob OB] s.heap [] := hG
  refine lv_aload_n S.1 S.2.1 dL_restore_0 rfl (lv_at hl 2 rfl) ?_
  refine g_iconst S dL_restore_1 ?_
  refine lv_aload_n S.1 S.2.1 dL_restore_2 rfl (lv_at hl 0 rfl) ?_
  refine lv_iload_n S.1 S.2.1 dL_restore_3 rfl (lv_at hl 1 rfl) ?_
  refine g_xV (E := "java/lang/IndexOutOfBoundsException") (As := [.int (iI y)]) (rest := [.int (iI 0), .ref ob]) (gs' := (fun u : Unit => [gRLC K ad, gArrL K 1 ob OB])) S C hG [0] (x1_restore l K ad y hv hy hst) rfl rfl 0 rfl rfl (cwV 1 S.2.2.2.2 gL_restore_X8_restore rfl rfl rfl (by decide +kernel) ⟨Nat.le_of_ble_eq_true rfl, Nat.le_of_ble_eq_true rfl⟩) rfl hl.1 rfl (Nat.le_of_ble_eq_true rfl) dL_restore_4 ⟨Nat.le_of_ble_eq_true rfl, Nat.le_of_ble_eq_true rfl⟩ (fun _ => Nat.le_of_ble_eq_true rfl) (fun _ => rfl) (fun u q9 ce9 H locs hp hG hq9 hv9 hcl9 => ?_)
  refine g_catch (E := "java/lang/IndexOutOfBoundsException") (st := 0) (en := 9) (hpc := 12) (ct := 29) (suf' := [(0, 9, 15, 13)]) S C [] htab (List.mem_of_getElem? (l := exC) (i := 0) rfl) (fun _ h => absurd h List.not_mem_nil) ⟨by decide, by decide⟩ (by decide) (List.mem_of_getElem? (i := 1) rfl) hq9 hv9 hcl9 ?_
  refine lv_astore_n (lv' := [(3, .ref q9), (0, .ref (ad 0)), (1, .int (iI y)), (2, .ref ob)]) S.1 S.2.1 dL_restore_12 rfl hl (by decide) rfl (fun ls hl => ?_)
  refine g_iconst S dL_restore_13 ?_
  have hG : gW K A s.heap [gRLC K ad, gArrL K 1 ob OB] _ _ := hG
  exact g_iretH S hr hlk hQ dL_restore_14 (Nat.le_of_ble_eq_true rfl) (Nat.le_of_ble_eq_true rfl) (() : Unit) rfl hG

set_option maxHeartbeats 1000000 in
set_option maxRecDepth 100000 in
theorem x2_L_restore (l : Launch) (K : KC) (ad : Nat → Nat) (y : Int) (P : Nat → Option Nat) (ob : Nat) (OB : Int → Int) (hy : 0 ≤ y ∧ y < 2) (hP : P y.toNat = none) (hst : l.stackTraces = false) : mH l yL_restore wsL_restore 7 104 K [.ref (ad 0), .int (iI y), .ref ob] [gRLC K ad, gQS K (ad 6) 2 P, gArrL K 1 ob OB] (fun (v : Value) (u : Unit) => (v = .int (iI 2))) (fun (u : Unit) => [gRLC K ad, gQS K (ad 6) 2 P, gArrL K 1 ob OB]) 1 6 := by
  refine mH_of cL_restore 4 (by decide) rfl (Nat.le_of_ble_eq_true rfl) ?_
  intro p e s m below meth c A ls Q S C hG hl hr hlk hin htab hQ
  have S : CallFix p m c cL_restore 4 s ([.ref (ad 0), .int (iI y), .ref ob] : List Value).toArray wsL_restore RL := S
  have hl : lv_has ls 4 [(0, .ref (ad 0)), (1, .int (iI y)), (2, .ref ob)] := hl
  have hG : gW K A s.heap [gRLC K ad, gQS K (ad 6) 2 P, gArrL K 1 ob OB] s.heap [] := hG
  refine lv_aload_n S.1 S.2.1 dL_restore_0 rfl (lv_at hl 2 rfl) ?_
  refine g_iconst S dL_restore_1 ?_
  refine lv_aload_n S.1 S.2.1 dL_restore_2 rfl (lv_at hl 0 rfl) ?_
  refine lv_iload_n S.1 S.2.1 dL_restore_3 rfl (lv_at hl 1 rfl) ?_
  refine g_xV (E := "java/lang/IllegalStateException") (As := [.int (iI y)]) (rest := [.int (iI 0), .ref ob]) (gs' := (fun u : Unit => [gRLC K ad, gQS K (ad 6) 2 P, gArrL K 1 ob OB])) S C hG [0, 1] (x2_restore l K ad y P hy hP hst) rfl rfl 0 rfl rfl (cwV 1 S.2.2.2.2 gL_restore_X8_restore rfl rfl rfl (by decide +kernel) ⟨Nat.le_of_ble_eq_true rfl, Nat.le_of_ble_eq_true rfl⟩) rfl hl.1 rfl (Nat.le_of_ble_eq_true rfl) dL_restore_4 ⟨Nat.le_of_ble_eq_true rfl, Nat.le_of_ble_eq_true rfl⟩ (fun _ => Nat.le_of_ble_eq_true rfl) (fun _ => rfl) (fun u q9 ce9 H locs hp hG hq9 hv9 hcl9 => ?_)
  refine g_catch (E := "java/lang/IllegalStateException") (st := 0) (en := 9) (hpc := 15) (ct := 13) (suf' := []) S C [(0, 9, 12, 29)] htab (List.mem_of_getElem? (l := exC) (i := 2) rfl) (List.forall_mem_cons.mpr ⟨⟨by decide, "java/lang/IndexOutOfBoundsException", (List.mem_of_getElem? (l := exC) (i := 0) rfl), by decide, (List.mem_of_getElem? (i := 1) rfl)⟩, fun _ h => absurd h List.not_mem_nil⟩) ⟨by decide, by decide⟩ (by decide) (List.mem_of_getElem? (i := 2) rfl) hq9 hv9 hcl9 ?_
  refine lv_astore_n (lv' := [(3, .ref q9), (0, .ref (ad 0)), (1, .int (iI y)), (2, .ref ob)]) S.1 S.2.1 dL_restore_15 rfl hl (by decide) rfl (fun ls hl => ?_)
  refine g_iconst S dL_restore_16 ?_
  have hG : gW K A s.heap [gRLC K ad, gQS K (ad 6) 2 P, gArrL K 1 ob OB] _ _ := hG
  exact g_iretH S hr hlk hQ dL_restore_17 (Nat.le_of_ble_eq_true rfl) (Nat.le_of_ble_eq_true rfl) (() : Unit) rfl hG

set_option maxHeartbeats 1000000 in
set_option maxRecDepth 100000 in
theorem c_L_undo (l : Launch) (K : KC) (ad : Nat → Nat) (ou : Int) (mi : Int) (bo : Int) (ln : Int) (LF : Int → Int) (sn : Int) (SF : Int → Int) (N : Int → Int) (nx : Int) (sz : Int) (o : Nat → Option SR) (r3 : SR) (M : Int → Int) (ob : Nat) (OB : Int → Int) (hS : ScOk N ou mi bo ln LF sn SF) (hN : NOk0 N) (hnx : 0 ≤ nx ∧ nx < 6) (hsz : 0 < sz ∧ sz ≤ 6) (ho : o ((nx + 6 - 1) % 6).toNat = some r3) (hM : ScR M r3) (hN2 : NOk0 M) : mH l yL_undo wsL_undo 5 144 K [.ref (ad 0), .ref ob] [gRLC K ad, gScn K (ad 3) (ad 14) (ad 15) (ad 16) (ad 17) ou mi bo ln LF sn SF, gHisC K (ad 5) (ad 22) nx sz, gQS K (ad 22) 6 (oP o), gArrL K 1 ob OB, gSOs K o (List.range 6)] (fun (v : Value) (u : Int × Int × Int × Int × (Int → Int) × Int × (Int → Int)) => (v = .int (iI 0)) ∧ (ScOk M u.1 u.2.1 u.2.2.1 u.2.2.2.1 u.2.2.2.2.1 u.2.2.2.2.2.1 u.2.2.2.2.2.2)) (fun (u : Int × Int × Int × Int × (Int → Int) × Int × (Int → Int)) => [gRLC K ad, gScn K (ad 3) (ad 14) (ad 15) (ad 16) (ad 17) u.1 u.2.1 u.2.2.1 u.2.2.2.1 u.2.2.2.2.1 u.2.2.2.2.2.1 u.2.2.2.2.2.2, gHisC K (ad 5) (ad 22) ((nx + 6 - 1) % 6) (sz - 1), gQS K (ad 22) 6 (oP o), gArrL K 1 ob (upI OB 0 (iI (sz - 1)).toInt), gSOs K o (List.range 6)]) 0 0 := by
  refine mH_of cL_undo 3 (by decide) rfl (Nat.le_of_ble_eq_true rfl) ?_
  intro p e s m below meth c A ls Q S C hG hl hr hlk hin htab hQ
  have S : CallFix p m c cL_undo 3 s ([.ref (ad 0), .ref ob] : List Value).toArray wsL_undo RL := S
  have hl : lv_has ls 3 [(0, .ref (ad 0)), (1, .ref ob)] := hl
  have hG : gW K A s.heap [gRLC K ad, gScn K (ad 3) (ad 14) (ad 15) (ad 16) (ad 17) ou mi bo ln LF sn SF, gHisC K (ad 5) (ad 22) nx sz, gQS K (ad 22) 6 (oP o), gArrL K 1 ob OB, gSOs K o (List.range 6)] s.heap [] := hG
  refine lv_aload_n S.1 S.2.1 dL_undo_0 rfl (lv_at hl 1 rfl) ?_
  refine g_iconst S dL_undo_1 ?_
  refine lv_aload_n S.1 S.2.1 dL_undo_2 rfl (lv_at hl 0 rfl) ?_
  refine g_invV (As := []) (rest := [.int (iI 0), .ref ob]) (gs' := (fun u : Int × Int × Int × Int × (Int → Int) × Int × (Int → Int) => [gRLC K ad, gScn K (ad 3) (ad 14) (ad 15) (ad 16) (ad 17) u.1 u.2.1 u.2.2.1 u.2.2.2.1 u.2.2.2.2.1 u.2.2.2.2.2.1 u.2.2.2.2.2.2, gHisC K (ad 5) (ad 22) ((nx + 6 - 1) % 6) (sz - 1), gQS K (ad 22) 6 (oP o), gArrL K 1 ob OB, gSOs K o (List.range 6)])) S C hG [0, 1, 2, 3, 5] (c_X8_undo l K ad ou mi bo ln LF sn SF N nx sz o r3 M hS hN hnx hsz ho hM hN2) rfl rfl 0 rfl rfl (cwV 0 S.2.2.2.2 gL_undo_X8_undo rfl rfl rfl (by decide +kernel) ⟨Nat.le_of_ble_eq_true rfl, Nat.le_of_ble_eq_true rfl⟩) rfl hl.1 rfl (Nat.le_of_ble_eq_true rfl) dL_undo_3 ⟨Nat.le_of_ble_eq_true rfl, Nat.le_of_ble_eq_true rfl⟩ (fun _ => Nat.le_of_ble_eq_true rfl) (fun _ => rfl) (fun v u H locs hp hG => ?_)
  obtain ⟨ou9_3, mi9_3, bo9_3, ln9_3, LF9_3, sn9_3, SF9_3⟩ := u
  obtain ⟨rfl, hr_3⟩ := hp
  have hr_3 : ScOk M ou9_3 mi9_3 bo9_3 ln9_3 LF9_3 sn9_3 SF9_3 := hr_3
  have hG : gW K A s.heap [gRLC K ad, gScn K (ad 3) (ad 14) (ad 15) (ad 16) (ad 17) ou9_3 mi9_3 bo9_3 ln9_3 LF9_3 sn9_3 SF9_3, gHisC K (ad 5) (ad 22) ((nx + 6 - 1) % 6) (sz - 1), gQS K (ad 22) 6 (oP o), gArrL K 1 ob OB, gSOs K o (List.range 6)] _ _ := hG
  refine g_i2lr S dL_undo_6 ?_
  refine g_last (n := 1) (gs' := [gRLC K ad, gScn K (ad 3) (ad 14) (ad 15) (ad 16) (ad 17) ou9_3 mi9_3 bo9_3 ln9_3 LF9_3 sn9_3 SF9_3, gHisC K (ad 5) (ad 22) ((nx + 6 - 1) % 6) (sz - 1), gQS K (ad 22) 6 (oP o), gArrL K 1 ob (upI OB 0 ((iI (sz - 1)).toInt)), gSOs K o (List.range 6)]) S C hG 8 rfl (by decide) (by decide) (by decide) rfl dL_undo_7 (fun H locs hG => ?_)
  refine lv_goto (tgt := 14) S.1 S.2.1 dL_undo_8 (by decide) ?_
  refine g_iconst S dL_undo_14 ?_
  have hG : gW K A s.heap [gRLC K ad, gScn K (ad 3) (ad 14) (ad 15) (ad 16) (ad 17) ou9_3 mi9_3 bo9_3 ln9_3 LF9_3 sn9_3 SF9_3, gHisC K (ad 5) (ad 22) ((nx + 6 - 1) % 6) (sz - 1), gQS K (ad 22) 6 (oP o), gArrL K 1 ob (upI OB 0 (iI (sz - 1)).toInt), gSOs K o (List.range 6)] _ _ := hG
  exact g_iretH S hr hlk hQ dL_undo_15 (Nat.le_of_ble_eq_true rfl) (Nat.le_of_ble_eq_true rfl) ((ou9_3, mi9_3, bo9_3, ln9_3, LF9_3, sn9_3, SF9_3) : Int × Int × Int × Int × (Int → Int) × Int × (Int → Int)) ⟨rfl, hr_3⟩ hG

set_option maxHeartbeats 1000000 in
set_option maxRecDepth 100000 in
theorem x1_L_undo (l : Launch) (K : KC) (ad : Nat → Nat) (nx : Int) (sz : Int) (ob : Nat) (OB : Int → Int) (h0 : sz = 0) (hst : l.stackTraces = false) : mH l yL_undo wsL_undo 7 102 K [.ref (ad 0), .ref ob] [gRLC K ad, gHisC K (ad 5) (ad 22) nx sz, gArrL K 1 ob OB] (fun (v : Value) (u : Unit) => (v = .int (iI 1))) (fun (u : Unit) => [gRLC K ad, gHisC K (ad 5) (ad 22) nx sz, gArrL K 1 ob OB]) 1 6 := by
  refine mH_of cL_undo 3 (by decide) rfl (Nat.le_of_ble_eq_true rfl) ?_
  intro p e s m below meth c A ls Q S C hG hl hr hlk hin htab hQ
  have S : CallFix p m c cL_undo 3 s ([.ref (ad 0), .ref ob] : List Value).toArray wsL_undo RL := S
  have hl : lv_has ls 3 [(0, .ref (ad 0)), (1, .ref ob)] := hl
  have hG : gW K A s.heap [gRLC K ad, gHisC K (ad 5) (ad 22) nx sz, gArrL K 1 ob OB] s.heap [] := hG
  refine lv_aload_n S.1 S.2.1 dL_undo_0 rfl (lv_at hl 1 rfl) ?_
  refine g_iconst S dL_undo_1 ?_
  refine lv_aload_n S.1 S.2.1 dL_undo_2 rfl (lv_at hl 0 rfl) ?_
  refine g_xV (E := "java/lang/IllegalStateException") (As := []) (rest := [.int (iI 0), .ref ob]) (gs' := (fun u : Unit => [gRLC K ad, gHisC K (ad 5) (ad 22) nx sz, gArrL K 1 ob OB])) S C hG [0, 1] (x1_undo l K ad nx sz h0 hst) rfl rfl 0 rfl rfl (cwV 0 S.2.2.2.2 gL_undo_X8_undo rfl rfl rfl (by decide +kernel) ⟨Nat.le_of_ble_eq_true rfl, Nat.le_of_ble_eq_true rfl⟩) rfl hl.1 rfl (Nat.le_of_ble_eq_true rfl) dL_undo_3 ⟨Nat.le_of_ble_eq_true rfl, Nat.le_of_ble_eq_true rfl⟩ (fun _ => Nat.le_of_ble_eq_true rfl) (fun _ => rfl) (fun u q9 ce9 H locs hp hG hq9 hv9 hcl9 => ?_)
  refine g_catch (E := "java/lang/IllegalStateException") (st := 0) (en := 8) (hpc := 11) (ct := 13) (suf' := []) S C [] htab (List.mem_of_getElem? (l := exC) (i := 2) rfl) (fun _ h => absurd h List.not_mem_nil) ⟨by decide, by decide⟩ (by decide) (List.mem_of_getElem? (i := 1) rfl) hq9 hv9 hcl9 ?_
  refine lv_astore_n (lv' := [(2, .ref q9), (0, .ref (ad 0)), (1, .ref ob)]) S.1 S.2.1 dL_undo_11 rfl hl (by decide) rfl (fun ls hl => ?_)
  refine g_iconst S dL_undo_12 ?_
  have hG : gW K A s.heap [gRLC K ad, gHisC K (ad 5) (ad 22) nx sz, gArrL K 1 ob OB] _ _ := hG
  exact g_iretH S hr hlk hQ dL_undo_13 (Nat.le_of_ble_eq_true rfl) (Nat.le_of_ble_eq_true rfl) (() : Unit) rfl hG

set_option maxHeartbeats 1000000 in
set_option maxRecDepth 100000 in
theorem c_L_writePath (l : Launch) (K : KC) (ad : Nat → Nat) (ou : Int) (mi : Int) (bo : Int) (ln : Int) (LF : Int → Int) (sn : Int) (SF : Int → Int) (N : Int → Int) (n : Int) (F : Int → Int) (pv : PV) (ps : Nat) (pr : RU) (pX : Int → Int) (y : Int) (ob : Nat) (OB : Int → Int) (hS : ScOk N ou mi bo ln LF sn SF) (hN : NOk0 N) (hv : -2147483648 ≤ y ∧ y < 2147483648) (hs : 0 ≤ y ∧ y < N 4) : mH l yL_writePath wsL_writePath 6 142 K [.ref (ad 0), .int (iI y), .ref ob] [gRLC K ad, gBuf K (ad 2) (ad 13) n F, gPthV K (ad 8) (ad 27) (ad 35) (ad 28) (ad 29) (ad 30) (ad 31) (ad 32) (ad 33) (ad 34) pv, gRayU K (ad 35) (ad 36) (ad 37) (ad 38) (ad 39) ps pr pX, gScn K (ad 3) (ad 14) (ad 15) (ad 16) (ad 17) ou mi bo ln LF sn SF, gArrL K 1 ob OB] (fun (v : Value) (u : Int × (Int → Int) × PV × RU × (Int → Int)) => (v = .int (iI 0)) ∧ (OutI u.2.1 u.1 (pthT N y)) ∧ (0 ≤ u.1 ∧ u.1 ≤ 390) ∧ (PthR N (sP N y) (sY N y) (sD N y) u.2.2.1)) (fun (u : Int × (Int → Int) × PV × RU × (Int → Int)) => [gRLC K ad, gBuf K (ad 2) (ad 13) u.1 u.2.1, gPthV K (ad 8) (ad 27) (ad 35) (ad 28) (ad 29) (ad 30) (ad 31) (ad 32) (ad 33) (ad 34) u.2.2.1, gRayU K (ad 35) (ad 36) (ad 37) (ad 38) (ad 39) (ad 3) u.2.2.2.1 u.2.2.2.2, gScn K (ad 3) (ad 14) (ad 15) (ad 16) (ad 17) ou mi bo ln LF sn SF, gArrL K 1 ob (upI OB 0 (iI u.1).toInt)]) 0 0 := by
  refine mH_of cL_writePath 4 (by decide) rfl (Nat.le_of_ble_eq_true rfl) ?_
  intro p e s m below meth c A ls Q S C hG hl hr hlk hin htab hQ
  have S : CallFix p m c cL_writePath 4 s ([.ref (ad 0), .int (iI y), .ref ob] : List Value).toArray wsL_writePath RL := S
  have hl : lv_has ls 4 [(0, .ref (ad 0)), (1, .int (iI y)), (2, .ref ob)] := hl
  have hG : gW K A s.heap [gRLC K ad, gBuf K (ad 2) (ad 13) n F, gPthV K (ad 8) (ad 27) (ad 35) (ad 28) (ad 29) (ad 30) (ad 31) (ad 32) (ad 33) (ad 34) pv, gRayU K (ad 35) (ad 36) (ad 37) (ad 38) (ad 39) ps pr pX, gScn K (ad 3) (ad 14) (ad 15) (ad 16) (ad 17) ou mi bo ln LF sn SF, gArrL K 1 ob OB] s.heap [] := hG
  refine lv_aload_n S.1 S.2.1 dL_writePath_0 rfl (lv_at hl 2 rfl) ?_
  refine g_iconst S dL_writePath_1 ?_
  refine lv_aload_n S.1 S.2.1 dL_writePath_2 rfl (lv_at hl 0 rfl) ?_
  refine lv_iload_n S.1 S.2.1 dL_writePath_3 rfl (lv_at hl 1 rfl) ?_
  refine g_invV (As := [.int (iI y)]) (rest := [.int (iI 0), .ref ob]) (gs' := (fun u : Int × (Int → Int) × PV × RU × (Int → Int) => [gRLC K ad, gBuf K (ad 2) (ad 13) u.1 u.2.1, gPthV K (ad 8) (ad 27) (ad 35) (ad 28) (ad 29) (ad 30) (ad 31) (ad 32) (ad 33) (ad 34) u.2.2.1, gRayU K (ad 35) (ad 36) (ad 37) (ad 38) (ad 39) (ad 3) u.2.2.2.1 u.2.2.2.2, gScn K (ad 3) (ad 14) (ad 15) (ad 16) (ad 17) ou mi bo ln LF sn SF, gArrL K 1 ob OB])) S C hG [0, 1, 2, 3, 4] (c_X8_writePath l K ad ou mi bo ln LF sn SF N n F pv ps pr pX y hS hN hv hs) rfl rfl 0 rfl rfl (cwV 1 S.2.2.2.2 gL_writePath_X8_writePath rfl rfl rfl (by decide +kernel) ⟨Nat.le_of_ble_eq_true rfl, Nat.le_of_ble_eq_true rfl⟩) rfl hl.1 rfl (Nat.le_of_ble_eq_true rfl) dL_writePath_4 ⟨Nat.le_of_ble_eq_true rfl, Nat.le_of_ble_eq_true rfl⟩ (fun _ => Nat.le_of_ble_eq_true rfl) (fun _ => rfl) (fun v u H locs hp hG => ?_)
  obtain ⟨n2_4, F2_4, pv2_4, pr2_4, pX2_4⟩ := u
  obtain ⟨rfl, ho_4, hn_4, hp_4⟩ := hp
  have ho_4 : OutI F2_4 n2_4 (pthT N y) := ho_4
  have hn_4 : 0 ≤ n2_4 ∧ n2_4 ≤ 390 := hn_4
  have hp_4 : PthR N (sP N y) (sY N y) (sD N y) pv2_4 := hp_4
  have hG : gW K A s.heap [gRLC K ad, gBuf K (ad 2) (ad 13) n2_4 F2_4, gPthV K (ad 8) (ad 27) (ad 35) (ad 28) (ad 29) (ad 30) (ad 31) (ad 32) (ad 33) (ad 34) pv2_4, gRayU K (ad 35) (ad 36) (ad 37) (ad 38) (ad 39) (ad 3) pr2_4 pX2_4, gScn K (ad 3) (ad 14) (ad 15) (ad 16) (ad 17) ou mi bo ln LF sn SF, gArrL K 1 ob OB] _ _ := hG
  refine g_i2lr S dL_writePath_7 ?_
  refine g_last (n := 1) (gs' := [gRLC K ad, gBuf K (ad 2) (ad 13) n2_4 F2_4, gPthV K (ad 8) (ad 27) (ad 35) (ad 28) (ad 29) (ad 30) (ad 31) (ad 32) (ad 33) (ad 34) pv2_4, gRayU K (ad 35) (ad 36) (ad 37) (ad 38) (ad 39) (ad 3) pr2_4 pX2_4, gScn K (ad 3) (ad 14) (ad 15) (ad 16) (ad 17) ou mi bo ln LF sn SF, gArrL K 1 ob (upI OB 0 ((iI n2_4).toInt))]) S C hG 22 rfl (by decide) (by decide) (by decide) rfl dL_writePath_8 (fun H locs hG => ?_)
  refine lv_goto (tgt := 15) S.1 S.2.1 dL_writePath_9 (by decide) ?_
  refine g_iconst S dL_writePath_15 ?_
  have hG : gW K A s.heap [gRLC K ad, gBuf K (ad 2) (ad 13) n2_4 F2_4, gPthV K (ad 8) (ad 27) (ad 35) (ad 28) (ad 29) (ad 30) (ad 31) (ad 32) (ad 33) (ad 34) pv2_4, gRayU K (ad 35) (ad 36) (ad 37) (ad 38) (ad 39) (ad 3) pr2_4 pX2_4, gScn K (ad 3) (ad 14) (ad 15) (ad 16) (ad 17) ou mi bo ln LF sn SF, gArrL K 1 ob (upI OB 0 (iI n2_4).toInt)] _ _ := hG
  exact g_iretH S hr hlk hQ dL_writePath_16 (Nat.le_of_ble_eq_true rfl) (Nat.le_of_ble_eq_true rfl) ((n2_4, F2_4, pv2_4, pr2_4, pX2_4) : Int × (Int → Int) × PV × RU × (Int → Int)) ⟨rfl, ho_4, hn_4, hp_4⟩ hG

set_option maxHeartbeats 1000000 in
set_option maxRecDepth 100000 in
theorem x1_L_writePath (l : Launch) (K : KC) (ad : Nat → Nat) (ou : Int) (mi : Int) (bo : Int) (ln : Int) (LF : Int → Int) (sn : Int) (SF : Int → Int) (N : Int → Int) (y : Int) (ob : Nat) (OB : Int → Int) (hS : ScOk N ou mi bo ln LF sn SF) (hN : NOk0 N) (hv : -2147483648 ≤ y ∧ y < 2147483648) (hs : ¬ (0 ≤ y ∧ y < N 4)) (hst : l.stackTraces = false) : mH l yL_writePath wsL_writePath 8 126 K [.ref (ad 0), .int (iI y), .ref ob] [gRLC K ad, gScn K (ad 3) (ad 14) (ad 15) (ad 16) (ad 17) ou mi bo ln LF sn SF, gArrL K 1 ob OB] (fun (v : Value) (u : Unit) => (v = .int (iI 1))) (fun (u : Unit) => [gRLC K ad, gScn K (ad 3) (ad 14) (ad 15) (ad 16) (ad 17) ou mi bo ln LF sn SF, gArrL K 1 ob OB]) 1 6 := by
  refine mH_of cL_writePath 4 (by decide) rfl (Nat.le_of_ble_eq_true rfl) ?_
  intro p e s m below meth c A ls Q S C hG hl hr hlk hin htab hQ
  have S : CallFix p m c cL_writePath 4 s ([.ref (ad 0), .int (iI y), .ref ob] : List Value).toArray wsL_writePath RL := S
  have hl : lv_has ls 4 [(0, .ref (ad 0)), (1, .int (iI y)), (2, .ref ob)] := hl
  have hG : gW K A s.heap [gRLC K ad, gScn K (ad 3) (ad 14) (ad 15) (ad 16) (ad 17) ou mi bo ln LF sn SF, gArrL K 1 ob OB] s.heap [] := hG
  refine lv_aload_n S.1 S.2.1 dL_writePath_0 rfl (lv_at hl 2 rfl) ?_
  refine g_iconst S dL_writePath_1 ?_
  refine lv_aload_n S.1 S.2.1 dL_writePath_2 rfl (lv_at hl 0 rfl) ?_
  refine lv_iload_n S.1 S.2.1 dL_writePath_3 rfl (lv_at hl 1 rfl) ?_
  refine g_xV (E := "java/lang/IndexOutOfBoundsException") (As := [.int (iI y)]) (rest := [.int (iI 0), .ref ob]) (gs' := (fun u : Unit => [gRLC K ad, gScn K (ad 3) (ad 14) (ad 15) (ad 16) (ad 17) ou mi bo ln LF sn SF, gArrL K 1 ob OB])) S C hG [0, 1] (x1_writePath l K ad ou mi bo ln LF sn SF N y hS hN hv hs hst) rfl rfl 0 rfl rfl (cwV 1 S.2.2.2.2 gL_writePath_X8_writePath rfl rfl rfl (by decide +kernel) ⟨Nat.le_of_ble_eq_true rfl, Nat.le_of_ble_eq_true rfl⟩) rfl hl.1 rfl (Nat.le_of_ble_eq_true rfl) dL_writePath_4 ⟨Nat.le_of_ble_eq_true rfl, Nat.le_of_ble_eq_true rfl⟩ (fun _ => Nat.le_of_ble_eq_true rfl) (fun _ => rfl) (fun u q9 ce9 H locs hp hG hq9 hv9 hcl9 => ?_)
  refine g_catch (E := "java/lang/IndexOutOfBoundsException") (st := 0) (en := 9) (hpc := 12) (ct := 29) (suf' := []) S C [] htab (List.mem_of_getElem? (l := exC) (i := 0) rfl) (fun _ h => absurd h List.not_mem_nil) ⟨by decide, by decide⟩ (by decide) (List.mem_of_getElem? (i := 1) rfl) hq9 hv9 hcl9 ?_
  refine lv_astore_n (lv' := [(3, .ref q9), (0, .ref (ad 0)), (1, .int (iI y)), (2, .ref ob)]) S.1 S.2.1 dL_writePath_12 rfl hl (by decide) rfl (fun ls hl => ?_)
  refine g_iconst S dL_writePath_13 ?_
  have hG : gW K A s.heap [gRLC K ad, gScn K (ad 3) (ad 14) (ad 15) (ad 16) (ad 17) ou mi bo ln LF sn SF, gArrL K 1 ob OB] _ _ := hG
  exact g_iretH S hr hlk hQ dL_writePath_14 (Nat.le_of_ble_eq_true rfl) (Nat.le_of_ble_eq_true rfl) (() : Unit) rfl hG

set_option maxHeartbeats 1000000 in
set_option maxRecDepth 100000 in
theorem c_L_outputByte (l : Launch) (K : KC) (ad : Nat → Nat) (n : Int) (F : Int → Int) (x : Int) (ob : Nat) (OB : Int → Int) (hx : -2147483648 ≤ x ∧ x < 2147483648) (h0 : 0 ≤ n ∧ n ≤ 400) (h1 : 0 ≤ x ∧ x < n) : mH l yL_outputByte wsL_outputByte 2 43 K [.ref (ad 0), .int (iI x), .ref ob] [gRLC K ad, gBuf K (ad 2) (ad 13) n F, gArrL K 1 ob OB] (fun (v : Value) (u : Unit) => (v = .int (iI 0))) (fun (u : Unit) => [gRLC K ad, gBuf K (ad 2) (ad 13) n F, gArrL K 1 ob (upI OB 0 (iI (F x % 256)).toInt)]) 0 0 := by
  refine mH_of cL_outputByte 4 (by decide) rfl (Nat.le_of_ble_eq_true rfl) ?_
  intro p e s m below meth c A ls Q S C hG hl hr hlk hin htab hQ
  have S : CallFix p m c cL_outputByte 4 s ([.ref (ad 0), .int (iI x), .ref ob] : List Value).toArray wsL_outputByte RL := S
  have hl : lv_has ls 4 [(0, .ref (ad 0)), (1, .int (iI x)), (2, .ref ob)] := hl
  have hG : gW K A s.heap [gRLC K ad, gBuf K (ad 2) (ad 13) n F, gArrL K 1 ob OB] s.heap [] := hG
  refine lv_aload_n S.1 S.2.1 dL_outputByte_0 rfl (lv_at hl 2 rfl) ?_
  refine g_iconst S dL_outputByte_1 ?_
  refine lv_aload_n S.1 S.2.1 dL_outputByte_2 rfl (lv_at hl 0 rfl) ?_
  refine lv_iload_n S.1 S.2.1 dL_outputByte_3 rfl (lv_at hl 1 rfl) ?_
  refine g_invV (As := [.int (iI x)]) (rest := [.int (iI 0), .ref ob]) (gs' := (fun u : Unit => [gRLC K ad, gBuf K (ad 2) (ad 13) n F, gArrL K 1 ob OB])) S C hG [0, 1] (c_X8_outputByte l K ad n F x hx h0 h1) rfl rfl 0 rfl rfl (cwV 1 S.2.2.2.2 gL_outputByte_X8_outputByte rfl rfl rfl (by decide +kernel) ⟨Nat.le_of_ble_eq_true rfl, Nat.le_of_ble_eq_true rfl⟩) rfl hl.1 rfl (Nat.le_of_ble_eq_true rfl) dL_outputByte_4 ⟨Nat.le_of_ble_eq_true rfl, Nat.le_of_ble_eq_true rfl⟩ (fun _ => Nat.le_of_ble_eq_true rfl) (fun _ => rfl) (fun v u H locs hp hG => ?_)
  subst hp
  refine g_i2lr S dL_outputByte_7 ?_
  refine g_last (n := 1) (gs' := [gRLC K ad, gBuf K (ad 2) (ad 13) n F, gArrL K 1 ob (upI OB 0 ((iI (F x % 256)).toInt))]) S C hG 3 rfl (by decide) (by decide) (by decide) rfl dL_outputByte_8 (fun H locs hG => ?_)
  refine lv_goto (tgt := 15) S.1 S.2.1 dL_outputByte_9 (by decide) ?_
  refine g_iconst S dL_outputByte_15 ?_
  have hG : gW K A s.heap [gRLC K ad, gBuf K (ad 2) (ad 13) n F, gArrL K 1 ob (upI OB 0 (iI (F x % 256)).toInt)] _ _ := hG
  exact g_iretH S hr hlk hQ dL_outputByte_16 (Nat.le_of_ble_eq_true rfl) (Nat.le_of_ble_eq_true rfl) (() : Unit) rfl hG

set_option maxHeartbeats 1000000 in
set_option maxRecDepth 100000 in
theorem x1_L_outputByte (l : Launch) (K : KC) (ad : Nat → Nat) (n : Int) (F : Int → Int) (x : Int) (ob : Nat) (OB : Int → Int) (hx : -2147483648 ≤ x ∧ x < 2147483648) (h0 : 0 ≤ n ∧ n ≤ 400) (h1 : ¬ (0 ≤ x ∧ x < n)) (hst : l.stackTraces = false) : mH l yL_outputByte wsL_outputByte 7 104 K [.ref (ad 0), .int (iI x), .ref ob] [gRLC K ad, gBuf K (ad 2) (ad 13) n F, gArrL K 1 ob OB] (fun (v : Value) (u : Unit) => (v = .int (iI 1))) (fun (u : Unit) => [gRLC K ad, gBuf K (ad 2) (ad 13) n F, gArrL K 1 ob OB]) 1 6 := by
  refine mH_of cL_outputByte 4 (by decide) rfl (Nat.le_of_ble_eq_true rfl) ?_
  intro p e s m below meth c A ls Q S C hG hl hr hlk hin htab hQ
  have S : CallFix p m c cL_outputByte 4 s ([.ref (ad 0), .int (iI x), .ref ob] : List Value).toArray wsL_outputByte RL := S
  have hl : lv_has ls 4 [(0, .ref (ad 0)), (1, .int (iI x)), (2, .ref ob)] := hl
  have hG : gW K A s.heap [gRLC K ad, gBuf K (ad 2) (ad 13) n F, gArrL K 1 ob OB] s.heap [] := hG
  refine lv_aload_n S.1 S.2.1 dL_outputByte_0 rfl (lv_at hl 2 rfl) ?_
  refine g_iconst S dL_outputByte_1 ?_
  refine lv_aload_n S.1 S.2.1 dL_outputByte_2 rfl (lv_at hl 0 rfl) ?_
  refine lv_iload_n S.1 S.2.1 dL_outputByte_3 rfl (lv_at hl 1 rfl) ?_
  refine g_xV (E := "java/util/NoSuchElementException") (As := [.int (iI x)]) (rest := [.int (iI 0), .ref ob]) (gs' := (fun u : Unit => [gRLC K ad, gBuf K (ad 2) (ad 13) n F, gArrL K 1 ob OB])) S C hG [0, 1] (x1_outputByte l K ad n F x hx h0 h1 hst) rfl rfl 0 rfl rfl (cwV 1 S.2.2.2.2 gL_outputByte_X8_outputByte rfl rfl rfl (by decide +kernel) ⟨Nat.le_of_ble_eq_true rfl, Nat.le_of_ble_eq_true rfl⟩) rfl hl.1 rfl (Nat.le_of_ble_eq_true rfl) dL_outputByte_4 ⟨Nat.le_of_ble_eq_true rfl, Nat.le_of_ble_eq_true rfl⟩ (fun _ => Nat.le_of_ble_eq_true rfl) (fun _ => rfl) (fun u q9 ce9 H locs hp hG hq9 hv9 hcl9 => ?_)
  refine g_catch (E := "java/util/NoSuchElementException") (st := 0) (en := 9) (hpc := 12) (ct := 148) (suf' := []) S C [] htab (List.mem_of_getElem? (l := exC) (i := 3) rfl) (fun _ h => absurd h List.not_mem_nil) ⟨by decide, by decide⟩ (by decide) (List.mem_of_getElem? (i := 1) rfl) hq9 hv9 hcl9 ?_
  refine lv_astore_n (lv' := [(3, .ref q9), (0, .ref (ad 0)), (1, .int (iI x)), (2, .ref ob)]) S.1 S.2.1 dL_outputByte_12 rfl hl (by decide) rfl (fun ls hl => ?_)
  refine g_iconst S dL_outputByte_13 ?_
  have hG : gW K A s.heap [gRLC K ad, gBuf K (ad 2) (ad 13) n F, gArrL K 1 ob OB] _ _ := hG
  exact g_iretH S hr hlk hQ dL_outputByte_14 (Nat.le_of_ble_eq_true rfl) (Nat.le_of_ble_eq_true rfl) (() : Unit) rfl hG
