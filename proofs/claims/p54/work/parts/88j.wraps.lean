set_option maxHeartbeats 1000000 in
set_option maxRecDepth 100000 in
theorem c_L_added (l : Launch) (K : KC) (ad : Nat → Nat) (ou : Int) (mi : Int) (bo : Int) (ln : Int) (LF : Int → Int) (sn : Int) (SF : Int → Int) (N : Int → Int) (nx : Int) (sz : Int) (o : Nat → Option SR) (y : Int) (a1 : Int) (a2 : Int) (a3 : Int) (hS : ScOk N ou mi bo ln LF sn SF) (hN : NOk0 N) (hnx : 0 ≤ nx ∧ nx < 6) (hsz : 0 ≤ sz ∧ sz ≤ 6) (hv : -2147483648 ≤ y ∧ y < 2147483648) (hv1 : -2147483648 ≤ a1 ∧ a1 < 2147483648) (hv2 : -2147483648 ≤ a2 ∧ a2 < 2147483648) (hv3 : -2147483648 ≤ a3 ∧ a3 < 2147483648) (hy : 0 ≤ y ∧ y ≤ N 0) (c1 : 1000 ≤ a1 ∧ a1 ≤ 4000) (c2 : 1 ≤ a2 ∧ a2 ≤ 999) (c3 : 0 ≤ a3 ∧ a3 ≤ 99) (h7 : N 0 < 10) : mH l yL_added wsL_added 5 148 K [.ref (ad 0), .int (iI y), .int (iI a1), .int (iI a2), .int (iI a3)] [gRLC K ad, gScn K (ad 3) (ad 14) (ad 15) (ad 16) (ad 17) ou mi bo ln LF sn SF, gHisC K (ad 5) (ad 22) nx sz, gQS K (ad 22) 6 (oP o), gSOs K o (List.range 6)] (fun (v : Value) (u : SR × (Int → Int)) => (v = .int (iI (N 0 + 1))) ∧ (ScR N u.1) ∧ (ScOk (insLN N y a1 a2 a3) ou mi bo (ln + 1) u.2 sn SF)) (fun (u : SR × (Int → Int)) => [gRLC K ad, gScn K (ad 3) (ad 14) (ad 15) (ad 16) (ad 17) ou mi bo (ln + 1) u.2 sn SF, gHisC K (ad 5) (ad 22) ((nx + 1) % 6) (min (sz + 1) 6), gQS K (ad 22) 6 (oP (oup o nx.toNat u.1)), gSOs K (oup o nx.toNat u.1) (List.range 6)]) 5 129 := by
  refine mH_of cL_added 6 (by decide) rfl (Nat.le_of_ble_eq_true rfl) ?_
  intro p e s m below meth c A ls Q S C hG hl hr hlk hin htab hQ
  have S : CallFix p m c cL_added 6 s ([.ref (ad 0), .int (iI y), .int (iI a1), .int (iI a2), .int (iI a3)] : List Value).toArray wsL_added RL := S
  have hl : lv_has ls 6 [(0, .ref (ad 0)), (1, .int (iI y)), (2, .int (iI a1)), (3, .int (iI a2)), (4, .int (iI a3))] := hl
  have hG : gW K A s.heap [gRLC K ad, gScn K (ad 3) (ad 14) (ad 15) (ad 16) (ad 17) ou mi bo ln LF sn SF, gHisC K (ad 5) (ad 22) nx sz, gQS K (ad 22) 6 (oP o), gSOs K o (List.range 6)] s.heap [] := hG
  refine lv_aload_n S.1 S.2.1 dL_added_0 rfl (lv_at hl 0 rfl) ?_
  refine lv_iload_n S.1 S.2.1 dL_added_1 rfl (lv_at hl 1 rfl) ?_
  refine lv_iload_n S.1 S.2.1 dL_added_2 rfl (lv_at hl 2 rfl) ?_
  refine lv_iload_n S.1 S.2.1 dL_added_3 rfl (lv_at hl 3 rfl) ?_
  refine lv_iload S.1 S.2.1 dL_added_4 (lv_at hl 4 rfl) ?_
  refine g_invV (As := [.int (iI y), .int (iI a1), .int (iI a2), .int (iI a3)]) (rest := []) (gs' := (fun u : SR × (Int → Int) => [gRLC K ad, gScn K (ad 3) (ad 14) (ad 15) (ad 16) (ad 17) ou mi bo (ln + 1) u.2 sn SF, gHisC K (ad 5) (ad 22) ((nx + 1) % 6) (min (sz + 1) 6), gQS K (ad 22) 6 (oP (oup o nx.toNat u.1)), gSOs K (oup o nx.toNat u.1) (List.range 6)])) S C hG [0, 1, 2, 3, 4] (c_X8_addLayer l K ad ou mi bo ln LF sn SF N nx sz o y a1 a2 a3 hS hN hnx hsz hv hv1 hv2 hv3 hy c1 c2 c3 h7) rfl rfl 0 rfl rfl (cwV 4 S.2.2.2.2 gL_added_X8_addLayer rfl rfl rfl (by decide +kernel) ⟨Nat.le_of_ble_eq_true rfl, Nat.le_of_ble_eq_true rfl⟩) rfl hl.1 rfl (Nat.le_of_ble_eq_true rfl) dL_added_6 ⟨Nat.le_of_ble_eq_true rfl, Nat.le_of_ble_eq_true rfl⟩ (fun _ => Nat.le_of_ble_eq_true rfl) (fun _ => rfl) (fun v u H locs hp hG => ?_)
  obtain ⟨u9_6, LF2_6⟩ := u
  obtain ⟨rfl, hu_6, hS2_6⟩ := hp
  have hu_6 : ScR N u9_6 := hu_6
  have hS2_6 : ScOk (insLN N y a1 a2 a3) ou mi bo (ln + 1) LF2_6 sn SF := hS2_6
  have hG : gW K A s.heap [gRLC K ad, gScn K (ad 3) (ad 14) (ad 15) (ad 16) (ad 17) ou mi bo (ln + 1) LF2_6 sn SF, gHisC K (ad 5) (ad 22) ((nx + 1) % 6) (min (sz + 1) 6), gQS K (ad 22) 6 (oP (oup o nx.toNat u9_6)), gSOs K (oup o nx.toNat u9_6) (List.range 6)] _ _ := hG
  have hG : gW K A s.heap [gRLC K ad, gScn K (ad 3) (ad 14) (ad 15) (ad 16) (ad 17) ou mi bo (ln + 1) LF2_6 sn SF, gHisC K (ad 5) (ad 22) ((nx + 1) % 6) (min (sz + 1) 6), gQS K (ad 22) 6 (oP (oup o nx.toNat u9_6)), gSOs K (oup o nx.toNat u9_6) (List.range 6)] _ _ := hG
  exact g_iretH S hr hlk hQ dL_added_9 (Nat.le_of_ble_eq_true rfl) (Nat.le_of_ble_eq_true rfl) ((u9_6, LF2_6) : SR × (Int → Int)) ⟨rfl, hu_6, hS2_6⟩ hG

set_option maxHeartbeats 1000000 in
set_option maxRecDepth 100000 in
theorem x3_L_added (l : Launch) (K : KC) (ad : Nat → Nat) (ou : Int) (mi : Int) (bo : Int) (ln : Int) (LF : Int → Int) (sn : Int) (SF : Int → Int) (N : Int → Int) (y : Int) (a1 : Int) (a2 : Int) (a3 : Int) (hS : ScOk N ou mi bo ln LF sn SF) (hN : NOk0 N) (hv : -2147483648 ≤ y ∧ y < 2147483648) (hv1 : -2147483648 ≤ a1 ∧ a1 < 2147483648) (hv2 : -2147483648 ≤ a2 ∧ a2 < 2147483648) (hv3 : -2147483648 ≤ a3 ∧ a3 < 2147483648) (hy : 0 ≤ y ∧ y ≤ N 0) (c1 : 1000 ≤ a1 ∧ a1 ≤ 4000) (c2 : 1 ≤ a2 ∧ a2 ≤ 999) (c3 : 0 ≤ a3 ∧ a3 ≤ 99) (h7 : ¬ N 0 < 10) (hst : l.stackTraces = false) : mH l yL_added wsL_added 7 106 K [.ref (ad 0), .int (iI y), .int (iI a1), .int (iI a2), .int (iI a3)] [gRLC K ad, gScn K (ad 3) (ad 14) (ad 15) (ad 16) (ad 17) ou mi bo ln LF sn SF] (fun (v : Value) (u : Unit) => (v = .int (iI (-9)))) (fun (u : Unit) => [gRLC K ad, gScn K (ad 3) (ad 14) (ad 15) (ad 16) (ad 17) ou mi bo ln LF sn SF]) 1 6 := by
  refine mH_of cL_added 6 (by decide) rfl (Nat.le_of_ble_eq_true rfl) ?_
  intro p e s m below meth c A ls Q S C hG hl hr hlk hin htab hQ
  have S : CallFix p m c cL_added 6 s ([.ref (ad 0), .int (iI y), .int (iI a1), .int (iI a2), .int (iI a3)] : List Value).toArray wsL_added RL := S
  have hl : lv_has ls 6 [(0, .ref (ad 0)), (1, .int (iI y)), (2, .int (iI a1)), (3, .int (iI a2)), (4, .int (iI a3))] := hl
  have hG : gW K A s.heap [gRLC K ad, gScn K (ad 3) (ad 14) (ad 15) (ad 16) (ad 17) ou mi bo ln LF sn SF] s.heap [] := hG
  refine lv_aload_n S.1 S.2.1 dL_added_0 rfl (lv_at hl 0 rfl) ?_
  refine lv_iload_n S.1 S.2.1 dL_added_1 rfl (lv_at hl 1 rfl) ?_
  refine lv_iload_n S.1 S.2.1 dL_added_2 rfl (lv_at hl 2 rfl) ?_
  refine lv_iload_n S.1 S.2.1 dL_added_3 rfl (lv_at hl 3 rfl) ?_
  refine lv_iload S.1 S.2.1 dL_added_4 (lv_at hl 4 rfl) ?_
  refine g_xV (E := "java/lang/IllegalStateException") (As := [.int (iI y), .int (iI a1), .int (iI a2), .int (iI a3)]) (rest := []) (gs' := (fun u : Unit => [gRLC K ad, gScn K (ad 3) (ad 14) (ad 15) (ad 16) (ad 17) ou mi bo ln LF sn SF])) S C hG [0, 1] (x3_addLayer l K ad ou mi bo ln LF sn SF N y a1 a2 a3 hS hN hv hv1 hv2 hv3 hy c1 c2 c3 h7 hst) rfl rfl 0 rfl rfl (cwV 4 S.2.2.2.2 gL_added_X8_addLayer rfl rfl rfl (by decide +kernel) ⟨Nat.le_of_ble_eq_true rfl, Nat.le_of_ble_eq_true rfl⟩) rfl hl.1 rfl (Nat.le_of_ble_eq_true rfl) dL_added_6 ⟨Nat.le_of_ble_eq_true rfl, Nat.le_of_ble_eq_true rfl⟩ (fun _ => Nat.le_of_ble_eq_true rfl) (fun _ => rfl) (fun u q9 ce9 H locs hp hG hq9 hv9 hcl9 => ?_)
  refine g_catch (E := "java/lang/IllegalStateException") (st := 0) (en := 9) (hpc := 10) (ct := 102) (suf' := []) S C [] htab (List.mem_of_getElem? (l := exC) (i := 2) rfl) (fun _ h => absurd h List.not_mem_nil) ⟨by decide, by decide⟩ (by decide) (List.mem_of_getElem? (i := 1) rfl) hq9 hv9 hcl9 ?_
  refine lv_astore (lv' := [(5, .ref q9), (0, .ref (ad 0)), (1, .int (iI y)), (2, .int (iI a1)), (3, .int (iI a2)), (4, .int (iI a3))]) S.1 S.2.1 dL_added_10 hl (by decide) rfl (fun ls hl => ?_)
  refine g_bipush S dL_added_12 (by decide) ?_
  have hG : gW K A s.heap [gRLC K ad, gScn K (ad 3) (ad 14) (ad 15) (ad 16) (ad 17) ou mi bo ln LF sn SF] _ _ := hG
  exact g_iretH S hr hlk hQ dL_added_14 (Nat.le_of_ble_eq_true rfl) (Nat.le_of_ble_eq_true rfl) (() : Unit) rfl hG

set_option maxHeartbeats 1000000 in
set_option maxRecDepth 100000 in
theorem c_L_removed (l : Launch) (K : KC) (ad : Nat → Nat) (ou : Int) (mi : Int) (bo : Int) (ln : Int) (LF : Int → Int) (sn : Int) (SF : Int → Int) (N : Int → Int) (nx : Int) (sz : Int) (o : Nat → Option SR) (y : Int) (hS : ScOk N ou mi bo ln LF sn SF) (hN : NOk0 N) (hnx : 0 ≤ nx ∧ nx < 6) (hsz : 0 ≤ sz ∧ sz ≤ 6) (hv : -2147483648 ≤ y ∧ y < 2147483648) (hy : 0 ≤ y ∧ y < N 0) (h7 : 1 < N 0) : mH l yL_removed wsL_removed 5 145 K [.ref (ad 0), .int (iI y)] [gRLC K ad, gScn K (ad 3) (ad 14) (ad 15) (ad 16) (ad 17) ou mi bo ln LF sn SF, gHisC K (ad 5) (ad 22) nx sz, gQS K (ad 22) 6 (oP o), gSOs K o (List.range 6)] (fun (v : Value) (u : SR × (Int → Int)) => (v = .int (iI (N 0 - 1))) ∧ (ScR N u.1) ∧ (ScOk (remLN N y) ou mi bo (ln - 1) u.2 sn SF)) (fun (u : SR × (Int → Int)) => [gRLC K ad, gScn K (ad 3) (ad 14) (ad 15) (ad 16) (ad 17) ou mi bo (ln - 1) u.2 sn SF, gHisC K (ad 5) (ad 22) ((nx + 1) % 6) (min (sz + 1) 6), gQS K (ad 22) 6 (oP (oup o nx.toNat u.1)), gSOs K (oup o nx.toNat u.1) (List.range 6)]) 5 129 := by
  refine mH_of cL_removed 3 (by decide) rfl (Nat.le_of_ble_eq_true rfl) ?_
  intro p e s m below meth c A ls Q S C hG hl hr hlk hin htab hQ
  have S : CallFix p m c cL_removed 3 s ([.ref (ad 0), .int (iI y)] : List Value).toArray wsL_removed RL := S
  have hl : lv_has ls 3 [(0, .ref (ad 0)), (1, .int (iI y))] := hl
  have hG : gW K A s.heap [gRLC K ad, gScn K (ad 3) (ad 14) (ad 15) (ad 16) (ad 17) ou mi bo ln LF sn SF, gHisC K (ad 5) (ad 22) nx sz, gQS K (ad 22) 6 (oP o), gSOs K o (List.range 6)] s.heap [] := hG
  refine lv_aload_n S.1 S.2.1 dL_removed_0 rfl (lv_at hl 0 rfl) ?_
  refine lv_iload_n S.1 S.2.1 dL_removed_1 rfl (lv_at hl 1 rfl) ?_
  refine g_invV (As := [.int (iI y)]) (rest := []) (gs' := (fun u : SR × (Int → Int) => [gRLC K ad, gScn K (ad 3) (ad 14) (ad 15) (ad 16) (ad 17) ou mi bo (ln - 1) u.2 sn SF, gHisC K (ad 5) (ad 22) ((nx + 1) % 6) (min (sz + 1) 6), gQS K (ad 22) 6 (oP (oup o nx.toNat u.1)), gSOs K (oup o nx.toNat u.1) (List.range 6)])) S C hG [0, 1, 2, 3, 4] (c_X8_removeLayer l K ad ou mi bo ln LF sn SF N nx sz o y hS hN hnx hsz hv hy h7) rfl rfl 0 rfl rfl (cwV 1 S.2.2.2.2 gL_removed_X8_removeLayer rfl rfl rfl (by decide +kernel) ⟨Nat.le_of_ble_eq_true rfl, Nat.le_of_ble_eq_true rfl⟩) rfl hl.1 rfl (Nat.le_of_ble_eq_true rfl) dL_removed_2 ⟨Nat.le_of_ble_eq_true rfl, Nat.le_of_ble_eq_true rfl⟩ (fun _ => Nat.le_of_ble_eq_true rfl) (fun _ => rfl) (fun v u H locs hp hG => ?_)
  obtain ⟨u9_2, LF2_2⟩ := u
  obtain ⟨rfl, hu_2, hS2_2⟩ := hp
  have hu_2 : ScR N u9_2 := hu_2
  have hS2_2 : ScOk (remLN N y) ou mi bo (ln - 1) LF2_2 sn SF := hS2_2
  have hG : gW K A s.heap [gRLC K ad, gScn K (ad 3) (ad 14) (ad 15) (ad 16) (ad 17) ou mi bo (ln - 1) LF2_2 sn SF, gHisC K (ad 5) (ad 22) ((nx + 1) % 6) (min (sz + 1) 6), gQS K (ad 22) 6 (oP (oup o nx.toNat u9_2)), gSOs K (oup o nx.toNat u9_2) (List.range 6)] _ _ := hG
  have hG : gW K A s.heap [gRLC K ad, gScn K (ad 3) (ad 14) (ad 15) (ad 16) (ad 17) ou mi bo (ln - 1) LF2_2 sn SF, gHisC K (ad 5) (ad 22) ((nx + 1) % 6) (min (sz + 1) 6), gQS K (ad 22) 6 (oP (oup o nx.toNat u9_2)), gSOs K (oup o nx.toNat u9_2) (List.range 6)] _ _ := hG
  exact g_iretH S hr hlk hQ dL_removed_5 (Nat.le_of_ble_eq_true rfl) (Nat.le_of_ble_eq_true rfl) ((u9_2, LF2_2) : SR × (Int → Int)) ⟨rfl, hu_2, hS2_2⟩ hG

set_option maxHeartbeats 1000000 in
set_option maxRecDepth 100000 in
theorem x2_L_removed (l : Launch) (K : KC) (ad : Nat → Nat) (ou : Int) (mi : Int) (bo : Int) (ln : Int) (LF : Int → Int) (sn : Int) (SF : Int → Int) (N : Int → Int) (y : Int) (hS : ScOk N ou mi bo ln LF sn SF) (hN : NOk0 N) (hv : -2147483648 ≤ y ∧ y < 2147483648) (hy : 0 ≤ y ∧ y < N 0) (h7 : ¬ 1 < N 0) (hst : l.stackTraces = false) : mH l yL_removed wsL_removed 7 103 K [.ref (ad 0), .int (iI y)] [gRLC K ad, gScn K (ad 3) (ad 14) (ad 15) (ad 16) (ad 17) ou mi bo ln LF sn SF] (fun (v : Value) (u : Unit) => (v = .int (iI (-9)))) (fun (u : Unit) => [gRLC K ad, gScn K (ad 3) (ad 14) (ad 15) (ad 16) (ad 17) ou mi bo ln LF sn SF]) 1 6 := by
  refine mH_of cL_removed 3 (by decide) rfl (Nat.le_of_ble_eq_true rfl) ?_
  intro p e s m below meth c A ls Q S C hG hl hr hlk hin htab hQ
  have S : CallFix p m c cL_removed 3 s ([.ref (ad 0), .int (iI y)] : List Value).toArray wsL_removed RL := S
  have hl : lv_has ls 3 [(0, .ref (ad 0)), (1, .int (iI y))] := hl
  have hG : gW K A s.heap [gRLC K ad, gScn K (ad 3) (ad 14) (ad 15) (ad 16) (ad 17) ou mi bo ln LF sn SF] s.heap [] := hG
  refine lv_aload_n S.1 S.2.1 dL_removed_0 rfl (lv_at hl 0 rfl) ?_
  refine lv_iload_n S.1 S.2.1 dL_removed_1 rfl (lv_at hl 1 rfl) ?_
  refine g_xV (E := "java/lang/IllegalStateException") (As := [.int (iI y)]) (rest := []) (gs' := (fun u : Unit => [gRLC K ad, gScn K (ad 3) (ad 14) (ad 15) (ad 16) (ad 17) ou mi bo ln LF sn SF])) S C hG [0, 1] (x2_removeLayer l K ad ou mi bo ln LF sn SF N y hS hN hv hy h7 hst) rfl rfl 0 rfl rfl (cwV 1 S.2.2.2.2 gL_removed_X8_removeLayer rfl rfl rfl (by decide +kernel) ⟨Nat.le_of_ble_eq_true rfl, Nat.le_of_ble_eq_true rfl⟩) rfl hl.1 rfl (Nat.le_of_ble_eq_true rfl) dL_removed_2 ⟨Nat.le_of_ble_eq_true rfl, Nat.le_of_ble_eq_true rfl⟩ (fun _ => Nat.le_of_ble_eq_true rfl) (fun _ => rfl) (fun u q9 ce9 H locs hp hG hq9 hv9 hcl9 => ?_)
  refine g_catch (E := "java/lang/IllegalStateException") (st := 0) (en := 5) (hpc := 6) (ct := 102) (suf' := []) S C [] htab (List.mem_of_getElem? (l := exC) (i := 2) rfl) (fun _ h => absurd h List.not_mem_nil) ⟨by decide, by decide⟩ (by decide) (List.mem_of_getElem? (i := 1) rfl) hq9 hv9 hcl9 ?_
  refine lv_astore_n (lv' := [(2, .ref q9), (0, .ref (ad 0)), (1, .int (iI y))]) S.1 S.2.1 dL_removed_6 rfl hl (by decide) rfl (fun ls hl => ?_)
  refine g_bipush S dL_removed_7 (by decide) ?_
  have hG : gW K A s.heap [gRLC K ad, gScn K (ad 3) (ad 14) (ad 15) (ad 16) (ad 17) ou mi bo ln LF sn SF] _ _ := hG
  exact g_iretH S hr hlk hQ dL_removed_9 (Nat.le_of_ble_eq_true rfl) (Nat.le_of_ble_eq_true rfl) (() : Unit) rfl hG

set_option maxHeartbeats 1000000 in
set_option maxRecDepth 100000 in
theorem c_L_shot (l : Launch) (K : KC) (ad : Nat → Nat) (ou : Int) (mi : Int) (bo : Int) (ln : Int) (LF : Int → Int) (sn : Int) (SF : Int → Int) (N : Int → Int) (nx : Int) (sz : Int) (o : Nat → Option SR) (y : Int) (x : Int) (z : Int) (hS : ScOk N ou mi bo ln LF sn SF) (hN : NOk0 N) (hnx : 0 ≤ nx ∧ nx < 6) (hsz : 0 ≤ sz ∧ sz ≤ 6) (hv : -2147483648 ≤ y ∧ y < 2147483648) (hx : x = 0 ∨ x = 1) (hz : -2147483648 ≤ z ∧ z < 2147483648) (hy : 0 ≤ y ∧ y < N 0) (h1 : 0 ≤ z ∧ z ≤ 3999 ∧ z < nX N y) (h7 : N 4 < 20) : mH l yL_shot wsL_shot 5 148 K [.ref (ad 0), .int (iI y), .int (iI x), .int (iI z)] [gRLC K ad, gScn K (ad 3) (ad 14) (ad 15) (ad 16) (ad 17) ou mi bo ln LF sn SF, gHisC K (ad 5) (ad 22) nx sz, gQS K (ad 22) 6 (oP o), gSOs K o (List.range 6)] (fun (v : Value) (u : SR × (Int → Int)) => (v = .int (iI (N 4))) ∧ (ScR N u.1) ∧ (ScOk (addSN N y x z) ou mi bo ln LF (sn + 1) u.2)) (fun (u : SR × (Int → Int)) => [gRLC K ad, gScn K (ad 3) (ad 14) (ad 15) (ad 16) (ad 17) ou mi bo ln LF (sn + 1) u.2, gHisC K (ad 5) (ad 22) ((nx + 1) % 6) (min (sz + 1) 6), gQS K (ad 22) 6 (oP (oup o nx.toNat u.1)), gSOs K (oup o nx.toNat u.1) (List.range 6)]) 5 129 := by
  refine mH_of cL_shot 5 (by decide) rfl (Nat.le_of_ble_eq_true rfl) ?_
  intro p e s m below meth c A ls Q S C hG hl hr hlk hin htab hQ
  have S : CallFix p m c cL_shot 5 s ([.ref (ad 0), .int (iI y), .int (iI x), .int (iI z)] : List Value).toArray wsL_shot RL := S
  have hl : lv_has ls 5 [(0, .ref (ad 0)), (1, .int (iI y)), (2, .int (iI x)), (3, .int (iI z))] := hl
  have hG : gW K A s.heap [gRLC K ad, gScn K (ad 3) (ad 14) (ad 15) (ad 16) (ad 17) ou mi bo ln LF sn SF, gHisC K (ad 5) (ad 22) nx sz, gQS K (ad 22) 6 (oP o), gSOs K o (List.range 6)] s.heap [] := hG
  refine lv_aload_n S.1 S.2.1 dL_shot_0 rfl (lv_at hl 0 rfl) ?_
  refine lv_iload_n S.1 S.2.1 dL_shot_1 rfl (lv_at hl 1 rfl) ?_
  refine lv_iload_n S.1 S.2.1 dL_shot_2 rfl (lv_at hl 2 rfl) ?_
  refine lv_iload_n S.1 S.2.1 dL_shot_3 rfl (lv_at hl 3 rfl) ?_
  refine g_invV (As := [.int (iI y), .int (iI x), .int (iI z)]) (rest := []) (gs' := (fun u : SR × (Int → Int) => [gRLC K ad, gScn K (ad 3) (ad 14) (ad 15) (ad 16) (ad 17) ou mi bo ln LF (sn + 1) u.2, gHisC K (ad 5) (ad 22) ((nx + 1) % 6) (min (sz + 1) 6), gQS K (ad 22) 6 (oP (oup o nx.toNat u.1)), gSOs K (oup o nx.toNat u.1) (List.range 6)])) S C hG [0, 1, 2, 3, 4] (c_X8_shoot l K ad ou mi bo ln LF sn SF N nx sz o y x z hS hN hnx hsz hv hx hz hy h1 h7) rfl rfl 0 rfl rfl (cwV 3 S.2.2.2.2 gL_shot_X8_shoot rfl rfl rfl (by decide +kernel) ⟨Nat.le_of_ble_eq_true rfl, Nat.le_of_ble_eq_true rfl⟩) rfl hl.1 rfl (Nat.le_of_ble_eq_true rfl) dL_shot_4 ⟨Nat.le_of_ble_eq_true rfl, Nat.le_of_ble_eq_true rfl⟩ (fun _ => Nat.le_of_ble_eq_true rfl) (fun _ => rfl) (fun v u H locs hp hG => ?_)
  obtain ⟨u9_4, SF2_4⟩ := u
  obtain ⟨rfl, hu_4, hS2_4⟩ := hp
  have hu_4 : ScR N u9_4 := hu_4
  have hS2_4 : ScOk (addSN N y x z) ou mi bo ln LF (sn + 1) SF2_4 := hS2_4
  have hG : gW K A s.heap [gRLC K ad, gScn K (ad 3) (ad 14) (ad 15) (ad 16) (ad 17) ou mi bo ln LF (sn + 1) SF2_4, gHisC K (ad 5) (ad 22) ((nx + 1) % 6) (min (sz + 1) 6), gQS K (ad 22) 6 (oP (oup o nx.toNat u9_4)), gSOs K (oup o nx.toNat u9_4) (List.range 6)] _ _ := hG
  have hG : gW K A s.heap [gRLC K ad, gScn K (ad 3) (ad 14) (ad 15) (ad 16) (ad 17) ou mi bo ln LF (sn + 1) SF2_4, gHisC K (ad 5) (ad 22) ((nx + 1) % 6) (min (sz + 1) 6), gQS K (ad 22) 6 (oP (oup o nx.toNat u9_4)), gSOs K (oup o nx.toNat u9_4) (List.range 6)] _ _ := hG
  exact g_iretH S hr hlk hQ dL_shot_7 (Nat.le_of_ble_eq_true rfl) (Nat.le_of_ble_eq_true rfl) ((u9_4, SF2_4) : SR × (Int → Int)) ⟨rfl, hu_4, hS2_4⟩ hG

set_option maxHeartbeats 1000000 in
set_option maxRecDepth 100000 in
theorem x2_L_shot (l : Launch) (K : KC) (ad : Nat → Nat) (ou : Int) (mi : Int) (bo : Int) (ln : Int) (LF : Int → Int) (sn : Int) (SF : Int → Int) (N : Int → Int) (y : Int) (x : Int) (z : Int) (hS : ScOk N ou mi bo ln LF sn SF) (hN : NOk0 N) (hv : -2147483648 ≤ y ∧ y < 2147483648) (hx : x = 0 ∨ x = 1) (hz : -2147483648 ≤ z ∧ z < 2147483648) (hy : 0 ≤ y ∧ y < N 0) (h1 : ¬ (0 ≤ z ∧ z ≤ 3999 ∧ z < nX N y)) (hst : l.stackTraces = false) : mH l yL_shot wsL_shot 8 128 K [.ref (ad 0), .int (iI y), .int (iI x), .int (iI z)] [gRLC K ad, gScn K (ad 3) (ad 14) (ad 15) (ad 16) (ad 17) ou mi bo ln LF sn SF] (fun (v : Value) (u : Unit) => (v = .int (iI (-9)))) (fun (u : Unit) => [gRLC K ad, gScn K (ad 3) (ad 14) (ad 15) (ad 16) (ad 17) ou mi bo ln LF sn SF]) 1 6 := by
  refine mH_of cL_shot 5 (by decide) rfl (Nat.le_of_ble_eq_true rfl) ?_
  intro p e s m below meth c A ls Q S C hG hl hr hlk hin htab hQ
  have S : CallFix p m c cL_shot 5 s ([.ref (ad 0), .int (iI y), .int (iI x), .int (iI z)] : List Value).toArray wsL_shot RL := S
  have hl : lv_has ls 5 [(0, .ref (ad 0)), (1, .int (iI y)), (2, .int (iI x)), (3, .int (iI z))] := hl
  have hG : gW K A s.heap [gRLC K ad, gScn K (ad 3) (ad 14) (ad 15) (ad 16) (ad 17) ou mi bo ln LF sn SF] s.heap [] := hG
  refine lv_aload_n S.1 S.2.1 dL_shot_0 rfl (lv_at hl 0 rfl) ?_
  refine lv_iload_n S.1 S.2.1 dL_shot_1 rfl (lv_at hl 1 rfl) ?_
  refine lv_iload_n S.1 S.2.1 dL_shot_2 rfl (lv_at hl 2 rfl) ?_
  refine lv_iload_n S.1 S.2.1 dL_shot_3 rfl (lv_at hl 3 rfl) ?_
  refine g_xV (E := "java/lang/IllegalArgumentException") (As := [.int (iI y), .int (iI x), .int (iI z)]) (rest := []) (gs' := (fun u : Unit => [gRLC K ad, gScn K (ad 3) (ad 14) (ad 15) (ad 16) (ad 17) ou mi bo ln LF sn SF])) S C hG [0, 1] (x2_shoot l K ad ou mi bo ln LF sn SF N y x z hS hN hv hx hz hy h1 hst) rfl rfl 0 rfl rfl (cwV 3 S.2.2.2.2 gL_shot_X8_shoot rfl rfl rfl (by decide +kernel) ⟨Nat.le_of_ble_eq_true rfl, Nat.le_of_ble_eq_true rfl⟩) rfl hl.1 rfl (Nat.le_of_ble_eq_true rfl) dL_shot_4 ⟨Nat.le_of_ble_eq_true rfl, Nat.le_of_ble_eq_true rfl⟩ (fun _ => Nat.le_of_ble_eq_true rfl) (fun _ => rfl) (fun u q9 ce9 H locs hp hG hq9 hv9 hcl9 => ?_)
  refine g_catch (E := "java/lang/IllegalArgumentException") (st := 0) (en := 7) (hpc := 8) (ct := 111) (suf' := [(0, 7, 13, 102)]) S C [] htab (List.mem_of_getElem? (l := exC) (i := 1) rfl) (fun _ h => absurd h List.not_mem_nil) ⟨by decide, by decide⟩ (by decide) (List.mem_of_getElem? (i := 1) rfl) hq9 hv9 hcl9 ?_
  refine lv_astore (lv' := [(4, .ref q9), (0, .ref (ad 0)), (1, .int (iI y)), (2, .int (iI x)), (3, .int (iI z))]) S.1 S.2.1 dL_shot_8 hl (by decide) rfl (fun ls hl => ?_)
  refine g_bipush S dL_shot_10 (by decide) ?_
  have hG : gW K A s.heap [gRLC K ad, gScn K (ad 3) (ad 14) (ad 15) (ad 16) (ad 17) ou mi bo ln LF sn SF] _ _ := hG
  exact g_iretH S hr hlk hQ dL_shot_12 (Nat.le_of_ble_eq_true rfl) (Nat.le_of_ble_eq_true rfl) (() : Unit) rfl hG

set_option maxHeartbeats 1000000 in
set_option maxRecDepth 100000 in
theorem x3_L_shot (l : Launch) (K : KC) (ad : Nat → Nat) (ou : Int) (mi : Int) (bo : Int) (ln : Int) (LF : Int → Int) (sn : Int) (SF : Int → Int) (N : Int → Int) (y : Int) (x : Int) (z : Int) (hS : ScOk N ou mi bo ln LF sn SF) (hN : NOk0 N) (hv : -2147483648 ≤ y ∧ y < 2147483648) (hx : x = 0 ∨ x = 1) (hz : -2147483648 ≤ z ∧ z < 2147483648) (hy : 0 ≤ y ∧ y < N 0) (h1 : 0 ≤ z ∧ z ≤ 3999 ∧ z < nX N y) (h7 : ¬ N 4 < 20) (hst : l.stackTraces = false) : mH l yL_shot wsL_shot 7 106 K [.ref (ad 0), .int (iI y), .int (iI x), .int (iI z)] [gRLC K ad, gScn K (ad 3) (ad 14) (ad 15) (ad 16) (ad 17) ou mi bo ln LF sn SF] (fun (v : Value) (u : Unit) => (v = .int (iI (-9)))) (fun (u : Unit) => [gRLC K ad, gScn K (ad 3) (ad 14) (ad 15) (ad 16) (ad 17) ou mi bo ln LF sn SF]) 1 6 := by
  refine mH_of cL_shot 5 (by decide) rfl (Nat.le_of_ble_eq_true rfl) ?_
  intro p e s m below meth c A ls Q S C hG hl hr hlk hin htab hQ
  have S : CallFix p m c cL_shot 5 s ([.ref (ad 0), .int (iI y), .int (iI x), .int (iI z)] : List Value).toArray wsL_shot RL := S
  have hl : lv_has ls 5 [(0, .ref (ad 0)), (1, .int (iI y)), (2, .int (iI x)), (3, .int (iI z))] := hl
  have hG : gW K A s.heap [gRLC K ad, gScn K (ad 3) (ad 14) (ad 15) (ad 16) (ad 17) ou mi bo ln LF sn SF] s.heap [] := hG
  refine lv_aload_n S.1 S.2.1 dL_shot_0 rfl (lv_at hl 0 rfl) ?_
  refine lv_iload_n S.1 S.2.1 dL_shot_1 rfl (lv_at hl 1 rfl) ?_
  refine lv_iload_n S.1 S.2.1 dL_shot_2 rfl (lv_at hl 2 rfl) ?_
  refine lv_iload_n S.1 S.2.1 dL_shot_3 rfl (lv_at hl 3 rfl) ?_
  refine g_xV (E := "java/lang/IllegalStateException") (As := [.int (iI y), .int (iI x), .int (iI z)]) (rest := []) (gs' := (fun u : Unit => [gRLC K ad, gScn K (ad 3) (ad 14) (ad 15) (ad 16) (ad 17) ou mi bo ln LF sn SF])) S C hG [0, 1] (x3_shoot l K ad ou mi bo ln LF sn SF N y x z hS hN hv hx hz hy h1 h7 hst) rfl rfl 0 rfl rfl (cwV 3 S.2.2.2.2 gL_shot_X8_shoot rfl rfl rfl (by decide +kernel) ⟨Nat.le_of_ble_eq_true rfl, Nat.le_of_ble_eq_true rfl⟩) rfl hl.1 rfl (Nat.le_of_ble_eq_true rfl) dL_shot_4 ⟨Nat.le_of_ble_eq_true rfl, Nat.le_of_ble_eq_true rfl⟩ (fun _ => Nat.le_of_ble_eq_true rfl) (fun _ => rfl) (fun u q9 ce9 H locs hp hG hq9 hv9 hcl9 => ?_)
  refine g_catch (E := "java/lang/IllegalStateException") (st := 0) (en := 7) (hpc := 13) (ct := 102) (suf' := []) S C [(0, 7, 8, 111)] htab (List.mem_of_getElem? (l := exC) (i := 2) rfl) (List.forall_mem_cons.mpr ⟨⟨by decide, "java/lang/IllegalArgumentException", (List.mem_of_getElem? (l := exT) (i := 0) rfl), by decide, (List.mem_of_getElem? (i := 1) rfl)⟩, fun _ h => absurd h List.not_mem_nil⟩) ⟨by decide, by decide⟩ (by decide) (List.mem_of_getElem? (i := 2) rfl) hq9 hv9 hcl9 ?_
  refine lv_astore (lv' := [(4, .ref q9), (0, .ref (ad 0)), (1, .int (iI y)), (2, .int (iI x)), (3, .int (iI z))]) S.1 S.2.1 dL_shot_13 hl (by decide) rfl (fun ls hl => ?_)
  refine g_bipush S dL_shot_15 (by decide) ?_
  have hG : gW K A s.heap [gRLC K ad, gScn K (ad 3) (ad 14) (ad 15) (ad 16) (ad 17) ou mi bo ln LF sn SF] _ _ := hG
  exact g_iretH S hr hlk hQ dL_shot_17 (Nat.le_of_ble_eq_true rfl) (Nat.le_of_ble_eq_true rfl) (() : Unit) rfl hG
