set_option maxHeartbeats 1000000 in
set_option maxRecDepth 100000 in
theorem c_X8_legsAcross (l : Launch) (K : KC) (ad : Nat → Nat) (ou : Int) (mi : Int) (bo : Int) (ln : Int) (LF : Int → Int) (sn : Int) (SF : Int → Int) (N : Int → Int) (pv : PV) (ps : Nat) (pr : RU) (pX : Int → Int) (y : Int) (hS : ScOk N ou mi bo ln LF sn SF) (hN : NOk0 N) (hv : -2147483648 ≤ y ∧ y < 2147483648) : mG l yX8_legsAcross wsX8_legsAcross 5 119 K [.ref (ad 0), .int (iI y)] [gRLC K ad, gPthV K (ad 8) (ad 27) (ad 35) (ad 28) (ad 29) (ad 30) (ad 31) (ad 32) (ad 33) (ad 34) pv, gRayU K (ad 35) (ad 36) (ad 37) (ad 38) (ad 39) ps pr pX, gScn K (ad 3) (ad 14) (ad 15) (ad 16) (ad 17) ou mi bo ln LF sn SF] (fun (v : Value) (u : PV × Nat × RU × (Int → Int)) => (v = .int (iI (lacN N y (N 4).toNat)))) (fun (u : PV × Nat × RU × (Int → Int)) => [gRLC K ad, gPthV K (ad 8) (ad 27) (ad 35) (ad 28) (ad 29) (ad 30) (ad 31) (ad 32) (ad 33) (ad 34) u.1, gRayU K (ad 35) (ad 36) (ad 37) (ad 38) (ad 39) u.2.1 u.2.2.1 u.2.2.2, gScn K (ad 3) (ad 14) (ad 15) (ad 16) (ad 17) ou mi bo ln LF sn SF]) 0 0 := by
  refine mG_of cX8_legsAcross 4 (by decide) rfl (Nat.le_of_ble_eq_true rfl) ?_
  intro p e s m below meth c A ls Q S C hG hl hr hlk hin hQ
  have S : CallFix p m c cX8_legsAcross 4 s ([.ref (ad 0), .int (iI y)] : List Value).toArray wsX8_legsAcross RX8 := S
  have iX80 : ∀ w ∈ wsX80, w ∈ wsX8_legsAcross := fun _ h => List.mem_cons_of_mem _ (List.mem_append_left _ (List.mem_append_left _ (List.mem_append_left _ (List.mem_append_left _ (List.mem_append_right _ (h))))))
  have iX50 : ∀ w ∈ wsX50, w ∈ wsX8_legsAcross := fun _ h => List.mem_cons_of_mem _ (List.mem_append_left _ (List.mem_append_left _ (List.mem_append_left _ (List.mem_append_right _ (h)))))
  have iX70 : ∀ w ∈ wsX70, w ∈ wsX8_legsAcross := fun _ h => List.mem_cons_of_mem _ (List.mem_append_left _ (List.mem_append_left _ (List.mem_append_right _ (h))))
  have iX30 : ∀ w ∈ wsX30, w ∈ wsX8_legsAcross := fun _ h => List.mem_cons_of_mem _ (List.mem_append_left _ (List.mem_append_right _ (h)))
  have iX40 : ∀ w ∈ wsX40, w ∈ wsX8_legsAcross := fun _ h => List.mem_cons_of_mem _ (List.mem_append_right _ (h))
  have hl : lv_has ls 4 [(0, .ref (ad 0)), (1, .int (iI y))] := hl
  have hG : gW K A s.heap [gRLC K ad, gPthV K (ad 8) (ad 27) (ad 35) (ad 28) (ad 29) (ad 30) (ad 31) (ad 32) (ad 33) (ad 34) pv, gRayU K (ad 35) (ad 36) (ad 37) (ad 38) (ad 39) ps pr pX, gScn K (ad 3) (ad 14) (ad 15) (ad 16) (ad 17) ou mi bo ln LF sn SF] s.heap [] := hG
  obtain ⟨e0, e1, e2, e3, e4, e5, e6⟩ := id hS
  have n0 := hN.1
  have n3 := hN.2.2.2.1
  refine g_iconst S dX8_legsAcross_0 ?_
  refine lv_istore_n (lv' := [(2, .int (iI 0)), (0, .ref (ad 0)), (1, .int (iI y))]) S.1 S.2.1 dX8_legsAcross_1 rfl hl (by decide) rfl (fun ls hl => ?_)
  refine g_iconst S dX8_legsAcross_2 ?_
  refine lv_istore_n (lv' := [(3, .int (iI 0)), (2, .int (iI 0)), (0, .ref (ad 0)), (1, .int (iI y))]) S.1 S.2.1 dX8_legsAcross_3 rfl hl (by decide) rfl (fun ls hl => ?_)
  have L4 : ∀ (fu : Nat) (k : Nat) (w : Int) (f : Int) (pv1 : PV) (ps1 : Nat) (pr1 : RU) (pX1 : Int → Int) (H : Heap) (locs : List Loc) (ls : Array Slot), ((N 4 - w).toNat) < fu → (w = (k : Int) ∧ w ≤ N 4) → (f = lacN N y k) → (0 ≤ f ∧ f ≤ 60 * w) → lv_has ls 4 [(0, .ref (ad 0)), (1, .int (iI y)), (2, .int (iI f)), (3, .int (iI w))] → gW K A s.heap [gRLC K ad, gPthV K (ad 8) (ad 27) (ad 35) (ad 28) (ad 29) (ad 30) (ad 31) (ad 32) (ad 33) (ad 34) pv1, gRayU K (ad 35) (ad 36) (ad 37) (ad 38) (ad 39) ps1 pr1 pX1, gScn K (ad 3) (ad 14) (ad 15) (ad 16) (ad 17) ou mi bo ln LF sn SF] H locs → W p l e { frames := 5, cells := 0, slots := 0, locals := 119 } s m ([.ref (ad 0), .int (iI y)] : List Value).toArray below meth c H locs 0 0 Q (F0 m 4 ls []) := by
    intro fu
    induction fu with
    | zero => intro k w f pv1 ps1 pr1 pX1 H locs ls hfu; exact absurd hfu (Nat.not_lt_zero _)
    | succ fu ih =>
      intro k w f pv1 ps1 pr1 pX1 H locs ls hfu hw hb hf hl hG
      refine lv_iload_n S.1 S.2.1 dX8_legsAcross_4 rfl (lv_at hl 3 rfl) ?_
      refine lv_aload_n S.1 S.2.1 dX8_legsAcross_5 rfl (lv_at hl 0 rfl) ?_
      refine g_get S C hG iX80 0 rfl rfl 2 (by decide) (List.mem_of_getElem? (i := 1) rfl) rfl dX8_legsAcross_6 ?_
      refine g_get S C hG iX50 15 rfl rfl 1 (by decide) (List.mem_of_getElem? (i := 2) rfl) rfl dX8_legsAcross_9 ?_
      refine g_get S C hG iX70 18 rfl rfl 1 (by decide) (List.mem_of_getElem? (i := 3) rfl) rfl dX8_legsAcross_12 ?_
      refine g_icmp_ge (tgt := 40) S dX8_legsAcross_15 (by decide) (by omega) (by omega) (fun q15 => ?_) (fun q15 => ?_)
      · skip
        refine lv_iload_n S.1 S.2.1 dX8_legsAcross_40 rfl (lv_at hl 2 rfl) ?_
        have hG : gW K A s.heap [gRLC K ad, gPthV K (ad 8) (ad 27) (ad 35) (ad 28) (ad 29) (ad 30) (ad 31) (ad 32) (ad 33) (ad 34) pv1, gRayU K (ad 35) (ad 36) (ad 37) (ad 38) (ad 39) ps1 pr1 pX1, gScn K (ad 3) (ad 14) (ad 15) (ad 16) (ad 17) ou mi bo ln LF sn SF] _ _ := hG
        exact g_iret S hr hlk hQ dX8_legsAcross_41 (Nat.le_of_ble_eq_true rfl) (Nat.le_of_ble_eq_true rfl) ((pv1, ps1, pr1, pX1) : PV × Nat × RU × (Int → Int)) (congrArg (fun z : Int => Value.int (iI z)) (by rw [hb, show (N 4).toNat = k by omega])) hG
      · skip
        refine lv_iload_n S.1 S.2.1 dX8_legsAcross_18 rfl (lv_at hl 2 rfl) ?_
        refine lv_aload_n S.1 S.2.1 dX8_legsAcross_19 rfl (lv_at hl 0 rfl) ?_
        refine lv_aload_n S.1 S.2.1 dX8_legsAcross_20 rfl (lv_at hl 0 rfl) ?_
        refine g_get S C hG iX80 0 rfl rfl 7 (by decide) (List.mem_of_getElem? (i := 4) rfl) rfl dX8_legsAcross_21 ?_
        refine lv_iload_n S.1 S.2.1 dX8_legsAcross_24 rfl (lv_at hl 3 rfl) ?_
        refine g_invV (As := [.ref (ad 8), .int (iI w)]) (rest := [.int (iI f)]) (gs' := (fun u : PV × RU × (Int → Int) => [gRLC K ad, gPthV K (ad 8) (ad 27) (ad 35) (ad 28) (ad 29) (ad 30) (ad 31) (ad 32) (ad 33) (ad 34) u.1, gRayU K (ad 35) (ad 36) (ad 37) (ad 38) (ad 39) (ad 3) u.2.1 u.2.2, gScn K (ad 3) (ad 14) (ad 15) (ad 16) (ad 17) ou mi bo ln LF sn SF])) S C hG [0, 1, 2, 3] (c_X8_pathOf l K ad ou mi bo ln LF sn SF N (ad 8) (ad 27) (ad 35) (ad 28) (ad 29) (ad 30) (ad 31) (ad 32) (ad 33) (ad 34) (ad 36) (ad 37) (ad 38) (ad 39) pv1 ps1 pr1 pX1 w hS hN ⟨by omega, by omega⟩) rfl rfl 0 rfl rfl (cwV 2 S.2.2.2.2 gX8_legsAcross_X8_pathOf rfl rfl rfl (by decide +kernel) ⟨Nat.le_of_ble_eq_true rfl, Nat.le_of_ble_eq_true rfl⟩) rfl hl.1 rfl (Nat.le_of_ble_eq_true rfl) dX8_legsAcross_25 ⟨Nat.le_of_ble_eq_true rfl, Nat.le_of_ble_eq_true rfl⟩ (fun _ => Nat.le_of_ble_eq_true rfl) (fun _ => rfl) (fun v u H locs hp hG => ?_)
        obtain ⟨pv2_25, pr2_25, pX2_25⟩ := u
        obtain ⟨rfl, hp_25⟩ := hp
        have hp_25 : PthR N (sP N w) (sY N w) (sD N w) pv2_25 := hp_25
        have hG : gW K A s.heap [gRLC K ad, gPthV K (ad 8) (ad 27) (ad 35) (ad 28) (ad 29) (ad 30) (ad 31) (ad 32) (ad 33) (ad 34) pv2_25, gRayU K (ad 35) (ad 36) (ad 37) (ad 38) (ad 39) (ad 3) pr2_25 pX2_25, gScn K (ad 3) (ad 14) (ad 15) (ad 16) (ad 17) ou mi bo ln LF sn SF] _ _ := hG
        have g4 := sho_bd hN (r := w) (by omega) (by omega)
        obtain ⟨b1, b2, b3, b4⟩ := hp_25.bd hN g4.2.2.1 g4.2.1
        refine lv_iload_n S.1 S.2.1 dX8_legsAcross_28 rfl (lv_at hl 1 rfl) ?_
        have hG : gW K A s.heap [gRLC K ad, gPth K (ad 8) (ad 27) (ad 35) pv2_25.1 pv2_25.2.1 (ad 28) (ad 29) (ad 30) (ad 31) (ad 32) (ad 33) (ad 34) pv2_25.2.2.1 pv2_25.2.2.2.1 pv2_25.2.2.2.2.1 pv2_25.2.2.2.2.2.1 pv2_25.2.2.2.2.2.2.1 pv2_25.2.2.2.2.2.2.2.1 pv2_25.2.2.2.2.2.2.2.2, gRayU K (ad 35) (ad 36) (ad 37) (ad 38) (ad 39) (ad 3) pr2_25 pX2_25, gScn K (ad 3) (ad 14) (ad 15) (ad 16) (ad 17) ou mi bo ln LF sn SF] _ _ := hG
        refine g_invV (As := [.int (iI y)]) (rest := [.int (iI f)]) (gs' := (fun u : Unit => [gRLC K ad, gPth K (ad 8) (ad 27) (ad 35) pv2_25.1 pv2_25.2.1 (ad 28) (ad 29) (ad 30) (ad 31) (ad 32) (ad 33) (ad 34) pv2_25.2.2.1 pv2_25.2.2.2.1 pv2_25.2.2.2.2.1 pv2_25.2.2.2.2.2.1 pv2_25.2.2.2.2.2.2.1 pv2_25.2.2.2.2.2.2.2.1 pv2_25.2.2.2.2.2.2.2.2, gRayU K (ad 35) (ad 36) (ad 37) (ad 38) (ad 39) (ad 3) pr2_25 pX2_25, gScn K (ad 3) (ad 14) (ad 15) (ad 16) (ad 17) ou mi bo ln LF sn SF])) S C hG [1] (c_X3_legsAcross l K (ad 8) (ad 27) (ad 35) pv2_25.1 pv2_25.2.1 (ad 28) (ad 29) (ad 30) (ad 31) (ad 32) (ad 33) (ad 34) pv2_25.2.2.1 pv2_25.2.2.2.1 pv2_25.2.2.2.2.1 pv2_25.2.2.2.2.2.1 pv2_25.2.2.2.2.2.2.1 pv2_25.2.2.2.2.2.2.2.1 pv2_25.2.2.2.2.2.2.2.2 y b1 hv (fun i a b => ⟨(b4 i a b).1.1, (b4 i a b).1.2.1⟩)) rfl rfl 0 rfl rfl (cwV 1 S.2.2.2.2 gX8_legsAcross_X3_legsAcross rfl rfl rfl (by decide +kernel) ⟨Nat.le_of_ble_eq_true rfl, Nat.le_of_ble_eq_true rfl⟩) rfl hl.1 rfl (Nat.le_of_ble_eq_true rfl) dX8_legsAcross_29 ⟨Nat.le_of_ble_eq_true rfl, Nat.le_of_ble_eq_true rfl⟩ (fun _ => Nat.le_of_ble_eq_true rfl) (fun _ => rfl) (fun v u H locs hp hG => ?_)
        subst hp
        refine g_top (w := .int (iI (lacS N y (k : Int)))) (congrArg (fun z : Int => Value.int (iI z)) ((by rw [← hw.1] <;> exact hp_25.lac y))) ?_
        have c8 := lacS_bd N y (k : Int)
        refine g_iadd S dX8_legsAcross_32 rfl ?_
        refine lv_istore_n (lv' := [(2, .int (iI (f + (lacS N y (k : Int))))), (0, .ref (ad 0)), (1, .int (iI y)), (3, .int (iI w))]) S.1 S.2.1 dX8_legsAcross_33 rfl hl (by decide) rfl (fun ls hl => ?_)
        refine lv_iinc (v := iI (w + 1)) (lv' := [(3, .int (iI (w + 1))), (2, .int (iI (f + (lacS N y (k : Int))))), (0, .ref (ad 0)), (1, .int (iI y))]) S.1 S.2.1 dX8_legsAcross_34 hl (k := 3) rfl (g_iinc rfl) (by decide) rfl (fun ls hl => ?_)
        refine lv_goto (tgt := 4) S.1 S.2.1 dX8_legsAcross_37 (by decide) ?_
        have hG : gW K A s.heap [gRLC K ad, gPthV K (ad 8) (ad 27) (ad 35) (ad 28) (ad 29) (ad 30) (ad 31) (ad 32) (ad 33) (ad 34) pv2_25, gRayU K (ad 35) (ad 36) (ad 37) (ad 38) (ad 39) (ad 3) pr2_25 pX2_25, gScn K (ad 3) (ad 14) (ad 15) (ad 16) (ad 17) ou mi bo ln LF sn SF] _ _ := hG
        exact ih (k + 1) (w + 1) (f + (lacS N y (k : Int))) pv2_25 (ad 3) pr2_25 pX2_25 _ _ _ (by omega) ⟨by omega, by omega⟩ (by simp only [lacN] <;> rw [← hb]) (by omega) (lv_sub hl [2, 3, 1, 0] rfl) hG
  exact L4 (Nat.succ ((N 4 - 0).toNat)) 0 0 0 pv ps pr pX _ _ _ (Nat.lt_succ_self _) ⟨rfl, by omega⟩ rfl (by omega) (lv_sub hl [2, 3, 1, 0] rfl) hG
set_option maxHeartbeats 1000000 in
set_option maxRecDepth 100000 in
theorem c_X8_legsIn (l : Launch) (K : KC) (ad : Nat → Nat) (ou : Int) (mi : Int) (bo : Int) (ln : Int) (LF : Int → Int) (sn : Int) (SF : Int → Int) (N : Int → Int) (pv : PV) (ps : Nat) (pr : RU) (pX : Int → Int) (y : Int) (hS : ScOk N ou mi bo ln LF sn SF) (hN : NOk0 N) (hv : -2147483648 ≤ y ∧ y < 2147483648) (hy : 0 ≤ y ∧ y < N 0) : mG l yX8_legsIn wsX8_legsIn 6 142 K [.ref (ad 0), .int (iI y)] [gRLC K ad, gPthV K (ad 8) (ad 27) (ad 35) (ad 28) (ad 29) (ad 30) (ad 31) (ad 32) (ad 33) (ad 34) pv, gRayU K (ad 35) (ad 36) (ad 37) (ad 38) (ad 39) ps pr pX, gScn K (ad 3) (ad 14) (ad 15) (ad 16) (ad 17) ou mi bo ln LF sn SF] (fun (v : Value) (u : PV × Nat × RU × (Int → Int)) => (v = .int (iI (lacN N y (N 4).toNat)))) (fun (u : PV × Nat × RU × (Int → Int)) => [gRLC K ad, gPthV K (ad 8) (ad 27) (ad 35) (ad 28) (ad 29) (ad 30) (ad 31) (ad 32) (ad 33) (ad 34) u.1, gRayU K (ad 35) (ad 36) (ad 37) (ad 38) (ad 39) u.2.1 u.2.2.1 u.2.2.2, gScn K (ad 3) (ad 14) (ad 15) (ad 16) (ad 17) ou mi bo ln LF sn SF]) 0 0 := by
  refine mG_of cX8_legsIn 2 (by decide) rfl (Nat.le_of_ble_eq_true rfl) ?_
  intro p e s m below meth c A ls Q S C hG hl hr hlk hin hQ
  have S : CallFix p m c cX8_legsIn 2 s ([.ref (ad 0), .int (iI y)] : List Value).toArray wsX8_legsIn RX8 := S
  have iX80 : ∀ w ∈ wsX80, w ∈ wsX8_legsIn := fun _ h => List.mem_cons_of_mem _ (List.mem_append_left _ (List.mem_append_left _ (List.mem_append_left _ (List.mem_append_left _ (List.mem_append_left _ (List.mem_append_right _ (h)))))))
  have iX50 : ∀ w ∈ wsX50, w ∈ wsX8_legsIn := fun _ h => List.mem_cons_of_mem _ (List.mem_append_left _ (List.mem_append_left _ (List.mem_append_left _ (List.mem_append_left _ (List.mem_append_right _ (h))))))
  have iX70 : ∀ w ∈ wsX70, w ∈ wsX8_legsIn := fun _ h => List.mem_cons_of_mem _ (List.mem_append_left _ (List.mem_append_left _ (List.mem_append_left _ (List.mem_append_right _ (h)))))
  have iX30 : ∀ w ∈ wsX30, w ∈ wsX8_legsIn := fun _ h => List.mem_cons_of_mem _ (List.mem_append_left _ (List.mem_append_left _ (List.mem_append_right _ (h))))
  have iX40 : ∀ w ∈ wsX40, w ∈ wsX8_legsIn := fun _ h => List.mem_cons_of_mem _ (List.mem_append_left _ (List.mem_append_right _ (h)))
  have hl : lv_has ls 2 [(0, .ref (ad 0)), (1, .int (iI y))] := hl
  have hG : gW K A s.heap [gRLC K ad, gPthV K (ad 8) (ad 27) (ad 35) (ad 28) (ad 29) (ad 30) (ad 31) (ad 32) (ad 33) (ad 34) pv, gRayU K (ad 35) (ad 36) (ad 37) (ad 38) (ad 39) ps pr pX, gScn K (ad 3) (ad 14) (ad 15) (ad 16) (ad 17) ou mi bo ln LF sn SF] s.heap [] := hG
  obtain ⟨e0, e1, e2, e3, e4, e5, e6⟩ := id hS
  have n0 := hN.1
  have n3 := hN.2.2.2.1
  refine lv_aload_n S.1 S.2.1 dX8_legsIn_0 rfl (lv_at hl 0 rfl) ?_
  refine lv_iload_n S.1 S.2.1 dX8_legsIn_1 rfl (lv_at hl 1 rfl) ?_
  refine g_invVv (As := [.int (iI y)]) (rest := []) (gs' := (fun u : Unit => [gRLC K ad, gPthV K (ad 8) (ad 27) (ad 35) (ad 28) (ad 29) (ad 30) (ad 31) (ad 32) (ad 33) (ad 34) pv, gRayU K (ad 35) (ad 36) (ad 37) (ad 38) (ad 39) ps pr pX, gScn K (ad 3) (ad 14) (ad 15) (ad 16) (ad 17) ou mi bo ln LF sn SF])) S C hG [0, 3] (c_X8_checkLayer l K ad ou mi bo ln LF sn SF N y hS hN hv hy) rfl rfl 0 rfl rfl (cwV 1 S.2.2.2.2 gX8_legsIn_X8_checkLayer rfl rfl rfl (by decide +kernel) ⟨Nat.le_of_ble_eq_true rfl, Nat.le_of_ble_eq_true rfl⟩) rfl hl.1 rfl (Nat.le_of_ble_eq_true rfl) dX8_legsIn_2 ⟨Nat.le_of_ble_eq_true rfl, Nat.le_of_ble_eq_true rfl⟩ (fun _ => Nat.le_of_ble_eq_true rfl) (fun _ => rfl) (fun u H locs hp hG => ?_)
  refine lv_aload_n S.1 S.2.1 dX8_legsIn_5 rfl (lv_at hl 0 rfl) ?_
  refine lv_iload_n S.1 S.2.1 dX8_legsIn_6 rfl (lv_at hl 1 rfl) ?_
  refine g_invV (As := [.int (iI y)]) (rest := []) (gs' := (fun u : PV × Nat × RU × (Int → Int) => [gRLC K ad, gPthV K (ad 8) (ad 27) (ad 35) (ad 28) (ad 29) (ad 30) (ad 31) (ad 32) (ad 33) (ad 34) u.1, gRayU K (ad 35) (ad 36) (ad 37) (ad 38) (ad 39) u.2.1 u.2.2.1 u.2.2.2, gScn K (ad 3) (ad 14) (ad 15) (ad 16) (ad 17) ou mi bo ln LF sn SF])) S C hG [0, 1, 2, 3] (c_X8_legsAcross l K ad ou mi bo ln LF sn SF N pv ps pr pX y hS hN hv) rfl rfl 0 rfl rfl (cwV 1 S.2.2.2.2 gX8_legsIn_X8_legsAcross rfl rfl rfl (by decide +kernel) ⟨Nat.le_of_ble_eq_true rfl, Nat.le_of_ble_eq_true rfl⟩) rfl hl.1 rfl (Nat.le_of_ble_eq_true rfl) dX8_legsIn_7 ⟨Nat.le_of_ble_eq_true rfl, Nat.le_of_ble_eq_true rfl⟩ (fun _ => Nat.le_of_ble_eq_true rfl) (fun _ => rfl) (fun v u H locs hp hG => ?_)
  obtain ⟨pv2_7, ps2_7, pr2_7, pX2_7⟩ := u
  subst hp
  have hG : gW K A s.heap [gRLC K ad, gPthV K (ad 8) (ad 27) (ad 35) (ad 28) (ad 29) (ad 30) (ad 31) (ad 32) (ad 33) (ad 34) pv2_7, gRayU K (ad 35) (ad 36) (ad 37) (ad 38) (ad 39) ps2_7 pr2_7 pX2_7, gScn K (ad 3) (ad 14) (ad 15) (ad 16) (ad 17) ou mi bo ln LF sn SF] _ _ := hG
  have hG : gW K A s.heap [gRLC K ad, gPthV K (ad 8) (ad 27) (ad 35) (ad 28) (ad 29) (ad 30) (ad 31) (ad 32) (ad 33) (ad 34) pv2_7, gRayU K (ad 35) (ad 36) (ad 37) (ad 38) (ad 39) ps2_7 pr2_7 pX2_7, gScn K (ad 3) (ad 14) (ad 15) (ad 16) (ad 17) ou mi bo ln LF sn SF] _ _ := hG
  exact g_iret S hr hlk hQ dX8_legsIn_10 (Nat.le_of_ble_eq_true rfl) (Nat.le_of_ble_eq_true rfl) ((pv2_7, ps2_7, pr2_7, pX2_7) : PV × Nat × RU × (Int → Int)) rfl hG
set_option maxHeartbeats 1000000 in
set_option maxRecDepth 100000 in
theorem c_X8_leg (l : Launch) (K : KC) (ad : Nat → Nat) (ou : Int) (mi : Int) (bo : Int) (ln : Int) (LF : Int → Int) (sn : Int) (SF : Int → Int) (N : Int → Int) (pv : PV) (ps : Nat) (pr : RU) (pX : Int → Int) (y : Int) (x : Int) (z : Int) (hS : ScOk N ou mi bo ln LF sn SF) (hN : NOk0 N) (hv : -2147483648 ≤ y ∧ y < 2147483648) (hs : 0 ≤ y ∧ y < N 4) (hx : -2147483648 ≤ x ∧ x < 2147483648) (hz : -2147483648 ≤ z ∧ z < 2147483648) (h1 : 0 ≤ x ∧ x < (gS N y : Int)) (h2 : 0 ≤ z ∧ z ≤ 6) : mG l yX8_leg wsX8_leg 5 119 K [.ref (ad 0), .int (iI y), .int (iI x), .int (iI z)] [gRLC K ad, gPthV K (ad 8) (ad 27) (ad 35) (ad 28) (ad 29) (ad 30) (ad 31) (ad 32) (ad 33) (ad 34) pv, gRayU K (ad 35) (ad 36) (ad 37) (ad 38) (ad 39) ps pr pX, gScn K (ad 3) (ad 14) (ad 15) (ad 16) (ad 17) ou mi bo ln LF sn SF] (fun (v : Value) (u : Int × PV × RU × (Int → Int)) => (v = .int (iI u.1)) ∧ (PthR N (sP N y) (sY N y) (sD N y) u.2.1) ∧ (u.1 = pick7 z (u.2.1.2.2.1 x) (u.2.1.2.2.2.1 x) (u.2.1.2.2.2.2.1 x) (u.2.1.2.2.2.2.2.1 x) (u.2.1.2.2.2.2.2.2.1 x) (u.2.1.2.2.2.2.2.2.2.1 x) (u.2.1.2.2.2.2.2.2.2.2 x))) (fun (u : Int × PV × RU × (Int → Int)) => [gRLC K ad, gPthV K (ad 8) (ad 27) (ad 35) (ad 28) (ad 29) (ad 30) (ad 31) (ad 32) (ad 33) (ad 34) u.2.1, gRayU K (ad 35) (ad 36) (ad 37) (ad 38) (ad 39) (ad 3) u.2.2.1 u.2.2.2, gScn K (ad 3) (ad 14) (ad 15) (ad 16) (ad 17) ou mi bo ln LF sn SF]) 0 0 := by
  refine mG_of cX8_leg 5 (by decide) rfl (Nat.le_of_ble_eq_true rfl) ?_
  intro p e s m below meth c A ls Q S C hG hl hr hlk hin hQ
  have S : CallFix p m c cX8_leg 5 s ([.ref (ad 0), .int (iI y), .int (iI x), .int (iI z)] : List Value).toArray wsX8_leg RX8 := S
  have iX80 : ∀ w ∈ wsX80, w ∈ wsX8_leg := fun _ h => List.mem_cons_of_mem _ (List.mem_append_left _ (List.mem_append_left _ (List.mem_append_left _ (List.mem_append_left _ (List.mem_append_left _ (List.mem_append_left _ (List.mem_append_right _ (h))))))))
  have iX30 : ∀ w ∈ wsX30, w ∈ wsX8_leg := fun _ h => List.mem_cons_of_mem _ (List.mem_append_left _ (List.mem_append_left _ (List.mem_append_left _ (List.mem_append_left _ (List.mem_append_left _ (List.mem_append_right _ (h)))))))
  have iX50 : ∀ w ∈ wsX50, w ∈ wsX8_leg := fun _ h => List.mem_cons_of_mem _ (List.mem_append_left _ (List.mem_append_left _ (List.mem_append_left _ (List.mem_append_left _ (List.mem_append_right _ (h))))))
  have iX70 : ∀ w ∈ wsX70, w ∈ wsX8_leg := fun _ h => List.mem_cons_of_mem _ (List.mem_append_left _ (List.mem_append_left _ (List.mem_append_left _ (List.mem_append_right _ (h)))))
  have iX40 : ∀ w ∈ wsX40, w ∈ wsX8_leg := fun _ h => List.mem_cons_of_mem _ (List.mem_append_left _ (List.mem_append_left _ (List.mem_append_right _ (h))))
  have hl : lv_has ls 5 [(0, .ref (ad 0)), (1, .int (iI y)), (2, .int (iI x)), (3, .int (iI z))] := hl
  have hG : gW K A s.heap [gRLC K ad, gPthV K (ad 8) (ad 27) (ad 35) (ad 28) (ad 29) (ad 30) (ad 31) (ad 32) (ad 33) (ad 34) pv, gRayU K (ad 35) (ad 36) (ad 37) (ad 38) (ad 39) ps pr pX, gScn K (ad 3) (ad 14) (ad 15) (ad 16) (ad 17) ou mi bo ln LF sn SF] s.heap [] := hG
  obtain ⟨e0, e1, e2, e3, e4, e5, e6⟩ := id hS
  have n0 := hN.1
  have n3 := hN.2.2.2.1
  refine lv_aload_n S.1 S.2.1 dX8_leg_0 rfl (lv_at hl 0 rfl) ?_
  refine lv_iload_n S.1 S.2.1 dX8_leg_1 rfl (lv_at hl 1 rfl) ?_
  refine g_invVv (As := [.int (iI y)]) (rest := []) (gs' := (fun u : Unit => [gRLC K ad, gPthV K (ad 8) (ad 27) (ad 35) (ad 28) (ad 29) (ad 30) (ad 31) (ad 32) (ad 33) (ad 34) pv, gRayU K (ad 35) (ad 36) (ad 37) (ad 38) (ad 39) ps pr pX, gScn K (ad 3) (ad 14) (ad 15) (ad 16) (ad 17) ou mi bo ln LF sn SF])) S C hG [0, 3] (c_X8_checkShot l K ad ou mi bo ln LF sn SF N y hS hN hv hs) rfl rfl 0 rfl rfl (cwV 1 S.2.2.2.2 gX8_leg_X8_checkShot rfl rfl rfl (by decide +kernel) ⟨Nat.le_of_ble_eq_true rfl, Nat.le_of_ble_eq_true rfl⟩) rfl hl.1 rfl (Nat.le_of_ble_eq_true rfl) dX8_leg_2 ⟨Nat.le_of_ble_eq_true rfl, Nat.le_of_ble_eq_true rfl⟩ (fun _ => Nat.le_of_ble_eq_true rfl) (fun _ => rfl) (fun u H locs hp hG => ?_)
  refine lv_aload_n S.1 S.2.1 dX8_leg_5 rfl (lv_at hl 0 rfl) ?_
  refine lv_aload_n S.1 S.2.1 dX8_leg_6 rfl (lv_at hl 0 rfl) ?_
  refine g_get S C hG iX80 0 rfl rfl 7 (by decide) (List.mem_of_getElem? (i := 3) rfl) rfl dX8_leg_7 ?_
  refine lv_iload_n S.1 S.2.1 dX8_leg_10 rfl (lv_at hl 1 rfl) ?_
  refine g_invV (As := [.ref (ad 8), .int (iI y)]) (rest := []) (gs' := (fun u : PV × RU × (Int → Int) => [gRLC K ad, gPthV K (ad 8) (ad 27) (ad 35) (ad 28) (ad 29) (ad 30) (ad 31) (ad 32) (ad 33) (ad 34) u.1, gRayU K (ad 35) (ad 36) (ad 37) (ad 38) (ad 39) (ad 3) u.2.1 u.2.2, gScn K (ad 3) (ad 14) (ad 15) (ad 16) (ad 17) ou mi bo ln LF sn SF])) S C hG [0, 1, 2, 3] (c_X8_pathOf l K ad ou mi bo ln LF sn SF N (ad 8) (ad 27) (ad 35) (ad 28) (ad 29) (ad 30) (ad 31) (ad 32) (ad 33) (ad 34) (ad 36) (ad 37) (ad 38) (ad 39) pv ps pr pX y hS hN hs) rfl rfl 0 rfl rfl (cwV 2 S.2.2.2.2 gX8_leg_X8_pathOf rfl rfl rfl (by decide +kernel) ⟨Nat.le_of_ble_eq_true rfl, Nat.le_of_ble_eq_true rfl⟩) rfl hl.1 rfl (Nat.le_of_ble_eq_true rfl) dX8_leg_11 ⟨Nat.le_of_ble_eq_true rfl, Nat.le_of_ble_eq_true rfl⟩ (fun _ => Nat.le_of_ble_eq_true rfl) (fun _ => rfl) (fun v u H locs hp hG => ?_)
  obtain ⟨pv2_11, pr2_11, pX2_11⟩ := u
  obtain ⟨rfl, hp_11⟩ := hp
  have hp_11 : PthR N (sP N y) (sY N y) (sD N y) pv2_11 := hp_11
  have hG : gW K A s.heap [gRLC K ad, gPthV K (ad 8) (ad 27) (ad 35) (ad 28) (ad 29) (ad 30) (ad 31) (ad 32) (ad 33) (ad 34) pv2_11, gRayU K (ad 35) (ad 36) (ad 37) (ad 38) (ad 39) (ad 3) pr2_11 pX2_11, gScn K (ad 3) (ad 14) (ad 15) (ad 16) (ad 17) ou mi bo ln LF sn SF] _ _ := hG
  have g4 := sho_bd hN hs.1 hs.2
  obtain ⟨b1, b2, b3, b4⟩ := hp_11.bd hN g4.2.2.1 g4.2.1
  have b5 : pv2_11.1 = (gS N y : Int) := b2
  refine lv_astore (lv' := [(4, .ref (ad 8)), (0, .ref (ad 0)), (1, .int (iI y)), (2, .int (iI x)), (3, .int (iI z))]) S.1 S.2.1 dX8_leg_14 hl (by decide) rfl (fun ls hl => ?_)
  refine lv_iload_n S.1 S.2.1 dX8_leg_16 rfl (lv_at hl 3 rfl) ?_
  refine g_if_lt (tgt := 29) S dX8_leg_17 (by decide) (by omega) (fun q17 => ?_) (fun q17 => ?_)
  · skip
    omega
  · skip
    refine lv_iload_n S.1 S.2.1 dX8_leg_20 rfl (lv_at hl 3 rfl) ?_
    refine lv_aload S.1 S.2.1 dX8_leg_21 (lv_at hl 0 rfl) ?_
    refine g_get S C hG iX30 1 rfl rfl 2 (by decide) (List.mem_of_getElem? (i := 4) rfl) rfl dX8_leg_23 ?_
    refine g_icmp_lt (tgt := 39) S dX8_leg_26 (by decide) (by omega) (by omega) (fun q26 => ?_) (fun q26 => ?_)
    · skip
      refine lv_iload_n S.1 S.2.1 dX8_leg_39 rfl (lv_at hl 4 rfl) ?_
      refine g_iconst S dX8_leg_40 ?_
      refine g_bipush S dX8_leg_41 (by decide) ?_
      refine g_invSv (As := [.int (iI z), .int (iI 0), .int (iI 6)]) (rest := []) (gs' := (fun u : Unit => [gRLC K ad, gPthV K (ad 8) (ad 27) (ad 35) (ad 28) (ad 29) (ad 30) (ad 31) (ad 32) (ad 33) (ad 34) pv2_11, gRayU K (ad 35) (ad 36) (ad 37) (ad 38) (ad 39) (ad 3) pr2_11 pX2_11, gScn K (ad 3) (ad 14) (ad 15) (ad 16) (ad 17) ou mi bo ln LF sn SF])) S C hG [] (c_X8_checkRange l K z 0 6 hz (by omega) (by omega) h2) rfl rfl (va_cwS 3 S.2.2.2.2 gX8_leg_X8_checkRange rfl rfl rfl (by decide +kernel) ⟨Nat.le_of_ble_eq_true rfl, Nat.le_of_ble_eq_true rfl⟩) rfl hl.1 rfl (Nat.le_of_ble_eq_true rfl) dX8_leg_43 ⟨Nat.le_of_ble_eq_true rfl, Nat.le_of_ble_eq_true rfl⟩ (fun _ => Nat.le_of_ble_eq_true rfl) (fun _ => rfl) (fun u H locs hp hG => ?_)
      refine lv_aload S.1 S.2.1 dX8_leg_46 (lv_at hl 0 rfl) ?_
      refine lv_iload_n S.1 S.2.1 dX8_leg_48 rfl (lv_at hl 3 rfl) ?_
      refine lv_iload_n S.1 S.2.1 dX8_leg_49 rfl (lv_at hl 4 rfl) ?_
      have hG : gW K A s.heap [gRLC K ad, gPth K (ad 8) (ad 27) (ad 35) pv2_11.1 pv2_11.2.1 (ad 28) (ad 29) (ad 30) (ad 31) (ad 32) (ad 33) (ad 34) pv2_11.2.2.1 pv2_11.2.2.2.1 pv2_11.2.2.2.2.1 pv2_11.2.2.2.2.2.1 pv2_11.2.2.2.2.2.2.1 pv2_11.2.2.2.2.2.2.2.1 pv2_11.2.2.2.2.2.2.2.2, gRayU K (ad 35) (ad 36) (ad 37) (ad 38) (ad 39) (ad 3) pr2_11 pX2_11, gScn K (ad 3) (ad 14) (ad 15) (ad 16) (ad 17) ou mi bo ln LF sn SF] _ _ := hG
      refine g_invV (As := [.int (iI x), .int (iI z)]) (rest := []) (gs' := (fun u : Unit => [gRLC K ad, gPth K (ad 8) (ad 27) (ad 35) pv2_11.1 pv2_11.2.1 (ad 28) (ad 29) (ad 30) (ad 31) (ad 32) (ad 33) (ad 34) pv2_11.2.2.1 pv2_11.2.2.2.1 pv2_11.2.2.2.2.1 pv2_11.2.2.2.2.2.1 pv2_11.2.2.2.2.2.2.1 pv2_11.2.2.2.2.2.2.2.1 pv2_11.2.2.2.2.2.2.2.2, gRayU K (ad 35) (ad 36) (ad 37) (ad 38) (ad 39) (ad 3) pr2_11 pX2_11, gScn K (ad 3) (ad 14) (ad 15) (ad 16) (ad 17) ou mi bo ln LF sn SF])) S C hG [1] (c_X3_getw l K (ad 8) (ad 27) (ad 35) pv2_11.1 pv2_11.2.1 (ad 28) (ad 29) (ad 30) (ad 31) (ad 32) (ad 33) (ad 34) pv2_11.2.2.1 pv2_11.2.2.2.1 pv2_11.2.2.2.2.1 pv2_11.2.2.2.2.2.1 pv2_11.2.2.2.2.2.2.1 pv2_11.2.2.2.2.2.2.2.1 pv2_11.2.2.2.2.2.2.2.2 x z (by omega) (by omega) h2) rfl rfl 0 rfl rfl (cwV 2 S.2.2.2.2 gX8_leg_X3_get rfl rfl rfl (by decide +kernel) ⟨Nat.le_of_ble_eq_true rfl, Nat.le_of_ble_eq_true rfl⟩) rfl hl.1 rfl (Nat.le_of_ble_eq_true rfl) dX8_leg_50 ⟨Nat.le_of_ble_eq_true rfl, Nat.le_of_ble_eq_true rfl⟩ (fun _ => Nat.le_of_ble_eq_true rfl) (fun _ => rfl) (fun v u H locs hp hG => ?_)
      subst hp
      have hG : gW K A s.heap [gRLC K ad, gPthV K (ad 8) (ad 27) (ad 35) (ad 28) (ad 29) (ad 30) (ad 31) (ad 32) (ad 33) (ad 34) pv2_11, gRayU K (ad 35) (ad 36) (ad 37) (ad 38) (ad 39) (ad 3) pr2_11 pX2_11, gScn K (ad 3) (ad 14) (ad 15) (ad 16) (ad 17) ou mi bo ln LF sn SF] _ _ := hG
      exact g_iret S hr hlk hQ dX8_leg_53 (Nat.le_of_ble_eq_true rfl) (Nat.le_of_ble_eq_true rfl) ((if x < pv2_11.1 then pick7 z (pv2_11.2.2.1 x) (pv2_11.2.2.2.1 x) (pv2_11.2.2.2.2.1 x) (pv2_11.2.2.2.2.2.1 x) (pv2_11.2.2.2.2.2.2.1 x) (pv2_11.2.2.2.2.2.2.2.1 x) (pv2_11.2.2.2.2.2.2.2.2 x) else 0, pv2_11, pr2_11, pX2_11) : Int × PV × RU × (Int → Int)) ⟨rfl, hp_11, (if_pos (by omega))⟩ hG
    · skip
      omega
