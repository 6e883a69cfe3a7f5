set_option maxHeartbeats 1000000 in
set_option maxRecDepth 100000 in
theorem c_X8_legsAcross (l : Launch) (K : KC) (ad : Nat → Nat) (ou : Int) (mi : Int) (bo : Int) (ln : Int) (LF : Int → Int) (sn : Int) (SF : Int → Int) (N : Int → Int) (pv : PV) (ps : Nat) (pr : RU) (pX : Int → Int) (y : Int) (hS : ScOk N ou mi bo ln LF sn SF) (hN : NOk0 N) (hv : -2147483648 ≤ y ∧ y < 2147483648) : mG l yX8_legsAcross wsX8_legsAcross 5 119 K [.ref (ad 0), .int (iI y)] [gRLC K ad, gPthV K (ad 8) (ad 27) (ad 35) (ad 28) (ad 29) (ad 30) (ad 31) (ad 32) (ad 33) (ad 34) pv, gRayU K (ad 35) (ad 36) (ad 37) (ad 38) (ad 39) ps pr pX, gScn K (ad 3) (ad 14) (ad 15) (ad 16) (ad 17) ou mi bo ln LF sn SF] (fun (v : Value) (u : PV × Nat × RU × (Int → Int)) => (v = .int (iI (lacN N y (N 4).toNat)))) (fun (u : PV × Nat × RU × (Int → Int)) => [gRLC K ad, gPthV K (ad 8) (ad 27) (ad 35) (ad 28) (ad 29) (ad 30) (ad 31) (ad 32) (ad 33) (ad 34) u.1, gRayU K (ad 35) (ad 36) (ad 37) (ad 38) (ad 39) u.2.1 u.2.2.1 u.2.2.2, gScn K (ad 3) (ad 14) (ad 15) (ad 16) (ad 17) ou mi bo ln LF sn SF]) 0 0 := by
  refine mG_of cX8_legsAcross 4 (by decide) rfl (Nat.le_of_ble_eq_true rfl) ?_
  intro p e s m below meth c A ls Q S C hG hl hr hlk hin hQ
  have S : CallFix p m c cX8_legsAcross 4 s ([.ref (ad 0), .int (iI y)] : List Value).toArray wsX8_legsAcross RX8 := S
  have iX80 : ∀ w ∈ wsX80, w ∈ wsX8_legsAcross := fun _ h => List.mem_cons_of_mem _ (List.mem_append_left _ (List.mem_append_left _ (List.mem_append_left _ (List.mem_append_left _ (List.mem_append_right _ (h))))))
  have iX50 : ∀ w ∈ wsX50, w ∈ wsX8_legsAcross := fun _ h => List.mem_cons_of_mem _ (List.mem_append_left _ (List.mem_append_left _ (List.mem_append_left _ (List.mem_append_right _ (h)))))
  have iX70 : ∀ w ∈ wsX70, w ∈ wsX8_legsAcross := fun _ h => List.mem_cons_of_mem _ (List.mem_append_left _ (List.mem_append_left _ (List.mem_append_right _ (h))))
  have iX30 : ∀ w ∈ wsX30, w ∈ wsX8_legsAcross := fun _ h => List.mem_cons_of_mem _ (List.mem_append_left _ (List.mem_append_right _ (h)))
  have iX40 : ∀ w ∈ wsX40, w ∈ wsX8_legsAcross := fun _ h => List.mem_cons_of_mem _ (List.mem_append_right _ (h))
  have hl : lv_has ls 4 [(0, .ref (ad 0)), (1, .int (iI y))] := hl
  have hG : gW K A s.heap [gRLC K ad, gPthV K (ad 8) (ad 27) (ad 35) (ad 28) (ad 29) (ad 30) (ad 31) (ad 32) (ad 33) (ad 34) pv, gRayU K (ad 35) (ad 36) (ad 37) (ad 38) (ad 39) ps pr pX, gScn K (ad 3) (ad 14) (ad 15) (ad 16) (ad 17) ou mi bo ln LF sn SF] s.heap [] := hG
  obtain ⟨e0, e1, e2, e3, e4, e5, e6⟩ := id hS
  have n0 := hN.1
  have n3 := hN.2.2.2.1
  refine g_iconst S dX8_legsAcross_0 ?_
  refine lv_istore_n (lv' := [(2, .int (iI 0)), (0, .ref (ad 0)), (1, .int (iI y))]) S.1 S.2.1 dX8_legsAcross_1 rfl hl (by decide) rfl (fun ls hl => ?_)
  refine g_iconst S dX8_legsAcross_2 ?_
  refine lv_istore_n (lv' := [(3, .int (iI 0)), (2, .int (iI 0)), (0, .ref (ad 0)), (1, .int (iI y))]) S.1 S.2.1 dX8_legsAcross_3 rfl hl (by decide) rfl (fun ls hl => ?_)
  have L4 : ∀ (fu : Nat) (k : Nat) (w : Int) (f : Int) (pv1 : PV) (ps1 : Nat) (pr1 : RU) (pX1 : Int → Int) (H : Heap) (locs : List Loc) (ls : Array Slot), ((N 4 - w).toNat) < fu → (w = (k : Int) ∧ w ≤ N 4) → (f = lacN N y k) → (0 ≤ f ∧ f ≤ 60 * w) → lv_has ls 4 [(0, .ref (ad 0)), (1, .int (iI y)), (2, .int (iI f)), (3, .int (iI w))] → gW K A s.heap [gRLC K ad, gPthV K (ad 8) (ad 27) (ad 35) (ad 28) (ad 29) (ad 30) (ad 31) (ad 32) (ad 33) (ad 34) pv1, gRayU K (ad 35) (ad 36) (ad 37) (ad 38) (ad 39) ps1 pr1 pX1, gScn K (ad 3) (ad 14) (ad 15) (ad 16) (ad 17) ou mi bo ln LF sn SF] H locs → W p l e { frames := 5, cells := 0, slots := 0, locals := 119 } s m ([.ref (ad 0), .int (iI y)] : List Value).toArray below meth c H locs 0 0 Q (F0 m 4 ls []) := by
    intro fu
    induction fu with
    | zero => intro k w f pv1 ps1 pr1 pX1 H locs ls hfu; exact absurd hfu (Nat.not_lt_zero _)
    | succ fu ih =>
      intro k w f pv1 ps1 pr1 pX1 H locs ls hfu hw hb hf hl hG
      refine lv_iload_n S.1 S.2.1 dX8_legsAcross_4 rfl (lv_at hl 3 rfl) ?_
      refine lv_aload_n S.1 S.2.1 dX8_legsAcross_5 rfl (lv_at hl 0 rfl) ?_
      refine g_get S C hG iX80 0 rfl rfl 2 (by decide) (List.mem_of_getElem? (i := 1) rfl) rfl dX8_legsAcross_6 ?_
      refine g_get S C hG iX50 15 rfl rfl 1 (by decide) (List.mem_of_getElem? (i := 2) rfl) rfl dX8_legsAcross_9 ?_
      refine g_get S C hG iX70 18 rfl rfl 1 (by decide) (List.mem_of_getElem? (i := 3) rfl) rfl dX8_legsAcross_12 ?_
      refine g_icmp_ge (tgt := 40) S dX8_legsAcross_15 (by decide) (by omega) (by omega) (fun q15 => ?_) (fun q15 => ?_)
      · skip
        refine lv_iload_n S.1 S.2.1 dX8_legsAcross_40 rfl (lv_at hl 2 rfl) ?_
        have hG : gW K A s.heap [gRLC K ad, gPthV K (ad 8) (ad 27) (ad 35) (ad 28) (ad 29) (ad 30) (ad 31) (ad 32) (ad 33) (ad 34) pv1, gRayU K (ad 35) (ad 36) (ad 37) (ad 38) (ad 39) ps1 pr1 pX1, gScn K (ad 3) (ad 14) (ad 15) (ad 16) (ad 17) ou mi bo ln LF sn SF] _ _ := hG
        exact g_iret S hr hlk hQ dX8_legsAcross_41 (Nat.le_of_ble_eq_true rfl) (Nat.le_of_ble_eq_true rfl) ((pv1, ps1, pr1, pX1) : PV × Nat × RU × (Int → Int)) (congrArg (fun z : Int => Value.int (iI z)) (by rw [hb, show (N 4).toNat = k by omega])) hG
      · skip
        refine lv_iload_n S.1 S.2.1 dX8_legsAcross_18 rfl (lv_at hl 2 rfl) ?_
        refine lv_aload_n S.1 S.2.1 dX8_legsAcross_19 rfl (lv_at hl 0 rfl) ?_
        refine lv_aload_n S.1 S.2.1 dX8_legsAcross_20 rfl (lv_at hl 0 rfl) ?_
        refine g_get S C hG iX80 0 rfl rfl 7 (by decide) (List.mem_of_getElem? (i := 4) rfl) rfl dX8_legsAcross_21 ?_
        refine lv_iload_n S.1 S.2.1 dX8_legsAcross_24 rfl (lv_at hl 3 rfl) ?_
        refine g_invV (As := [.ref (ad 8), .int (iI w)]) (rest := [.int (iI f)]) (gs' := (fun u : PV × RU × (Int → Int) => [gRLC K ad, gPthV K (ad 8) (ad 27) (ad 35) (ad 28) (ad 29) (ad 30) (ad 31) (ad 32) (ad 33) (ad 34) u.1, gRayU K (ad 35) (ad 36) (ad 37) (ad 38) (ad 39) (ad 3) u.2.1 u.2.2, gScn K (ad 3) (ad 14) (ad 15) (ad 16) (ad 17) ou mi bo ln LF sn SF])) S C hG [0, 1, 2, 3] (c_X8_pathOf l K ad ou mi bo ln LF sn SF N (ad 8) (ad 27) (ad 35) (ad 28) (ad 29) (ad 30) (ad 31) (ad 32) (ad 33) (ad 34) (ad 36) (ad 37) (ad 38) (ad 39) pv1 ps1 pr1 pX1 w hS hN ⟨by omega, by omega⟩) rfl rfl 0 rfl rfl (cwV 2 S.2.2.2.2 gX8_legsAcross_X8_pathOf rfl rfl rfl (by decide +kernel) ⟨Nat.le_of_ble_eq_true rfl, Nat.le_of_ble_eq_true rfl⟩) rfl hl.1 rfl (Nat.le_of_ble_eq_true rfl) dX8_legsAcross_25 ⟨Nat.le_of_ble_eq_true rfl, Nat.le_of_ble_eq_true rfl⟩ (fun _ => Nat.le_of_ble_eq_true rfl) (fun _ => rfl) (fun v u H locs hp hG => ?_)
        obtain ⟨pv2_25, pr2_25, pX2_25⟩ := u
        obtain ⟨rfl, hp_25⟩ := hp
        have hp_25 : PthR N (sP N w) (sY N w) (sD N w) pv2_25 := hp_25
        have hG : gW K A s.heap [gRLC K ad, gPthV K (ad 8) (ad 27) (ad 35) (ad 28) (ad 29) (ad 30) (ad 31) (ad 32) (ad 33) (ad 34) pv2_25, gRayU K (ad 35) (ad 36) (ad 37) (ad 38) (ad 39) (ad 3) pr2_25 pX2_25, gScn K (ad 3) (ad 14) (ad 15) (ad 16) (ad 17) ou mi bo ln LF sn SF] _ _ := hG
        have g4 := sho_bd hN (r := w) (by omega) (by omega)
        obtain ⟨b1, b2, b3, b4⟩ := hp_25.bd hN g4.2.2.1 g4.2.1
        refine lv_iload_n S.1 S.2.1 dX8_legsAcross_28 rfl (lv_at hl 1 rfl) ?_
        have hG : gW K A s.heap [gRLC K ad, gPth K (ad 8) (ad 27) (ad 35) pv2_25.1 pv2_25.2.1 (ad 28) (ad 29) (ad 30) (ad 31) (ad 32) (ad 33) (ad 34) pv2_25.2.2.1 pv2_25.2.2.2.1 pv2_25.2.2.2.2.1 pv2_25.2.2.2.2.2.1 pv2_25.2.2.2.2.2.2.1 pv2_25.2.2.2.2.2.2.2.1 pv2_25.2.2.2.2.2.2.2.2, gRayU K (ad 35) (ad 36) (ad 37) (ad 38) (ad 39) (ad 3) pr2_25 pX2_25, gScn K (ad 3) (ad 14) (ad 15) (ad 16) (ad 17) ou mi bo ln LF sn SF] _ _ := hG
        refine g_invV (As := [.int (iI y)]) (rest := [.int (iI f)]) (gs' := (fun u : Unit => [gRLC K ad, gPth K (ad 8) (ad 27) (ad 35) pv2_25.1 pv2_25.2.1 (ad 28) (ad 29) (ad 30) (ad 31) (ad 32) (ad 33) (ad 34) pv2_25.2.2.1 pv2_25.2.2.2.1 pv2_25.2.2.2.2.1 pv2_25.2.2.2.2.2.1 pv2_25.2.2.2.2.2.2.1 pv2_25.2.2.2.2.2.2.2.1 pv2_25.2.2.2.2.2.2.2.2, gRayU K (ad 35) (ad 36) (ad 37) (ad 38) (ad 39) (ad 3) pr2_25 pX2_25, gScn K (ad 3) (ad 14) (ad 15) (ad 16) (ad 17) ou mi bo ln LF sn SF])) S C hG [1] (c_X3_legsAcross l K (ad 8) (ad 27) (ad 35) pv2_25.1 pv2_25.2.1 (ad 28) (ad 29) (ad 30) (ad 31) (ad 32) (ad 33) (ad 34) pv2_25.2.2.1 pv2_25.2.2.2.1 pv2_25.2.2.2.2.1 pv2_25.2.2.2.2.2.1 pv2_25.2.2.2.2.2.2.1 pv2_25.2.2.2.2.2.2.2.1 pv2_25.2.2.2.2.2.2.2.2 y b1 hv (fun i a b => ⟨(b4 i a b).1.1, (b4 i a b).1.2.1⟩)) rfl rfl 0 rfl rfl (cwV 1 S.2.2.2.2 gX8_legsAcross_X3_legsAcross rfl rfl rfl (by decide +kernel) ⟨Nat.le_of_ble_eq_true rfl, Nat.le_of_ble_eq_true rfl⟩) rfl hl.1 rfl (Nat.le_of_ble_eq_true rfl) dX8_legsAcross_29 ⟨Nat.le_of_ble_eq_true rfl, Nat.le_of_ble_eq_true rfl⟩ (fun _ => Nat.le_of_ble_eq_true rfl) (fun _ => rfl) (fun v u H locs hp hG => ?_)
        subst hp
        refine g_top (w := .int (iI (lacS N y (k : Int)))) (congrArg (fun z : Int => Value.int (iI z)) ((by rw [← hw.1] <;> exact hp_25.lac y))) ?_
        have c8 := lacS_bd N y (k : Int)
        refine g_iadd S dX8_legsAcross_32 rfl ?_
        refine lv_istore_n (lv' := [(2, .int (iI (f + (lacS N y (k : Int))))), (0, .ref (ad 0)), (1, .int (iI y)), (3, .int (iI w))]) S.1 S.2.1 dX8_legsAcross_33 rfl hl (by decide) rfl (fun ls hl => ?_)
        refine lv_iinc (v := iI (w + 1)) (lv' := [(3, .int (iI (w + 1))), (2, .int (iI (f + (lacS N y (k : Int))))), (0, .ref (ad 0)), (1, .int (iI y))]) S.1 S.2.1 dX8_legsAcross_34 hl (k := 3) rfl (g_iinc rfl) (by decide) rfl (fun ls hl => ?_)
        refine lv_goto (tgt := 4) S.1 S.2.1 dX8_legsAcross_37 (by decide) ?_
        have hG : gW K A s.heap [gRLC K ad, gPthV K (ad 8) (ad 27) (ad 35) (ad 28) (ad 29) (ad 30) (ad 31) (ad 32) (ad 33) (ad 34) pv2_25, gRayU K (ad 35) (ad 36) (ad 37) (ad 38) (ad 39) (ad 3) pr2_25 pX2_25, gScn K (ad 3) (ad 14) (ad 15) (ad 16) (ad 17) ou mi bo ln LF sn SF] _ _ := hG
        exact ih (k + 1) (w + 1) (f + (lacS N y (k : Int))) pv2_25 (ad 3) pr2_25 pX2_25 _ _ _ (by omega) ⟨by omega, by omega⟩ (by simp only [lacN] <;> rw [← hb]) (by omega) (lv_sub hl [2, 3, 1, 0] rfl) hG
  exact L4 (Nat.succ ((N 4 - 0).toNat)) 0 0 0 pv ps pr pX _ _ _ (Nat.lt_succ_self _) ⟨rfl, by omega⟩ rfl (by omega) (lv_sub hl [2, 3, 1, 0] rfl) hG

set_option maxHeartbeats 1000000 in
set_option maxRecDepth 100000 in
theorem c_X8_legsIn (l : Launch) (K : KC) (ad : Nat → Nat) (ou : Int) (mi : Int) (bo : Int) (ln : Int) (LF : Int → Int) (sn : Int) (SF : Int → Int) (N : Int → Int) (pv : PV) (ps : Nat) (pr : RU) (pX : Int → Int) (y : Int) (hS : ScOk N ou mi bo ln LF sn SF) (hN : NOk0 N) (hv : -2147483648 ≤ y ∧ y < 2147483648) (hy : 0 ≤ y ∧ y < N 0) : mG l yX8_legsIn wsX8_legsIn 6 142 K [.ref (ad 0), .int (iI y)] [gRLC K ad, gPthV K (ad 8) (ad 27) (ad 35) (ad 28) (ad 29) (ad 30) (ad 31) (ad 32) (ad 33) (ad 34) pv, gRayU K (ad 35) (ad 36) (ad 37) (ad 38) (ad 39) ps pr pX, gScn K (ad 3) (ad 14) (ad 15) (ad 16) (ad 17) ou mi bo ln LF sn SF] (fun (v : Value) (u : PV × Nat × RU × (Int → Int)) => (v = .int (iI (lacN N y (N 4).toNat)))) (fun (u : PV × Nat × RU × (Int → Int)) => [gRLC K ad, gPthV K (ad 8) (ad 27) (ad 35) (ad 28) (ad 29) (ad 30) (ad 31) (ad 32) (ad 33) (ad 34) u.1, gRayU K (ad 35) (ad 36) (ad 37) (ad 38) (ad 39) u.2.1 u.2.2.1 u.2.2.2, gScn K (ad 3) (ad 14) (ad 15) (ad 16) (ad 17) ou mi bo ln LF sn SF]) 0 0 := by
  refine mG_of cX8_legsIn 2 (by decide) rfl (Nat.le_of_ble_eq_true rfl) ?_
  intro p e s m below meth c A ls Q S C hG hl hr hlk hin hQ
  have S : CallFix p m c cX8_legsIn 2 s ([.ref (ad 0), .int (iI y)] : List Value).toArray wsX8_legsIn RX8 := S
  have iX80 : ∀ w ∈ wsX80, w ∈ wsX8_legsIn := fun _ h => List.mem_cons_of_mem _ (List.mem_append_left _ (List.mem_append_left _ (List.mem_append_left _ (List.mem_append_left _ (List.mem_append_left _ (List.mem_append_right _ (h)))))))
  have iX50 : ∀ w ∈ wsX50, w ∈ wsX8_legsIn := fun _ h => List.mem_cons_of_mem _ (List.mem_append_left _ (List.mem_append_left _ (List.mem_append_left _ (List.mem_append_left _ (List.mem_append_right _ (h))))))
  have iX70 : ∀ w ∈ wsX70, w ∈ wsX8_legsIn := fun _ h => List.mem_cons_of_mem _ (List.mem_append_left _ (List.mem_append_left _ (List.mem_append_left _ (List.mem_append_right _ (h)))))
  have iX30 : ∀ w ∈ wsX30, w ∈ wsX8_legsIn := fun _ h => List.mem_cons_of_mem _ (List.mem_append_left _ (List.mem_append_left _ (List.mem_append_right _ (h))))
  have iX40 : ∀ w ∈ wsX40, w ∈ wsX8_legsIn := fun _ h => List.mem_cons_of_mem _ (List.mem_append_left _ (List.mem_append_right _ (h)))
  have hl : lv_has ls 2 [(0, .ref (ad 0)), (1, .int (iI y))] := hl
  have hG : gW K A s.heap [gRLC K ad, gPthV K (ad 8) (ad 27) (ad 35) (ad 28) (ad 29) (ad 30) (ad 31) (ad 32) (ad 33) (ad 34) pv, gRayU K (ad 35) (ad 36) (ad 37) (ad 38) (ad 39) ps pr pX, gScn K (ad 3) (ad 14) (ad 15) (ad 16) (ad 17) ou mi bo ln LF sn SF] s.heap [] := hG
  obtain ⟨e0, e1, e2, e3, e4, e5, e6⟩ := id hS
  have n0 := hN.1
  have n3 := hN.2.2.2.1
  refine lv_aload_n S.1 S.2.1 dX8_legsIn_0 rfl (lv_at hl 0 rfl) ?_
  refine lv_iload_n S.1 S.2.1 dX8_legsIn_1 rfl (lv_at hl 1 rfl) ?_
  refine g_invVv (As := [.int (iI y)]) (rest := []) (gs' := (fun u : Unit => [gRLC K ad, gPthV K (ad 8) (ad 27) (ad 35) (ad 28) (ad 29) (ad 30) (ad 31) (ad 32) (ad 33) (ad 34) pv, gRayU K (ad 35) (ad 36) (ad 37) (ad 38) (ad 39) ps pr pX, gScn K (ad 3) (ad 14) (ad 15) (ad 16) (ad 17) ou mi bo ln LF sn SF])) S C hG [0, 3] (c_X8_checkLayer l K ad ou mi bo ln LF sn SF N y hS hN hv hy) rfl rfl 0 rfl rfl (cwV 1 S.2.2.2.2 gX8_legsIn_X8_checkLayer rfl rfl rfl (by decide +kernel) ⟨Nat.le_of_ble_eq_true rfl, Nat.le_of_ble_eq_true rfl⟩) rfl hl.1 rfl (Nat.le_of_ble_eq_true rfl) dX8_legsIn_2 ⟨Nat.le_of_ble_eq_true rfl, Nat.le_of_ble_eq_true rfl⟩ (fun _ => Nat.le_of_ble_eq_true rfl) (fun _ => rfl) (fun u H locs hp hG => ?_)
  refine lv_aload_n S.1 S.2.1 dX8_legsIn_5 rfl (lv_at hl 0 rfl) ?_
  refine lv_iload_n S.1 S.2.1 dX8_legsIn_6 rfl (lv_at hl 1 rfl) ?_
  refine g_invV (As := [.int (iI y)]) (rest := []) (gs' := (fun u : PV × Nat × RU × (Int → Int) => [gRLC K ad, gPthV K (ad 8) (ad 27) (ad 35) (ad 28) (ad 29) (ad 30) (ad 31) (ad 32) (ad 33) (ad 34) u.1, gRayU K (ad 35) (ad 36) (ad 37) (ad 38) (ad 39) u.2.1 u.2.2.1 u.2.2.2, gScn K (ad 3) (ad 14) (ad 15) (ad 16) (ad 17) ou mi bo ln LF sn SF])) S C hG [0, 1, 2, 3] (c_X8_legsAcross l K ad ou mi bo ln LF sn SF N pv ps pr pX y hS hN hv) rfl rfl 0 rfl rfl (cwV 1 S.2.2.2.2 gX8_legsIn_X8_legsAcross rfl rfl rfl (by decide +kernel) ⟨Nat.le_of_ble_eq_true rfl, Nat.le_of_ble_eq_true rfl⟩) rfl hl.1 rfl (Nat.le_of_ble_eq_true rfl) dX8_legsIn_7 ⟨Nat.le_of_ble_eq_true rfl, Nat.le_of_ble_eq_true rfl⟩ (fun _ => Nat.le_of_ble_eq_true rfl) (fun _ => rfl) (fun v u H locs hp hG => ?_)
  obtain ⟨pv2_7, ps2_7, pr2_7, pX2_7⟩ := u
  subst hp
  have hG : gW K A s.heap [gRLC K ad, gPthV K (ad 8) (ad 27) (ad 35) (ad 28) (ad 29) (ad 30) (ad 31) (ad 32) (ad 33) (ad 34) pv2_7, gRayU K (ad 35) (ad 36) (ad 37) (ad 38) (ad 39) ps2_7 pr2_7 pX2_7, gScn K (ad 3) (ad 14) (ad 15) (ad 16) (ad 17) ou mi bo ln LF sn SF] _ _ := hG
  have hG : gW K A s.heap [gRLC K ad, gPthV K (ad 8) (ad 27) (ad 35) (ad 28) (ad 29) (ad 30) (ad 31) (ad 32) (ad 33) (ad 34) pv2_7, gRayU K (ad 35) (ad 36) (ad 37) (ad 38) (ad 39) ps2_7 pr2_7 pX2_7, gScn K (ad 3) (ad 14) (ad 15) (ad 16) (ad 17) ou mi bo ln LF sn SF] _ _ := hG
  exact g_iret S hr hlk hQ dX8_legsIn_10 (Nat.le_of_ble_eq_true rfl) (Nat.le_of_ble_eq_true rfl) ((pv2_7, ps2_7, pr2_7, pX2_7) : PV × Nat × RU × (Int → Int)) rfl hG

set_option maxHeartbeats 1000000 in
set_option maxRecDepth 100000 in
theorem x1_legsIn (l : Launch) (K : KC) (ad : Nat → Nat) (ou : Int) (mi : Int) (bo : Int) (ln : Int) (LF : Int → Int) (sn : Int) (SF : Int → Int) (N : Int → Int) (pv : PV) (ps : Nat) (pr : RU) (pX : Int → Int) (y : Int) (hS : ScOk N ou mi bo ln LF sn SF) (hN : NOk0 N) (hv : -2147483648 ≤ y ∧ y < 2147483648) (hy : ¬ (0 ≤ y ∧ y < N 0)) (hst : l.stackTraces = false) : mX l yX8_legsIn wsX8_legsIn 7 103 K [.ref (ad 0), .int (iI y)] [gRLC K ad, gPthV K (ad 8) (ad 27) (ad 35) (ad 28) (ad 29) (ad 30) (ad 31) (ad 32) (ad 33) (ad 34) pv, gRayU K (ad 35) (ad 36) (ad 37) (ad 38) (ad 39) ps pr pX, gScn K (ad 3) (ad 14) (ad 15) (ad 16) (ad 17) ou mi bo ln LF sn SF] "java/lang/IndexOutOfBoundsException" (fun (u : Unit) => True) (fun (u : Unit) => [gRLC K ad, gPthV K (ad 8) (ad 27) (ad 35) (ad 28) (ad 29) (ad 30) (ad 31) (ad 32) (ad 33) (ad 34) pv, gRayU K (ad 35) (ad 36) (ad 37) (ad 38) (ad 39) ps pr pX, gScn K (ad 3) (ad 14) (ad 15) (ad 16) (ad 17) ou mi bo ln LF sn SF]) 1 6 := by
  refine mX_of cX8_legsIn 2 (by decide) rfl (Nat.le_of_ble_eq_true rfl) ?_
  intro p e s m below meth c A ls Q S C hG hl hex hlk hin hQ
  have S : CallFix p m c cX8_legsIn 2 s ([.ref (ad 0), .int (iI y)] : List Value).toArray wsX8_legsIn RX8 := S
  have iX80 : ∀ w ∈ wsX80, w ∈ wsX8_legsIn := fun _ h => List.mem_cons_of_mem _ (List.mem_append_left _ (List.mem_append_left _ (List.mem_append_left _ (List.mem_append_left _ (List.mem_append_left _ (List.mem_append_right _ (h)))))))
  have iX50 : ∀ w ∈ wsX50, w ∈ wsX8_legsIn := fun _ h => List.mem_cons_of_mem _ (List.mem_append_left _ (List.mem_append_left _ (List.mem_append_left _ (List.mem_append_left _ (List.mem_append_right _ (h))))))
  have iX70 : ∀ w ∈ wsX70, w ∈ wsX8_legsIn := fun _ h => List.mem_cons_of_mem _ (List.mem_append_left _ (List.mem_append_left _ (List.mem_append_left _ (List.mem_append_right _ (h)))))
  have iX30 : ∀ w ∈ wsX30, w ∈ wsX8_legsIn := fun _ h => List.mem_cons_of_mem _ (List.mem_append_left _ (List.mem_append_left _ (List.mem_append_right _ (h))))
  have iX40 : ∀ w ∈ wsX40, w ∈ wsX8_legsIn := fun _ h => List.mem_cons_of_mem _ (List.mem_append_left _ (List.mem_append_right _ (h)))
  have hl : lv_has ls 2 [(0, .ref (ad 0)), (1, .int (iI y))] := hl
  have hG : gW K A s.heap [gRLC K ad, gPthV K (ad 8) (ad 27) (ad 35) (ad 28) (ad 29) (ad 30) (ad 31) (ad 32) (ad 33) (ad 34) pv, gRayU K (ad 35) (ad 36) (ad 37) (ad 38) (ad 39) ps pr pX, gScn K (ad 3) (ad 14) (ad 15) (ad 16) (ad 17) ou mi bo ln LF sn SF] s.heap [] := hG
  obtain ⟨e0, e1, e2, e3, e4, e5, e6⟩ := id hS
  have n0 := hN.1
  have n3 := hN.2.2.2.1
  refine lv_aload_n S.1 S.2.1 dX8_legsIn_0 rfl (lv_at hl 0 rfl) ?_
  refine lv_iload_n S.1 S.2.1 dX8_legsIn_1 rfl (lv_at hl 1 rfl) ?_
  refine g_xV (E := "java/lang/IndexOutOfBoundsException") (As := [.int (iI y)]) (rest := []) (gs' := (fun u : Unit => [gRLC K ad, gPthV K (ad 8) (ad 27) (ad 35) (ad 28) (ad 29) (ad 30) (ad 31) (ad 32) (ad 33) (ad 34) pv, gRayU K (ad 35) (ad 36) (ad 37) (ad 38) (ad 39) ps pr pX, gScn K (ad 3) (ad 14) (ad 15) (ad 16) (ad 17) ou mi bo ln LF sn SF])) S C hG [0, 3] (x_checkLayer l K ad ou mi bo ln LF sn SF N y hS hN hv hy hst) rfl rfl 0 rfl rfl (cwV 1 S.2.2.2.2 gX8_legsIn_X8_checkLayer rfl rfl rfl (by decide +kernel) ⟨Nat.le_of_ble_eq_true rfl, Nat.le_of_ble_eq_true rfl⟩) rfl hl.1 rfl (Nat.le_of_ble_eq_true rfl) dX8_legsIn_2 ⟨Nat.le_of_ble_eq_true rfl, Nat.le_of_ble_eq_true rfl⟩ (fun _ => Nat.le_of_ble_eq_true rfl) (fun _ => rfl) (fun u q9 ce9 H locs hp hG hq9 hv9 hcl9 => ?_)
  have hG : gW K A s.heap [gRLC K ad, gPthV K (ad 8) (ad 27) (ad 35) (ad 28) (ad 29) (ad 30) (ad 31) (ad 32) (ad 33) (ad 34) pv, gRayU K (ad 35) (ad 36) (ad 37) (ad 38) (ad 39) ps pr pX, gScn K (ad 3) (ad 14) (ad 15) (ad 16) (ad 17) ou mi bo ln LF sn SF] _ _ := hG
  exact g_xout hQ hex hlk hq9 hv9 hcl9 (Nat.le_of_ble_eq_true rfl) (Nat.le_of_ble_eq_true rfl) (() : Unit) trivial hG

set_option maxHeartbeats 1000000 in
set_option maxRecDepth 100000 in
theorem c_X8_busiest (l : Launch) (K : KC) (ad : Nat → Nat) (ou : Int) (mi : Int) (bo : Int) (ln : Int) (LF : Int → Int) (sn : Int) (SF : Int → Int) (N : Int → Int) (pv : PV) (ps : Nat) (pr : RU) (pX : Int → Int) (hS : ScOk N ou mi bo ln LF sn SF) (hN : NOk0 N) : mG l yX8_busiest wsX8_busiest 6 142 K [.ref (ad 0)] [gRLC K ad, gPthV K (ad 8) (ad 27) (ad 35) (ad 28) (ad 29) (ad 30) (ad 31) (ad 32) (ad 33) (ad 34) pv, gRayU K (ad 35) (ad 36) (ad 37) (ad 38) (ad 39) ps pr pX, gScn K (ad 3) (ad 14) (ad 15) (ad 16) (ad 17) ou mi bo ln LF sn SF] (fun (v : Value) (u : PV × Nat × RU × (Int → Int)) => (v = .int (iI ((busN (fun i : Nat => lacN N (i : Int) (N 4).toNat) (N 0).toNat).1)))) (fun (u : PV × Nat × RU × (Int → Int)) => [gRLC K ad, gPthV K (ad 8) (ad 27) (ad 35) (ad 28) (ad 29) (ad 30) (ad 31) (ad 32) (ad 33) (ad 34) u.1, gRayU K (ad 35) (ad 36) (ad 37) (ad 38) (ad 39) u.2.1 u.2.2.1 u.2.2.2, gScn K (ad 3) (ad 14) (ad 15) (ad 16) (ad 17) ou mi bo ln LF sn SF]) 0 0 := by
  refine mG_of cX8_busiest 5 (by decide) rfl (Nat.le_of_ble_eq_true rfl) ?_
  intro p e s m below meth c A ls Q S C hG hl hr hlk hin hQ
  have S : CallFix p m c cX8_busiest 5 s ([.ref (ad 0)] : List Value).toArray wsX8_busiest RX8 := S
  have iX80 : ∀ w ∈ wsX80, w ∈ wsX8_busiest := fun _ h => List.mem_cons_of_mem _ (List.mem_append_left _ (List.mem_append_left _ (List.mem_append_left _ (List.mem_append_left _ (List.mem_append_right _ (h))))))
  have iX50 : ∀ w ∈ wsX50, w ∈ wsX8_busiest := fun _ h => List.mem_cons_of_mem _ (List.mem_append_left _ (List.mem_append_left _ (List.mem_append_left _ (List.mem_append_right _ (h)))))
  have iX70 : ∀ w ∈ wsX70, w ∈ wsX8_busiest := fun _ h => List.mem_cons_of_mem _ (List.mem_append_left _ (List.mem_append_left _ (List.mem_append_right _ (h))))
  have iX30 : ∀ w ∈ wsX30, w ∈ wsX8_busiest := fun _ h => List.mem_cons_of_mem _ (List.mem_append_left _ (List.mem_append_right _ (h)))
  have iX40 : ∀ w ∈ wsX40, w ∈ wsX8_busiest := fun _ h => List.mem_cons_of_mem _ (List.mem_append_right _ (h))
  have hl : lv_has ls 5 [(0, .ref (ad 0))] := hl
  have hG : gW K A s.heap [gRLC K ad, gPthV K (ad 8) (ad 27) (ad 35) (ad 28) (ad 29) (ad 30) (ad 31) (ad 32) (ad 33) (ad 34) pv, gRayU K (ad 35) (ad 36) (ad 37) (ad 38) (ad 39) ps pr pX, gScn K (ad 3) (ad 14) (ad 15) (ad 16) (ad 17) ou mi bo ln LF sn SF] s.heap [] := hG
  obtain ⟨e0, e1, e2, e3, e4, e5, e6⟩ := id hS
  have n0 := hN.1
  have n3 := hN.2.2.2.1
  refine g_iconst S dX8_busiest_0 ?_
  refine lv_istore_n (lv' := [(1, .int (iI (-1))), (0, .ref (ad 0))]) S.1 S.2.1 dX8_busiest_1 rfl hl (by decide) rfl (fun ls hl => ?_)
  refine g_iconst S dX8_busiest_2 ?_
  refine lv_istore_n (lv' := [(2, .int (iI 0)), (1, .int (iI (-1))), (0, .ref (ad 0))]) S.1 S.2.1 dX8_busiest_3 rfl hl (by decide) rfl (fun ls hl => ?_)
  refine g_iconst S dX8_busiest_4 ?_
  refine lv_istore_n (lv' := [(3, .int (iI 0)), (2, .int (iI 0)), (1, .int (iI (-1))), (0, .ref (ad 0))]) S.1 S.2.1 dX8_busiest_5 rfl hl (by decide) rfl (fun ls hl => ?_)
  have L6 : ∀ (fu : Nat) (k : Nat) (w : Int) (bb : Int) (mm : Int) (pv1 : PV) (ps1 : Nat) (pr1 : RU) (pX1 : Int → Int) (H : Heap) (locs : List Loc) (ls : Array Slot), ((N 0 - w).toNat) < fu → (w = (k : Int) ∧ w ≤ N 0) → (bb = (busN (fun i : Nat => lacN N (i : Int) (N 4).toNat) k).1 ∧ mm = (busN (fun i : Nat => lacN N (i : Int) (N 4).toNat) k).2) → (0 ≤ mm ∧ mm ≤ 1200 ∧ -1 ≤ bb ∧ bb ≤ 10) → lv_has ls 5 [(0, .ref (ad 0)), (1, .int (iI bb)), (2, .int (iI mm)), (3, .int (iI w))] → gW K A s.heap [gRLC K ad, gPthV K (ad 8) (ad 27) (ad 35) (ad 28) (ad 29) (ad 30) (ad 31) (ad 32) (ad 33) (ad 34) pv1, gRayU K (ad 35) (ad 36) (ad 37) (ad 38) (ad 39) ps1 pr1 pX1, gScn K (ad 3) (ad 14) (ad 15) (ad 16) (ad 17) ou mi bo ln LF sn SF] H locs → W p l e { frames := 6, cells := 0, slots := 0, locals := 142 } s m ([.ref (ad 0)] : List Value).toArray below meth c H locs 0 0 Q (F0 m 6 ls []) := by
    intro fu
    induction fu with
    | zero => intro k w bb mm pv1 ps1 pr1 pX1 H locs ls hfu; exact absurd hfu (Nat.not_lt_zero _)
    | succ fu ih =>
      intro k w bb mm pv1 ps1 pr1 pX1 H locs ls hfu hw hb hm hl hG
      refine lv_iload_n S.1 S.2.1 dX8_busiest_6 rfl (lv_at hl 3 rfl) ?_
      refine lv_aload_n S.1 S.2.1 dX8_busiest_7 rfl (lv_at hl 0 rfl) ?_
      refine g_get S C hG iX80 0 rfl rfl 2 (by decide) (List.mem_of_getElem? (i := 1) rfl) rfl dX8_busiest_8 ?_
      refine g_get S C hG iX50 15 rfl rfl 0 (by decide) (List.mem_of_getElem? (i := 2) rfl) rfl dX8_busiest_11 ?_
      refine g_get S C hG iX70 16 rfl rfl 1 (by decide) (List.mem_of_getElem? (i := 3) rfl) rfl dX8_busiest_14 ?_
      refine g_icmp_ge (tgt := 44) S dX8_busiest_17 (by decide) (by omega) (by omega) (fun q17 => ?_) (fun q17 => ?_)
      · skip
        refine lv_iload_n S.1 S.2.1 dX8_busiest_44 rfl (lv_at hl 1 rfl) ?_
        have hG : gW K A s.heap [gRLC K ad, gPthV K (ad 8) (ad 27) (ad 35) (ad 28) (ad 29) (ad 30) (ad 31) (ad 32) (ad 33) (ad 34) pv1, gRayU K (ad 35) (ad 36) (ad 37) (ad 38) (ad 39) ps1 pr1 pX1, gScn K (ad 3) (ad 14) (ad 15) (ad 16) (ad 17) ou mi bo ln LF sn SF] _ _ := hG
        exact g_iret S hr hlk hQ dX8_busiest_45 (Nat.le_of_ble_eq_true rfl) (Nat.le_of_ble_eq_true rfl) ((pv1, ps1, pr1, pX1) : PV × Nat × RU × (Int → Int)) (congrArg (fun z : Int => Value.int (iI z)) (by rw [hb.1, show (N 0).toNat = k by omega])) hG
      · skip
        refine lv_aload_n S.1 S.2.1 dX8_busiest_20 rfl (lv_at hl 0 rfl) ?_
        refine lv_iload_n S.1 S.2.1 dX8_busiest_21 rfl (lv_at hl 3 rfl) ?_
        refine g_invV (As := [.int (iI w)]) (rest := []) (gs' := (fun u : PV × Nat × RU × (Int → Int) => [gRLC K ad, gPthV K (ad 8) (ad 27) (ad 35) (ad 28) (ad 29) (ad 30) (ad 31) (ad 32) (ad 33) (ad 34) u.1, gRayU K (ad 35) (ad 36) (ad 37) (ad 38) (ad 39) u.2.1 u.2.2.1 u.2.2.2, gScn K (ad 3) (ad 14) (ad 15) (ad 16) (ad 17) ou mi bo ln LF sn SF])) S C hG [0, 1, 2, 3] (c_X8_legsAcross l K ad ou mi bo ln LF sn SF N pv1 ps1 pr1 pX1 w hS hN (by omega)) rfl rfl 0 rfl rfl (cwV 1 S.2.2.2.2 gX8_busiest_X8_legsAcross rfl rfl rfl (by decide +kernel) ⟨Nat.le_of_ble_eq_true rfl, Nat.le_of_ble_eq_true rfl⟩) rfl hl.1 rfl (Nat.le_of_ble_eq_true rfl) dX8_busiest_22 ⟨Nat.le_of_ble_eq_true rfl, Nat.le_of_ble_eq_true rfl⟩ (fun _ => Nat.le_of_ble_eq_true rfl) (fun _ => rfl) (fun v u H locs hp hG => ?_)
        obtain ⟨pv2_22, ps2_22, pr2_22, pX2_22⟩ := u
        subst hp
        have hG : gW K A s.heap [gRLC K ad, gPthV K (ad 8) (ad 27) (ad 35) (ad 28) (ad 29) (ad 30) (ad 31) (ad 32) (ad 33) (ad 34) pv2_22, gRayU K (ad 35) (ad 36) (ad 37) (ad 38) (ad 39) ps2_22 pr2_22 pX2_22, gScn K (ad 3) (ad 14) (ad 15) (ad 16) (ad 17) ou mi bo ln LF sn SF] _ _ := hG
        have c9 := lacN_bd N (k : Int) (N 4).toNat
        have c7 : ((N 4).toNat : Int) = N 4 := Int.toNat_of_nonneg n3.1
        refine g_top (w := .int (iI (lacN N (k : Int) (N 4).toNat))) (congrArg (fun z : Int => Value.int (iI z)) ((by rw [hw.1]))) ?_
        refine lv_istore (lv' := [(4, .int (iI (lacN N (k : Int) (N 4).toNat))), (0, .ref (ad 0)), (1, .int (iI bb)), (2, .int (iI mm)), (3, .int (iI w))]) S.1 S.2.1 dX8_busiest_25 hl (by decide) rfl (fun ls hl => ?_)
        refine lv_iload S.1 S.2.1 dX8_busiest_27 (lv_at hl 0 rfl) ?_
        refine lv_iload_n S.1 S.2.1 dX8_busiest_29 rfl (lv_at hl 3 rfl) ?_
        refine g_icmp_le (tgt := 38) S dX8_busiest_30 (by decide) (by omega) (by omega) (fun q30 => ?_) (fun q30 => ?_)
        · skip
          refine lv_iinc (v := iI (w + 1)) (lv' := [(3, .int (iI (w + 1))), (4, .int (iI (lacN N (k : Int) (N 4).toNat))), (0, .ref (ad 0)), (1, .int (iI bb)), (2, .int (iI mm))]) S.1 S.2.1 dX8_busiest_38 hl (k := 4) rfl (g_iinc rfl) (by decide) rfl (fun ls hl => ?_)
          refine lv_goto (tgt := 6) S.1 S.2.1 dX8_busiest_41 (by decide) ?_
          exact ih (k + 1) (w + 1) bb mm pv2_22 ps2_22 pr2_22 pX2_22 _ _ _ (by omega) ⟨by omega, by omega⟩ (by have u8 := busN_f (fun i : Nat => lacN N (i : Int) (N 4).toNat) k (by omega) <;> rw [u8] <;> exact hb) (by omega) (lv_sub hl [2, 3, 4, 0] rfl) hG
        · skip
          refine lv_iload_n S.1 S.2.1 dX8_busiest_33 rfl (lv_at hl 4 rfl) ?_
          refine lv_istore_n (lv' := [(1, .int (iI w)), (4, .int (iI (lacN N (k : Int) (N 4).toNat))), (0, .ref (ad 0)), (2, .int (iI mm)), (3, .int (iI w))]) S.1 S.2.1 dX8_busiest_34 rfl hl (by decide) rfl (fun ls hl => ?_)
          refine lv_iload S.1 S.2.1 dX8_busiest_35 (lv_at hl 1 rfl) ?_
          refine lv_istore_n (lv' := [(2, .int (iI (lacN N (k : Int) (N 4).toNat))), (1, .int (iI w)), (4, .int (iI (lacN N (k : Int) (N 4).toNat))), (0, .ref (ad 0)), (3, .int (iI w))]) S.1 S.2.1 dX8_busiest_37 rfl hl (by decide) rfl (fun ls hl => ?_)
          refine lv_iinc (v := iI (w + 1)) (lv' := [(3, .int (iI (w + 1))), (2, .int (iI (lacN N (k : Int) (N 4).toNat))), (1, .int (iI w)), (4, .int (iI (lacN N (k : Int) (N 4).toNat))), (0, .ref (ad 0))]) S.1 S.2.1 dX8_busiest_38 hl (k := 4) rfl (g_iinc rfl) (by decide) rfl (fun ls hl => ?_)
          refine lv_goto (tgt := 6) S.1 S.2.1 dX8_busiest_41 (by decide) ?_
          exact ih (k + 1) (w + 1) w (lacN N (k : Int) (N 4).toNat) pv2_22 ps2_22 pr2_22 pX2_22 _ _ _ (by omega) ⟨by omega, by omega⟩ (by have u8 := busN_t (fun i : Nat => lacN N (i : Int) (N 4).toNat) k (by omega) <;> rw [u8] <;> exact ⟨hw.1, rfl⟩) (by omega) (lv_sub hl [4, 2, 1, 0] rfl) hG
  exact L6 (Nat.succ ((N 0 - 0).toNat)) 0 0 (-1) 0 pv ps pr pX _ _ _ (Nat.lt_succ_self _) ⟨rfl, by omega⟩ ⟨rfl, rfl⟩ (by omega) (lv_sub hl [3, 2, 1, 0] rfl) hG

set_option maxHeartbeats 1000000 in
set_option maxRecDepth 100000 in
theorem c_X8_leg (l : Launch) (K : KC) (ad : Nat → Nat) (ou : Int) (mi : Int) (bo : Int) (ln : Int) (LF : Int → Int) (sn : Int) (SF : Int → Int) (N : Int → Int) (pv : PV) (ps : Nat) (pr : RU) (pX : Int → Int) (y : Int) (x : Int) (z : Int) (hS : ScOk N ou mi bo ln LF sn SF) (hN : NOk0 N) (hv : -2147483648 ≤ y ∧ y < 2147483648) (hs : 0 ≤ y ∧ y < N 4) (hx : -2147483648 ≤ x ∧ x < 2147483648) (hz : -2147483648 ≤ z ∧ z < 2147483648) (h1 : 0 ≤ x ∧ x < (gS N y : Int)) (h2 : 0 ≤ z ∧ z ≤ 6) : mG l yX8_leg wsX8_leg 5 119 K [.ref (ad 0), .int (iI y), .int (iI x), .int (iI z)] [gRLC K ad, gPthV K (ad 8) (ad 27) (ad 35) (ad 28) (ad 29) (ad 30) (ad 31) (ad 32) (ad 33) (ad 34) pv, gRayU K (ad 35) (ad 36) (ad 37) (ad 38) (ad 39) ps pr pX, gScn K (ad 3) (ad 14) (ad 15) (ad 16) (ad 17) ou mi bo ln LF sn SF] (fun (v : Value) (u : Int × PV × RU × (Int → Int)) => (v = .int (iI u.1)) ∧ (PthR N (sP N y) (sY N y) (sD N y) u.2.1) ∧ (u.1 = pick7 z (u.2.1.2.2.1 x) (u.2.1.2.2.2.1 x) (u.2.1.2.2.2.2.1 x) (u.2.1.2.2.2.2.2.1 x) (u.2.1.2.2.2.2.2.2.1 x) (u.2.1.2.2.2.2.2.2.2.1 x) (u.2.1.2.2.2.2.2.2.2.2 x))) (fun (u : Int × PV × RU × (Int → Int)) => [gRLC K ad, gPthV K (ad 8) (ad 27) (ad 35) (ad 28) (ad 29) (ad 30) (ad 31) (ad 32) (ad 33) (ad 34) u.2.1, gRayU K (ad 35) (ad 36) (ad 37) (ad 38) (ad 39) (ad 3) u.2.2.1 u.2.2.2, gScn K (ad 3) (ad 14) (ad 15) (ad 16) (ad 17) ou mi bo ln LF sn SF]) 0 0 := by
  refine mG_of cX8_leg 5 (by decide) rfl (Nat.le_of_ble_eq_true rfl) ?_
  intro p e s m below meth c A ls Q S C hG hl hr hlk hin hQ
  have S : CallFix p m c cX8_leg 5 s ([.ref (ad 0), .int (iI y), .int (iI x), .int (iI z)] : List Value).toArray wsX8_leg RX8 := S
  have iX80 : ∀ w ∈ wsX80, w ∈ wsX8_leg := fun _ h => List.mem_cons_of_mem _ (List.mem_append_left _ (List.mem_append_left _ (List.mem_append_left _ (List.mem_append_left _ (List.mem_append_left _ (List.mem_append_left _ (List.mem_append_right _ (h))))))))
  have iX30 : ∀ w ∈ wsX30, w ∈ wsX8_leg := fun _ h => List.mem_cons_of_mem _ (List.mem_append_left _ (List.mem_append_left _ (List.mem_append_left _ (List.mem_append_left _ (List.mem_append_left _ (List.mem_append_right _ (h)))))))
  have iX50 : ∀ w ∈ wsX50, w ∈ wsX8_leg := fun _ h => List.mem_cons_of_mem _ (List.mem_append_left _ (List.mem_append_left _ (List.mem_append_left _ (List.mem_append_left _ (List.mem_append_right _ (h))))))
  have iX70 : ∀ w ∈ wsX70, w ∈ wsX8_leg := fun _ h => List.mem_cons_of_mem _ (List.mem_append_left _ (List.mem_append_left _ (List.mem_append_left _ (List.mem_append_right _ (h)))))
  have iX40 : ∀ w ∈ wsX40, w ∈ wsX8_leg := fun _ h => List.mem_cons_of_mem _ (List.mem_append_left _ (List.mem_append_left _ (List.mem_append_right _ (h))))
  have hl : lv_has ls 5 [(0, .ref (ad 0)), (1, .int (iI y)), (2, .int (iI x)), (3, .int (iI z))] := hl
  have hG : gW K A s.heap [gRLC K ad, gPthV K (ad 8) (ad 27) (ad 35) (ad 28) (ad 29) (ad 30) (ad 31) (ad 32) (ad 33) (ad 34) pv, gRayU K (ad 35) (ad 36) (ad 37) (ad 38) (ad 39) ps pr pX, gScn K (ad 3) (ad 14) (ad 15) (ad 16) (ad 17) ou mi bo ln LF sn SF] s.heap [] := hG
  obtain ⟨e0, e1, e2, e3, e4, e5, e6⟩ := id hS
  have n0 := hN.1
  have n3 := hN.2.2.2.1
  refine lv_aload_n S.1 S.2.1 dX8_leg_0 rfl (lv_at hl 0 rfl) ?_
  refine lv_iload_n S.1 S.2.1 dX8_leg_1 rfl (lv_at hl 1 rfl) ?_
  refine g_invVv (As := [.int (iI y)]) (rest := []) (gs' := (fun u : Unit => [gRLC K ad, gPthV K (ad 8) (ad 27) (ad 35) (ad 28) (ad 29) (ad 30) (ad 31) (ad 32) (ad 33) (ad 34) pv, gRayU K (ad 35) (ad 36) (ad 37) (ad 38) (ad 39) ps pr pX, gScn K (ad 3) (ad 14) (ad 15) (ad 16) (ad 17) ou mi bo ln LF sn SF])) S C hG [0, 3] (c_X8_checkShot l K ad ou mi bo ln LF sn SF N y hS hN hv hs) rfl rfl 0 rfl rfl (cwV 1 S.2.2.2.2 gX8_leg_X8_checkShot rfl rfl rfl (by decide +kernel) ⟨Nat.le_of_ble_eq_true rfl, Nat.le_of_ble_eq_true rfl⟩) rfl hl.1 rfl (Nat.le_of_ble_eq_true rfl) dX8_leg_2 ⟨Nat.le_of_ble_eq_true rfl, Nat.le_of_ble_eq_true rfl⟩ (fun _ => Nat.le_of_ble_eq_true rfl) (fun _ => rfl) (fun u H locs hp hG => ?_)
  refine lv_aload_n S.1 S.2.1 dX8_leg_5 rfl (lv_at hl 0 rfl) ?_
  refine lv_aload_n S.1 S.2.1 dX8_leg_6 rfl (lv_at hl 0 rfl) ?_
  refine g_get S C hG iX80 0 rfl rfl 7 (by decide) (List.mem_of_getElem? (i := 3) rfl) rfl dX8_leg_7 ?_
  refine lv_iload_n S.1 S.2.1 dX8_leg_10 rfl (lv_at hl 1 rfl) ?_
  refine g_invV (As := [.ref (ad 8), .int (iI y)]) (rest := []) (gs' := (fun u : PV × RU × (Int → Int) => [gRLC K ad, gPthV K (ad 8) (ad 27) (ad 35) (ad 28) (ad 29) (ad 30) (ad 31) (ad 32) (ad 33) (ad 34) u.1, gRayU K (ad 35) (ad 36) (ad 37) (ad 38) (ad 39) (ad 3) u.2.1 u.2.2, gScn K (ad 3) (ad 14) (ad 15) (ad 16) (ad 17) ou mi bo ln LF sn SF])) S C hG [0, 1, 2, 3] (c_X8_pathOf l K ad ou mi bo ln LF sn SF N (ad 8) (ad 27) (ad 35) (ad 28) (ad 29) (ad 30) (ad 31) (ad 32) (ad 33) (ad 34) (ad 36) (ad 37) (ad 38) (ad 39) pv ps pr pX y hS hN hs) rfl rfl 0 rfl rfl (cwV 2 S.2.2.2.2 gX8_leg_X8_pathOf rfl rfl rfl (by decide +kernel) ⟨Nat.le_of_ble_eq_true rfl, Nat.le_of_ble_eq_true rfl⟩) rfl hl.1 rfl (Nat.le_of_ble_eq_true rfl) dX8_leg_11 ⟨Nat.le_of_ble_eq_true rfl, Nat.le_of_ble_eq_true rfl⟩ (fun _ => Nat.le_of_ble_eq_true rfl) (fun _ => rfl) (fun v u H locs hp hG => ?_)
  obtain ⟨pv2_11, pr2_11, pX2_11⟩ := u
  obtain ⟨rfl, hp_11⟩ := hp
  have hp_11 : PthR N (sP N y) (sY N y) (sD N y) pv2_11 := hp_11
  have hG : gW K A s.heap [gRLC K ad, gPthV K (ad 8) (ad 27) (ad 35) (ad 28) (ad 29) (ad 30) (ad 31) (ad 32) (ad 33) (ad 34) pv2_11, gRayU K (ad 35) (ad 36) (ad 37) (ad 38) (ad 39) (ad 3) pr2_11 pX2_11, gScn K (ad 3) (ad 14) (ad 15) (ad 16) (ad 17) ou mi bo ln LF sn SF] _ _ := hG
  have g4 := sho_bd hN hs.1 hs.2
  obtain ⟨b1, b2, b3, b4⟩ := hp_11.bd hN g4.2.2.1 g4.2.1
  have b5 : pv2_11.1 = (gS N y : Int) := b2
  refine lv_astore (lv' := [(4, .ref (ad 8)), (0, .ref (ad 0)), (1, .int (iI y)), (2, .int (iI x)), (3, .int (iI z))]) S.1 S.2.1 dX8_leg_14 hl (by decide) rfl (fun ls hl => ?_)
  refine lv_iload_n S.1 S.2.1 dX8_leg_16 rfl (lv_at hl 3 rfl) ?_
  refine g_if_lt (tgt := 29) S dX8_leg_17 (by decide) (by omega) (fun q17 => ?_) (fun q17 => ?_)
  · skip
    omega
  · skip
    refine lv_iload_n S.1 S.2.1 dX8_leg_20 rfl (lv_at hl 3 rfl) ?_
    refine lv_aload S.1 S.2.1 dX8_leg_21 (lv_at hl 0 rfl) ?_
    refine g_get S C hG iX30 1 rfl rfl 2 (by decide) (List.mem_of_getElem? (i := 4) rfl) rfl dX8_leg_23 ?_
    refine g_icmp_lt (tgt := 39) S dX8_leg_26 (by decide) (by omega) (by omega) (fun q26 => ?_) (fun q26 => ?_)
    · skip
      refine lv_iload_n S.1 S.2.1 dX8_leg_39 rfl (lv_at hl 4 rfl) ?_
      refine g_iconst S dX8_leg_40 ?_
      refine g_bipush S dX8_leg_41 (by decide) ?_
      refine g_invSv (As := [.int (iI z), .int (iI 0), .int (iI 6)]) (rest := []) (gs' := (fun u : Unit => [gRLC K ad, gPthV K (ad 8) (ad 27) (ad 35) (ad 28) (ad 29) (ad 30) (ad 31) (ad 32) (ad 33) (ad 34) pv2_11, gRayU K (ad 35) (ad 36) (ad 37) (ad 38) (ad 39) (ad 3) pr2_11 pX2_11, gScn K (ad 3) (ad 14) (ad 15) (ad 16) (ad 17) ou mi bo ln LF sn SF])) S C hG [] (c_X8_checkRange l K z 0 6 hz (by omega) (by omega) h2) rfl rfl (va_cwS 3 S.2.2.2.2 gX8_leg_X8_checkRange rfl rfl rfl (by decide +kernel) ⟨Nat.le_of_ble_eq_true rfl, Nat.le_of_ble_eq_true rfl⟩) rfl hl.1 rfl (Nat.le_of_ble_eq_true rfl) dX8_leg_43 ⟨Nat.le_of_ble_eq_true rfl, Nat.le_of_ble_eq_true rfl⟩ (fun _ => Nat.le_of_ble_eq_true rfl) (fun _ => rfl) (fun u H locs hp hG => ?_)
      refine lv_aload S.1 S.2.1 dX8_leg_46 (lv_at hl 0 rfl) ?_
      refine lv_iload_n S.1 S.2.1 dX8_leg_48 rfl (lv_at hl 3 rfl) ?_
      refine lv_iload_n S.1 S.2.1 dX8_leg_49 rfl (lv_at hl 4 rfl) ?_
      have hG : gW K A s.heap [gRLC K ad, gPth K (ad 8) (ad 27) (ad 35) pv2_11.1 pv2_11.2.1 (ad 28) (ad 29) (ad 30) (ad 31) (ad 32) (ad 33) (ad 34) pv2_11.2.2.1 pv2_11.2.2.2.1 pv2_11.2.2.2.2.1 pv2_11.2.2.2.2.2.1 pv2_11.2.2.2.2.2.2.1 pv2_11.2.2.2.2.2.2.2.1 pv2_11.2.2.2.2.2.2.2.2, gRayU K (ad 35) (ad 36) (ad 37) (ad 38) (ad 39) (ad 3) pr2_11 pX2_11, gScn K (ad 3) (ad 14) (ad 15) (ad 16) (ad 17) ou mi bo ln LF sn SF] _ _ := hG
      refine g_invV (As := [.int (iI x), .int (iI z)]) (rest := []) (gs' := (fun u : Unit => [gRLC K ad, gPth K (ad 8) (ad 27) (ad 35) pv2_11.1 pv2_11.2.1 (ad 28) (ad 29) (ad 30) (ad 31) (ad 32) (ad 33) (ad 34) pv2_11.2.2.1 pv2_11.2.2.2.1 pv2_11.2.2.2.2.1 pv2_11.2.2.2.2.2.1 pv2_11.2.2.2.2.2.2.1 pv2_11.2.2.2.2.2.2.2.1 pv2_11.2.2.2.2.2.2.2.2, gRayU K (ad 35) (ad 36) (ad 37) (ad 38) (ad 39) (ad 3) pr2_11 pX2_11, gScn K (ad 3) (ad 14) (ad 15) (ad 16) (ad 17) ou mi bo ln LF sn SF])) S C hG [1] (c_X3_getw l K (ad 8) (ad 27) (ad 35) pv2_11.1 pv2_11.2.1 (ad 28) (ad 29) (ad 30) (ad 31) (ad 32) (ad 33) (ad 34) pv2_11.2.2.1 pv2_11.2.2.2.1 pv2_11.2.2.2.2.1 pv2_11.2.2.2.2.2.1 pv2_11.2.2.2.2.2.2.1 pv2_11.2.2.2.2.2.2.2.1 pv2_11.2.2.2.2.2.2.2.2 x z (by omega) (by omega) h2) rfl rfl 0 rfl rfl (cwV 2 S.2.2.2.2 gX8_leg_X3_get rfl rfl rfl (by decide +kernel) ⟨Nat.le_of_ble_eq_true rfl, Nat.le_of_ble_eq_true rfl⟩) rfl hl.1 rfl (Nat.le_of_ble_eq_true rfl) dX8_leg_50 ⟨Nat.le_of_ble_eq_true rfl, Nat.le_of_ble_eq_true rfl⟩ (fun _ => Nat.le_of_ble_eq_true rfl) (fun _ => rfl) (fun v u H locs hp hG => ?_)
      subst hp
      have hG : gW K A s.heap [gRLC K ad, gPthV K (ad 8) (ad 27) (ad 35) (ad 28) (ad 29) (ad 30) (ad 31) (ad 32) (ad 33) (ad 34) pv2_11, gRayU K (ad 35) (ad 36) (ad 37) (ad 38) (ad 39) (ad 3) pr2_11 pX2_11, gScn K (ad 3) (ad 14) (ad 15) (ad 16) (ad 17) ou mi bo ln LF sn SF] _ _ := hG
      exact g_iret S hr hlk hQ dX8_leg_53 (Nat.le_of_ble_eq_true rfl) (Nat.le_of_ble_eq_true rfl) ((if x < pv2_11.1 then pick7 z (pv2_11.2.2.1 x) (pv2_11.2.2.2.1 x) (pv2_11.2.2.2.2.1 x) (pv2_11.2.2.2.2.2.1 x) (pv2_11.2.2.2.2.2.2.1 x) (pv2_11.2.2.2.2.2.2.2.1 x) (pv2_11.2.2.2.2.2.2.2.2 x) else 0, pv2_11, pr2_11, pX2_11) : Int × PV × RU × (Int → Int)) ⟨rfl, hp_11, (if_pos (by omega))⟩ hG
    · skip
      omega

set_option maxHeartbeats 1000000 in
set_option maxRecDepth 100000 in
theorem x1_leg (l : Launch) (K : KC) (ad : Nat → Nat) (ou : Int) (mi : Int) (bo : Int) (ln : Int) (LF : Int → Int) (sn : Int) (SF : Int → Int) (N : Int → Int) (pv : PV) (ps : Nat) (pr : RU) (pX : Int → Int) (y : Int) (x : Int) (z : Int) (hS : ScOk N ou mi bo ln LF sn SF) (hN : NOk0 N) (hv : -2147483648 ≤ y ∧ y < 2147483648) (hx : -2147483648 ≤ x ∧ x < 2147483648) (hz : -2147483648 ≤ z ∧ z < 2147483648) (h0 : ¬ (0 ≤ y ∧ y < N 4)) (hst : l.stackTraces = false) : mX l yX8_leg wsX8_leg 7 103 K [.ref (ad 0), .int (iI y), .int (iI x), .int (iI z)] [gRLC K ad, gPthV K (ad 8) (ad 27) (ad 35) (ad 28) (ad 29) (ad 30) (ad 31) (ad 32) (ad 33) (ad 34) pv, gRayU K (ad 35) (ad 36) (ad 37) (ad 38) (ad 39) ps pr pX, gScn K (ad 3) (ad 14) (ad 15) (ad 16) (ad 17) ou mi bo ln LF sn SF] "java/lang/IndexOutOfBoundsException" (fun (u : Unit) => True) (fun (u : Unit) => [gRLC K ad, gPthV K (ad 8) (ad 27) (ad 35) (ad 28) (ad 29) (ad 30) (ad 31) (ad 32) (ad 33) (ad 34) pv, gRayU K (ad 35) (ad 36) (ad 37) (ad 38) (ad 39) ps pr pX, gScn K (ad 3) (ad 14) (ad 15) (ad 16) (ad 17) ou mi bo ln LF sn SF]) 1 6 := by
  refine mX_of cX8_leg 5 (by decide) rfl (Nat.le_of_ble_eq_true rfl) ?_
  intro p e s m below meth c A ls Q S C hG hl hex hlk hin hQ
  have S : CallFix p m c cX8_leg 5 s ([.ref (ad 0), .int (iI y), .int (iI x), .int (iI z)] : List Value).toArray wsX8_leg RX8 := S
  have iX80 : ∀ w ∈ wsX80, w ∈ wsX8_leg := fun _ h => List.mem_cons_of_mem _ (List.mem_append_left _ (List.mem_append_left _ (List.mem_append_left _ (List.mem_append_left _ (List.mem_append_left _ (List.mem_append_left _ (List.mem_append_right _ (h))))))))
  have iX30 : ∀ w ∈ wsX30, w ∈ wsX8_leg := fun _ h => List.mem_cons_of_mem _ (List.mem_append_left _ (List.mem_append_left _ (List.mem_append_left _ (List.mem_append_left _ (List.mem_append_left _ (List.mem_append_right _ (h)))))))
  have iX50 : ∀ w ∈ wsX50, w ∈ wsX8_leg := fun _ h => List.mem_cons_of_mem _ (List.mem_append_left _ (List.mem_append_left _ (List.mem_append_left _ (List.mem_append_left _ (List.mem_append_right _ (h))))))
  have iX70 : ∀ w ∈ wsX70, w ∈ wsX8_leg := fun _ h => List.mem_cons_of_mem _ (List.mem_append_left _ (List.mem_append_left _ (List.mem_append_left _ (List.mem_append_right _ (h)))))
  have iX40 : ∀ w ∈ wsX40, w ∈ wsX8_leg := fun _ h => List.mem_cons_of_mem _ (List.mem_append_left _ (List.mem_append_left _ (List.mem_append_right _ (h))))
  have hl : lv_has ls 5 [(0, .ref (ad 0)), (1, .int (iI y)), (2, .int (iI x)), (3, .int (iI z))] := hl
  have hG : gW K A s.heap [gRLC K ad, gPthV K (ad 8) (ad 27) (ad 35) (ad 28) (ad 29) (ad 30) (ad 31) (ad 32) (ad 33) (ad 34) pv, gRayU K (ad 35) (ad 36) (ad 37) (ad 38) (ad 39) ps pr pX, gScn K (ad 3) (ad 14) (ad 15) (ad 16) (ad 17) ou mi bo ln LF sn SF] s.heap [] := hG
  obtain ⟨e0, e1, e2, e3, e4, e5, e6⟩ := id hS
  have n0 := hN.1
  have n3 := hN.2.2.2.1
  refine lv_aload_n S.1 S.2.1 dX8_leg_0 rfl (lv_at hl 0 rfl) ?_
  refine lv_iload_n S.1 S.2.1 dX8_leg_1 rfl (lv_at hl 1 rfl) ?_
  refine g_xV (E := "java/lang/IndexOutOfBoundsException") (As := [.int (iI y)]) (rest := []) (gs' := (fun u : Unit => [gRLC K ad, gPthV K (ad 8) (ad 27) (ad 35) (ad 28) (ad 29) (ad 30) (ad 31) (ad 32) (ad 33) (ad 34) pv, gRayU K (ad 35) (ad 36) (ad 37) (ad 38) (ad 39) ps pr pX, gScn K (ad 3) (ad 14) (ad 15) (ad 16) (ad 17) ou mi bo ln LF sn SF])) S C hG [0, 3] (x_checkShot l K ad ou mi bo ln LF sn SF N y hS hN hv h0 hst) rfl rfl 0 rfl rfl (cwV 1 S.2.2.2.2 gX8_leg_X8_checkShot rfl rfl rfl (by decide +kernel) ⟨Nat.le_of_ble_eq_true rfl, Nat.le_of_ble_eq_true rfl⟩) rfl hl.1 rfl (Nat.le_of_ble_eq_true rfl) dX8_leg_2 ⟨Nat.le_of_ble_eq_true rfl, Nat.le_of_ble_eq_true rfl⟩ (fun _ => Nat.le_of_ble_eq_true rfl) (fun _ => rfl) (fun u q9 ce9 H locs hp hG hq9 hv9 hcl9 => ?_)
  have hG : gW K A s.heap [gRLC K ad, gPthV K (ad 8) (ad 27) (ad 35) (ad 28) (ad 29) (ad 30) (ad 31) (ad 32) (ad 33) (ad 34) pv, gRayU K (ad 35) (ad 36) (ad 37) (ad 38) (ad 39) ps pr pX, gScn K (ad 3) (ad 14) (ad 15) (ad 16) (ad 17) ou mi bo ln LF sn SF] _ _ := hG
  exact g_xout hQ hex hlk hq9 hv9 hcl9 (Nat.le_of_ble_eq_true rfl) (Nat.le_of_ble_eq_true rfl) (() : Unit) trivial hG

set_option maxHeartbeats 1000000 in
set_option maxRecDepth 100000 in
theorem x2_leg (l : Launch) (K : KC) (ad : Nat → Nat) (ou : Int) (mi : Int) (bo : Int) (ln : Int) (LF : Int → Int) (sn : Int) (SF : Int → Int) (N : Int → Int) (pv : PV) (ps : Nat) (pr : RU) (pX : Int → Int) (y : Int) (x : Int) (z : Int) (hS : ScOk N ou mi bo ln LF sn SF) (hN : NOk0 N) (hv : -2147483648 ≤ y ∧ y < 2147483648) (hx : -2147483648 ≤ x ∧ x < 2147483648) (hz : -2147483648 ≤ z ∧ z < 2147483648) (hs : 0 ≤ y ∧ y < N 4) (h1 : ¬ (0 ≤ x ∧ x < (gS N y : Int))) (hst : l.stackTraces = false) : mX l yX8_leg wsX8_leg 6 119 K [.ref (ad 0), .int (iI y), .int (iI x), .int (iI z)] [gRLC K ad, gPthV K (ad 8) (ad 27) (ad 35) (ad 28) (ad 29) (ad 30) (ad 31) (ad 32) (ad 33) (ad 34) pv, gRayU K (ad 35) (ad 36) (ad 37) (ad 38) (ad 39) ps pr pX, gScn K (ad 3) (ad 14) (ad 15) (ad 16) (ad 17) ou mi bo ln LF sn SF] "java/lang/IndexOutOfBoundsException" (fun (u : PV × RU × (Int → Int)) => True) (fun (u : PV × RU × (Int → Int)) => [gRLC K ad, gPthV K (ad 8) (ad 27) (ad 35) (ad 28) (ad 29) (ad 30) (ad 31) (ad 32) (ad 33) (ad 34) u.1, gRayU K (ad 35) (ad 36) (ad 37) (ad 38) (ad 39) (ad 3) u.2.1 u.2.2, gScn K (ad 3) (ad 14) (ad 15) (ad 16) (ad 17) ou mi bo ln LF sn SF]) 1 6 := by
  refine mX_of cX8_leg 5 (by decide) rfl (Nat.le_of_ble_eq_true rfl) ?_
  intro p e s m below meth c A ls Q S C hG hl hex hlk hin hQ
  have S : CallFix p m c cX8_leg 5 s ([.ref (ad 0), .int (iI y), .int (iI x), .int (iI z)] : List Value).toArray wsX8_leg RX8 := S
  have iX80 : ∀ w ∈ wsX80, w ∈ wsX8_leg := fun _ h => List.mem_cons_of_mem _ (List.mem_append_left _ (List.mem_append_left _ (List.mem_append_left _ (List.mem_append_left _ (List.mem_append_left _ (List.mem_append_left _ (List.mem_append_right _ (h))))))))
  have iX30 : ∀ w ∈ wsX30, w ∈ wsX8_leg := fun _ h => List.mem_cons_of_mem _ (List.mem_append_left _ (List.mem_append_left _ (List.mem_append_left _ (List.mem_append_left _ (List.mem_append_left _ (List.mem_append_right _ (h)))))))
  have iX50 : ∀ w ∈ wsX50, w ∈ wsX8_leg := fun _ h => List.mem_cons_of_mem _ (List.mem_append_left _ (List.mem_append_left _ (List.mem_append_left _ (List.mem_append_left _ (List.mem_append_right _ (h))))))
  have iX70 : ∀ w ∈ wsX70, w ∈ wsX8_leg := fun _ h => List.mem_cons_of_mem _ (List.mem_append_left _ (List.mem_append_left _ (List.mem_append_left _ (List.mem_append_right _ (h)))))
  have iX40 : ∀ w ∈ wsX40, w ∈ wsX8_leg := fun _ h => List.mem_cons_of_mem _ (List.mem_append_left _ (List.mem_append_left _ (List.mem_append_right _ (h))))
  have hl : lv_has ls 5 [(0, .ref (ad 0)), (1, .int (iI y)), (2, .int (iI x)), (3, .int (iI z))] := hl
  have hG : gW K A s.heap [gRLC K ad, gPthV K (ad 8) (ad 27) (ad 35) (ad 28) (ad 29) (ad 30) (ad 31) (ad 32) (ad 33) (ad 34) pv, gRayU K (ad 35) (ad 36) (ad 37) (ad 38) (ad 39) ps pr pX, gScn K (ad 3) (ad 14) (ad 15) (ad 16) (ad 17) ou mi bo ln LF sn SF] s.heap [] := hG
  obtain ⟨e0, e1, e2, e3, e4, e5, e6⟩ := id hS
  have n0 := hN.1
  have n3 := hN.2.2.2.1
  refine lv_aload_n S.1 S.2.1 dX8_leg_0 rfl (lv_at hl 0 rfl) ?_
  refine lv_iload_n S.1 S.2.1 dX8_leg_1 rfl (lv_at hl 1 rfl) ?_
  refine g_invVv (As := [.int (iI y)]) (rest := []) (gs' := (fun u : Unit => [gRLC K ad, gPthV K (ad 8) (ad 27) (ad 35) (ad 28) (ad 29) (ad 30) (ad 31) (ad 32) (ad 33) (ad 34) pv, gRayU K (ad 35) (ad 36) (ad 37) (ad 38) (ad 39) ps pr pX, gScn K (ad 3) (ad 14) (ad 15) (ad 16) (ad 17) ou mi bo ln LF sn SF])) S C hG [0, 3] (c_X8_checkShot l K ad ou mi bo ln LF sn SF N y hS hN hv hs) rfl rfl 0 rfl rfl (cwV 1 S.2.2.2.2 gX8_leg_X8_checkShot rfl rfl rfl (by decide +kernel) ⟨Nat.le_of_ble_eq_true rfl, Nat.le_of_ble_eq_true rfl⟩) rfl hl.1 rfl (Nat.le_of_ble_eq_true rfl) dX8_leg_2 ⟨Nat.le_of_ble_eq_true rfl, Nat.le_of_ble_eq_true rfl⟩ (fun _ => Nat.le_of_ble_eq_true rfl) (fun _ => rfl) (fun u H locs hp hG => ?_)
  refine lv_aload_n S.1 S.2.1 dX8_leg_5 rfl (lv_at hl 0 rfl) ?_
  refine lv_aload_n S.1 S.2.1 dX8_leg_6 rfl (lv_at hl 0 rfl) ?_
  refine g_get S C hG iX80 0 rfl rfl 7 (by decide) (List.mem_of_getElem? (i := 3) rfl) rfl dX8_leg_7 ?_
  refine lv_iload_n S.1 S.2.1 dX8_leg_10 rfl (lv_at hl 1 rfl) ?_
  refine g_invV (As := [.ref (ad 8), .int (iI y)]) (rest := []) (gs' := (fun u : PV × RU × (Int → Int) => [gRLC K ad, gPthV K (ad 8) (ad 27) (ad 35) (ad 28) (ad 29) (ad 30) (ad 31) (ad 32) (ad 33) (ad 34) u.1, gRayU K (ad 35) (ad 36) (ad 37) (ad 38) (ad 39) (ad 3) u.2.1 u.2.2, gScn K (ad 3) (ad 14) (ad 15) (ad 16) (ad 17) ou mi bo ln LF sn SF])) S C hG [0, 1, 2, 3] (c_X8_pathOf l K ad ou mi bo ln LF sn SF N (ad 8) (ad 27) (ad 35) (ad 28) (ad 29) (ad 30) (ad 31) (ad 32) (ad 33) (ad 34) (ad 36) (ad 37) (ad 38) (ad 39) pv ps pr pX y hS hN hs) rfl rfl 0 rfl rfl (cwV 2 S.2.2.2.2 gX8_leg_X8_pathOf rfl rfl rfl (by decide +kernel) ⟨Nat.le_of_ble_eq_true rfl, Nat.le_of_ble_eq_true rfl⟩) rfl hl.1 rfl (Nat.le_of_ble_eq_true rfl) dX8_leg_11 ⟨Nat.le_of_ble_eq_true rfl, Nat.le_of_ble_eq_true rfl⟩ (fun _ => Nat.le_of_ble_eq_true rfl) (fun _ => rfl) (fun v u H locs hp hG => ?_)
  obtain ⟨pv2_11, pr2_11, pX2_11⟩ := u
  obtain ⟨rfl, hp_11⟩ := hp
  have hp_11 : PthR N (sP N y) (sY N y) (sD N y) pv2_11 := hp_11
  have hG : gW K A s.heap [gRLC K ad, gPthV K (ad 8) (ad 27) (ad 35) (ad 28) (ad 29) (ad 30) (ad 31) (ad 32) (ad 33) (ad 34) pv2_11, gRayU K (ad 35) (ad 36) (ad 37) (ad 38) (ad 39) (ad 3) pr2_11 pX2_11, gScn K (ad 3) (ad 14) (ad 15) (ad 16) (ad 17) ou mi bo ln LF sn SF] _ _ := hG
  have g4 := sho_bd hN hs.1 hs.2
  obtain ⟨b1, b2, b3, b4⟩ := hp_11.bd hN g4.2.2.1 g4.2.1
  have b5 : pv2_11.1 = (gS N y : Int) := b2
  refine lv_astore (lv' := [(4, .ref (ad 8)), (0, .ref (ad 0)), (1, .int (iI y)), (2, .int (iI x)), (3, .int (iI z))]) S.1 S.2.1 dX8_leg_14 hl (by decide) rfl (fun ls hl => ?_)
  refine lv_iload_n S.1 S.2.1 dX8_leg_16 rfl (lv_at hl 3 rfl) ?_
  refine g_if_lt (tgt := 29) S dX8_leg_17 (by decide) (by omega) (fun q17 => ?_) (fun q17 => ?_)
  · skip
    have hG : gW K A s.heap [gRLC K ad, gPthV K (ad 8) (ad 27) (ad 35) (ad 28) (ad 29) (ad 30) (ad 31) (ad 32) (ad 33) (ad 34) pv2_11, gRayU K (ad 35) (ad 36) (ad 37) (ad 38) (ad 39) (ad 3) pr2_11 pX2_11, gScn K (ad 3) (ad 14) (ad 15) (ad 16) (ad 17) ou mi bo ln LF sn SF] _ _ := hG
    exact g_thrS S C hl.1 hst hQ hex hlk th_ex_200 th_ft_200 (List.mem_of_getElem? (i := 1) rfl) (List.mem_of_getElem? (i := 2) rfl) (List.mem_of_getElem? (l := strW) (i := 16) rfl) (fun w hw => List.mem_cons_of_mem _ (List.mem_append_left _ (List.mem_append_right _ (hw)))) th_ng_200 th_gd_200 dX8_leg_29 dX8_leg_32 dX8_leg_33 dX8_leg_35 dX8_leg_38 ⟨Nat.le_of_ble_eq_true rfl, Nat.le_of_ble_eq_true rfl, Nat.le_of_ble_eq_true rfl, Nat.le_of_ble_eq_true rfl⟩ (Nat.le_of_ble_eq_true rfl) (Nat.le_of_ble_eq_true rfl) ((pv2_11, pr2_11, pX2_11) : PV × RU × (Int → Int)) trivial hG
  · skip
    refine lv_iload_n S.1 S.2.1 dX8_leg_20 rfl (lv_at hl 3 rfl) ?_
    refine lv_aload S.1 S.2.1 dX8_leg_21 (lv_at hl 0 rfl) ?_
    refine g_get S C hG iX30 1 rfl rfl 2 (by decide) (List.mem_of_getElem? (i := 4) rfl) rfl dX8_leg_23 ?_
    refine g_icmp_lt (tgt := 39) S dX8_leg_26 (by decide) (by omega) (by omega) (fun q26 => ?_) (fun q26 => ?_)
    · skip
      omega
    · skip
      have hG : gW K A s.heap [gRLC K ad, gPthV K (ad 8) (ad 27) (ad 35) (ad 28) (ad 29) (ad 30) (ad 31) (ad 32) (ad 33) (ad 34) pv2_11, gRayU K (ad 35) (ad 36) (ad 37) (ad 38) (ad 39) (ad 3) pr2_11 pX2_11, gScn K (ad 3) (ad 14) (ad 15) (ad 16) (ad 17) ou mi bo ln LF sn SF] _ _ := hG
      exact g_thrS S C hl.1 hst hQ hex hlk th_ex_200 th_ft_200 (List.mem_of_getElem? (i := 1) rfl) (List.mem_of_getElem? (i := 2) rfl) (List.mem_of_getElem? (l := strW) (i := 16) rfl) (fun w hw => List.mem_cons_of_mem _ (List.mem_append_left _ (List.mem_append_right _ (hw)))) th_ng_200 th_gd_200 dX8_leg_29 dX8_leg_32 dX8_leg_33 dX8_leg_35 dX8_leg_38 ⟨Nat.le_of_ble_eq_true rfl, Nat.le_of_ble_eq_true rfl, Nat.le_of_ble_eq_true rfl, Nat.le_of_ble_eq_true rfl⟩ (Nat.le_of_ble_eq_true rfl) (Nat.le_of_ble_eq_true rfl) ((pv2_11, pr2_11, pX2_11) : PV × RU × (Int → Int)) trivial hG

set_option maxHeartbeats 1000000 in
set_option maxRecDepth 100000 in
theorem x3_leg (l : Launch) (K : KC) (ad : Nat → Nat) (ou : Int) (mi : Int) (bo : Int) (ln : Int) (LF : Int → Int) (sn : Int) (SF : Int → Int) (N : Int → Int) (pv : PV) (ps : Nat) (pr : RU) (pX : Int → Int) (y : Int) (x : Int) (z : Int) (hS : ScOk N ou mi bo ln LF sn SF) (hN : NOk0 N) (hv : -2147483648 ≤ y ∧ y < 2147483648) (hx : -2147483648 ≤ x ∧ x < 2147483648) (hz : -2147483648 ≤ z ∧ z < 2147483648) (hs : 0 ≤ y ∧ y < N 4) (h1 : 0 ≤ x ∧ x < (gS N y : Int)) (h2 : ¬ (0 ≤ z ∧ z ≤ 6)) (hst : l.stackTraces = false) : mX l yX8_leg wsX8_leg 7 119 K [.ref (ad 0), .int (iI y), .int (iI x), .int (iI z)] [gRLC K ad, gPthV K (ad 8) (ad 27) (ad 35) (ad 28) (ad 29) (ad 30) (ad 31) (ad 32) (ad 33) (ad 34) pv, gRayU K (ad 35) (ad 36) (ad 37) (ad 38) (ad 39) ps pr pX, gScn K (ad 3) (ad 14) (ad 15) (ad 16) (ad 17) ou mi bo ln LF sn SF] "java/lang/IllegalArgumentException" (fun (u : PV × RU × (Int → Int)) => True) (fun (u : PV × RU × (Int → Int)) => [gRLC K ad, gPthV K (ad 8) (ad 27) (ad 35) (ad 28) (ad 29) (ad 30) (ad 31) (ad 32) (ad 33) (ad 34) u.1, gRayU K (ad 35) (ad 36) (ad 37) (ad 38) (ad 39) (ad 3) u.2.1 u.2.2, gScn K (ad 3) (ad 14) (ad 15) (ad 16) (ad 17) ou mi bo ln LF sn SF]) 1 6 := by
  refine mX_of cX8_leg 5 (by decide) rfl (Nat.le_of_ble_eq_true rfl) ?_
  intro p e s m below meth c A ls Q S C hG hl hex hlk hin hQ
  have S : CallFix p m c cX8_leg 5 s ([.ref (ad 0), .int (iI y), .int (iI x), .int (iI z)] : List Value).toArray wsX8_leg RX8 := S
  have iX80 : ∀ w ∈ wsX80, w ∈ wsX8_leg := fun _ h => List.mem_cons_of_mem _ (List.mem_append_left _ (List.mem_append_left _ (List.mem_append_left _ (List.mem_append_left _ (List.mem_append_left _ (List.mem_append_left _ (List.mem_append_right _ (h))))))))
  have iX30 : ∀ w ∈ wsX30, w ∈ wsX8_leg := fun _ h => List.mem_cons_of_mem _ (List.mem_append_left _ (List.mem_append_left _ (List.mem_append_left _ (List.mem_append_left _ (List.mem_append_left _ (List.mem_append_right _ (h)))))))
  have iX50 : ∀ w ∈ wsX50, w ∈ wsX8_leg := fun _ h => List.mem_cons_of_mem _ (List.mem_append_left _ (List.mem_append_left _ (List.mem_append_left _ (List.mem_append_left _ (List.mem_append_right _ (h))))))
  have iX70 : ∀ w ∈ wsX70, w ∈ wsX8_leg := fun _ h => List.mem_cons_of_mem _ (List.mem_append_left _ (List.mem_append_left _ (List.mem_append_left _ (List.mem_append_right _ (h)))))
  have iX40 : ∀ w ∈ wsX40, w ∈ wsX8_leg := fun _ h => List.mem_cons_of_mem _ (List.mem_append_left _ (List.mem_append_left _ (List.mem_append_right _ (h))))
  have hl : lv_has ls 5 [(0, .ref (ad 0)), (1, .int (iI y)), (2, .int (iI x)), (3, .int (iI z))] := hl
  have hG : gW K A s.heap [gRLC K ad, gPthV K (ad 8) (ad 27) (ad 35) (ad 28) (ad 29) (ad 30) (ad 31) (ad 32) (ad 33) (ad 34) pv, gRayU K (ad 35) (ad 36) (ad 37) (ad 38) (ad 39) ps pr pX, gScn K (ad 3) (ad 14) (ad 15) (ad 16) (ad 17) ou mi bo ln LF sn SF] s.heap [] := hG
  obtain ⟨e0, e1, e2, e3, e4, e5, e6⟩ := id hS
  have n0 := hN.1
  have n3 := hN.2.2.2.1
  refine lv_aload_n S.1 S.2.1 dX8_leg_0 rfl (lv_at hl 0 rfl) ?_
  refine lv_iload_n S.1 S.2.1 dX8_leg_1 rfl (lv_at hl 1 rfl) ?_
  refine g_invVv (As := [.int (iI y)]) (rest := []) (gs' := (fun u : Unit => [gRLC K ad, gPthV K (ad 8) (ad 27) (ad 35) (ad 28) (ad 29) (ad 30) (ad 31) (ad 32) (ad 33) (ad 34) pv, gRayU K (ad 35) (ad 36) (ad 37) (ad 38) (ad 39) ps pr pX, gScn K (ad 3) (ad 14) (ad 15) (ad 16) (ad 17) ou mi bo ln LF sn SF])) S C hG [0, 3] (c_X8_checkShot l K ad ou mi bo ln LF sn SF N y hS hN hv hs) rfl rfl 0 rfl rfl (cwV 1 S.2.2.2.2 gX8_leg_X8_checkShot rfl rfl rfl (by decide +kernel) ⟨Nat.le_of_ble_eq_true rfl, Nat.le_of_ble_eq_true rfl⟩) rfl hl.1 rfl (Nat.le_of_ble_eq_true rfl) dX8_leg_2 ⟨Nat.le_of_ble_eq_true rfl, Nat.le_of_ble_eq_true rfl⟩ (fun _ => Nat.le_of_ble_eq_true rfl) (fun _ => rfl) (fun u H locs hp hG => ?_)
  refine lv_aload_n S.1 S.2.1 dX8_leg_5 rfl (lv_at hl 0 rfl) ?_
  refine lv_aload_n S.1 S.2.1 dX8_leg_6 rfl (lv_at hl 0 rfl) ?_
  refine g_get S C hG iX80 0 rfl rfl 7 (by decide) (List.mem_of_getElem? (i := 3) rfl) rfl dX8_leg_7 ?_
  refine lv_iload_n S.1 S.2.1 dX8_leg_10 rfl (lv_at hl 1 rfl) ?_
  refine g_invV (As := [.ref (ad 8), .int (iI y)]) (rest := []) (gs' := (fun u : PV × RU × (Int → Int) => [gRLC K ad, gPthV K (ad 8) (ad 27) (ad 35) (ad 28) (ad 29) (ad 30) (ad 31) (ad 32) (ad 33) (ad 34) u.1, gRayU K (ad 35) (ad 36) (ad 37) (ad 38) (ad 39) (ad 3) u.2.1 u.2.2, gScn K (ad 3) (ad 14) (ad 15) (ad 16) (ad 17) ou mi bo ln LF sn SF])) S C hG [0, 1, 2, 3] (c_X8_pathOf l K ad ou mi bo ln LF sn SF N (ad 8) (ad 27) (ad 35) (ad 28) (ad 29) (ad 30) (ad 31) (ad 32) (ad 33) (ad 34) (ad 36) (ad 37) (ad 38) (ad 39) pv ps pr pX y hS hN hs) rfl rfl 0 rfl rfl (cwV 2 S.2.2.2.2 gX8_leg_X8_pathOf rfl rfl rfl (by decide +kernel) ⟨Nat.le_of_ble_eq_true rfl, Nat.le_of_ble_eq_true rfl⟩) rfl hl.1 rfl (Nat.le_of_ble_eq_true rfl) dX8_leg_11 ⟨Nat.le_of_ble_eq_true rfl, Nat.le_of_ble_eq_true rfl⟩ (fun _ => Nat.le_of_ble_eq_true rfl) (fun _ => rfl) (fun v u H locs hp hG => ?_)
  obtain ⟨pv2_11, pr2_11, pX2_11⟩ := u
  obtain ⟨rfl, hp_11⟩ := hp
  have hp_11 : PthR N (sP N y) (sY N y) (sD N y) pv2_11 := hp_11
  have hG : gW K A s.heap [gRLC K ad, gPthV K (ad 8) (ad 27) (ad 35) (ad 28) (ad 29) (ad 30) (ad 31) (ad 32) (ad 33) (ad 34) pv2_11, gRayU K (ad 35) (ad 36) (ad 37) (ad 38) (ad 39) (ad 3) pr2_11 pX2_11, gScn K (ad 3) (ad 14) (ad 15) (ad 16) (ad 17) ou mi bo ln LF sn SF] _ _ := hG
  have g4 := sho_bd hN hs.1 hs.2
  obtain ⟨b1, b2, b3, b4⟩ := hp_11.bd hN g4.2.2.1 g4.2.1
  have b5 : pv2_11.1 = (gS N y : Int) := b2
  refine lv_astore (lv' := [(4, .ref (ad 8)), (0, .ref (ad 0)), (1, .int (iI y)), (2, .int (iI x)), (3, .int (iI z))]) S.1 S.2.1 dX8_leg_14 hl (by decide) rfl (fun ls hl => ?_)
  refine lv_iload_n S.1 S.2.1 dX8_leg_16 rfl (lv_at hl 3 rfl) ?_
  refine g_if_lt (tgt := 29) S dX8_leg_17 (by decide) (by omega) (fun q17 => ?_) (fun q17 => ?_)
  · skip
    omega
  · skip
    refine lv_iload_n S.1 S.2.1 dX8_leg_20 rfl (lv_at hl 3 rfl) ?_
    refine lv_aload S.1 S.2.1 dX8_leg_21 (lv_at hl 0 rfl) ?_
    refine g_get S C hG iX30 1 rfl rfl 2 (by decide) (List.mem_of_getElem? (i := 4) rfl) rfl dX8_leg_23 ?_
    refine g_icmp_lt (tgt := 39) S dX8_leg_26 (by decide) (by omega) (by omega) (fun q26 => ?_) (fun q26 => ?_)
    · skip
      refine lv_iload_n S.1 S.2.1 dX8_leg_39 rfl (lv_at hl 4 rfl) ?_
      refine g_iconst S dX8_leg_40 ?_
      refine g_bipush S dX8_leg_41 (by decide) ?_
      refine g_xS (E := "java/lang/IllegalArgumentException") (As := [.int (iI z), .int (iI 0), .int (iI 6)]) (rest := []) (gs' := (fun u : Unit => [gRLC K ad, gPthV K (ad 8) (ad 27) (ad 35) (ad 28) (ad 29) (ad 30) (ad 31) (ad 32) (ad 33) (ad 34) pv2_11, gRayU K (ad 35) (ad 36) (ad 37) (ad 38) (ad 39) (ad 3) pr2_11 pX2_11, gScn K (ad 3) (ad 14) (ad 15) (ad 16) (ad 17) ou mi bo ln LF sn SF])) S C hG [] (x_checkRange l K z 0 6 hz (by omega) (by omega) h2 hst) rfl rfl (va_cwS 3 S.2.2.2.2 gX8_leg_X8_checkRange rfl rfl rfl (by decide +kernel) ⟨Nat.le_of_ble_eq_true rfl, Nat.le_of_ble_eq_true rfl⟩) rfl hl.1 rfl (Nat.le_of_ble_eq_true rfl) dX8_leg_43 ⟨Nat.le_of_ble_eq_true rfl, Nat.le_of_ble_eq_true rfl⟩ (fun _ => Nat.le_of_ble_eq_true rfl) (fun _ => rfl) (fun u q9 ce9 H locs hp hG hq9 hv9 hcl9 => ?_)
      have hG : gW K A s.heap [gRLC K ad, gPthV K (ad 8) (ad 27) (ad 35) (ad 28) (ad 29) (ad 30) (ad 31) (ad 32) (ad 33) (ad 34) pv2_11, gRayU K (ad 35) (ad 36) (ad 37) (ad 38) (ad 39) (ad 3) pr2_11 pX2_11, gScn K (ad 3) (ad 14) (ad 15) (ad 16) (ad 17) ou mi bo ln LF sn SF] _ _ := hG
      exact g_xout hQ hex hlk hq9 hv9 hcl9 (Nat.le_of_ble_eq_true rfl) (Nat.le_of_ble_eq_true rfl) ((pv2_11, pr2_11, pX2_11) : PV × RU × (Int → Int)) trivial hG
    · skip
      omega

set_option maxHeartbeats 1000000 in
set_option maxRecDepth 100000 in
theorem c_X8_legAt (l : Launch) (K : KC) (ad : Nat → Nat) (ou : Int) (mi : Int) (bo : Int) (ln : Int) (LF : Int → Int) (sn : Int) (SF : Int → Int) (N : Int → Int) (pv : PV) (ps : Nat) (pr : RU) (pX : Int → Int) (y : Int) (x : Int) (hS : ScOk N ou mi bo ln LF sn SF) (hN : NOk0 N) (hv : -2147483648 ≤ y ∧ y < 2147483648) (hs : 0 ≤ y ∧ y < N 4) (hx : 0 ≤ x ∧ x < 2147483648) : mG l yX8_legAt wsX8_legAt 5 119 K [.ref (ad 0), .int (iI y), .int (iI x)] [gRLC K ad, gPthV K (ad 8) (ad 27) (ad 35) (ad 28) (ad 29) (ad 30) (ad 31) (ad 32) (ad 33) (ad 34) pv, gRayU K (ad 35) (ad 36) (ad 37) (ad 38) (ad 39) ps pr pX, gScn K (ad 3) (ad 14) (ad 15) (ad 16) (ad 17) ou mi bo ln LF sn SF] (fun (v : Value) (u : PV × RU × (Int → Int)) => (v = .int (iI (legN N y x))) ∧ (PthR N (sP N y) (sY N y) (sD N y) u.1)) (fun (u : PV × RU × (Int → Int)) => [gRLC K ad, gPthV K (ad 8) (ad 27) (ad 35) (ad 28) (ad 29) (ad 30) (ad 31) (ad 32) (ad 33) (ad 34) u.1, gRayU K (ad 35) (ad 36) (ad 37) (ad 38) (ad 39) (ad 3) u.2.1 u.2.2, gScn K (ad 3) (ad 14) (ad 15) (ad 16) (ad 17) ou mi bo ln LF sn SF]) 0 0 := by
  refine mG_of cX8_legAt 5 (by decide) rfl (Nat.le_of_ble_eq_true rfl) ?_
  intro p e s m below meth c A ls Q S C hG hl hr hlk hin hQ
  have S : CallFix p m c cX8_legAt 5 s ([.ref (ad 0), .int (iI y), .int (iI x)] : List Value).toArray wsX8_legAt RX8 := S
  have iX80 : ∀ w ∈ wsX80, w ∈ wsX8_legAt := fun _ h => List.mem_cons_of_mem _ (List.mem_append_left _ (List.mem_append_left _ (List.mem_append_left _ (List.mem_append_left _ (List.mem_append_left _ (List.mem_append_left _ (List.mem_append_right _ (h))))))))
  have iX30 : ∀ w ∈ wsX30, w ∈ wsX8_legAt := fun _ h => List.mem_cons_of_mem _ (List.mem_append_left _ (List.mem_append_left _ (List.mem_append_left _ (List.mem_append_left _ (List.mem_append_left _ (List.mem_append_right _ (h)))))))
  have iX50 : ∀ w ∈ wsX50, w ∈ wsX8_legAt := fun _ h => List.mem_cons_of_mem _ (List.mem_append_left _ (List.mem_append_left _ (List.mem_append_left _ (List.mem_append_left _ (List.mem_append_right _ (h))))))
  have iX70 : ∀ w ∈ wsX70, w ∈ wsX8_legAt := fun _ h => List.mem_cons_of_mem _ (List.mem_append_left _ (List.mem_append_left _ (List.mem_append_left _ (List.mem_append_right _ (h)))))
  have iX40 : ∀ w ∈ wsX40, w ∈ wsX8_legAt := fun _ h => List.mem_cons_of_mem _ (List.mem_append_left _ (List.mem_append_left _ (List.mem_append_right _ (h))))
  have hl : lv_has ls 5 [(0, .ref (ad 0)), (1, .int (iI y)), (2, .int (iI x))] := hl
  have hG : gW K A s.heap [gRLC K ad, gPthV K (ad 8) (ad 27) (ad 35) (ad 28) (ad 29) (ad 30) (ad 31) (ad 32) (ad 33) (ad 34) pv, gRayU K (ad 35) (ad 36) (ad 37) (ad 38) (ad 39) ps pr pX, gScn K (ad 3) (ad 14) (ad 15) (ad 16) (ad 17) ou mi bo ln LF sn SF] s.heap [] := hG
  obtain ⟨e0, e1, e2, e3, e4, e5, e6⟩ := id hS
  have n0 := hN.1
  have n3 := hN.2.2.2.1
  refine lv_aload_n S.1 S.2.1 dX8_legAt_0 rfl (lv_at hl 0 rfl) ?_
  refine lv_iload_n S.1 S.2.1 dX8_legAt_1 rfl (lv_at hl 1 rfl) ?_
  refine lv_iload_n S.1 S.2.1 dX8_legAt_2 rfl (lv_at hl 2 rfl) ?_
  refine g_invVv (As := [.int (iI y), .int (iI x)]) (rest := []) (gs' := (fun u : Unit => [gRLC K ad, gPthV K (ad 8) (ad 27) (ad 35) (ad 28) (ad 29) (ad 30) (ad 31) (ad 32) (ad 33) (ad 34) pv, gRayU K (ad 35) (ad 36) (ad 37) (ad 38) (ad 39) ps pr pX, gScn K (ad 3) (ad 14) (ad 15) (ad 16) (ad 17) ou mi bo ln LF sn SF])) S C hG [0, 3] (c_X8_checkShotAndTime l K ad ou mi bo ln LF sn SF N y x hS hN hv (by omega) hs hx.1) rfl rfl 0 rfl rfl (cwV 2 S.2.2.2.2 gX8_legAt_X8_checkShotAndTime rfl rfl rfl (by decide +kernel) ⟨Nat.le_of_ble_eq_true rfl, Nat.le_of_ble_eq_true rfl⟩) rfl hl.1 rfl (Nat.le_of_ble_eq_true rfl) dX8_legAt_3 ⟨Nat.le_of_ble_eq_true rfl, Nat.le_of_ble_eq_true rfl⟩ (fun _ => Nat.le_of_ble_eq_true rfl) (fun _ => rfl) (fun u H locs hp hG => ?_)
  refine lv_aload_n S.1 S.2.1 dX8_legAt_6 rfl (lv_at hl 0 rfl) ?_
  refine lv_aload_n S.1 S.2.1 dX8_legAt_7 rfl (lv_at hl 0 rfl) ?_
  refine g_get S C hG iX80 0 rfl rfl 7 (by decide) (List.mem_of_getElem? (i := 1) rfl) rfl dX8_legAt_8 ?_
  refine lv_iload_n S.1 S.2.1 dX8_legAt_11 rfl (lv_at hl 1 rfl) ?_
  refine g_invV (As := [.ref (ad 8), .int (iI y)]) (rest := []) (gs' := (fun u : PV × RU × (Int → Int) => [gRLC K ad, gPthV K (ad 8) (ad 27) (ad 35) (ad 28) (ad 29) (ad 30) (ad 31) (ad 32) (ad 33) (ad 34) u.1, gRayU K (ad 35) (ad 36) (ad 37) (ad 38) (ad 39) (ad 3) u.2.1 u.2.2, gScn K (ad 3) (ad 14) (ad 15) (ad 16) (ad 17) ou mi bo ln LF sn SF])) S C hG [0, 1, 2, 3] (c_X8_pathOf l K ad ou mi bo ln LF sn SF N (ad 8) (ad 27) (ad 35) (ad 28) (ad 29) (ad 30) (ad 31) (ad 32) (ad 33) (ad 34) (ad 36) (ad 37) (ad 38) (ad 39) pv ps pr pX y hS hN hs) rfl rfl 0 rfl rfl (cwV 2 S.2.2.2.2 gX8_legAt_X8_pathOf rfl rfl rfl (by decide +kernel) ⟨Nat.le_of_ble_eq_true rfl, Nat.le_of_ble_eq_true rfl⟩) rfl hl.1 rfl (Nat.le_of_ble_eq_true rfl) dX8_legAt_12 ⟨Nat.le_of_ble_eq_true rfl, Nat.le_of_ble_eq_true rfl⟩ (fun _ => Nat.le_of_ble_eq_true rfl) (fun _ => rfl) (fun v u H locs hp hG => ?_)
  obtain ⟨pv2_12, pr2_12, pX2_12⟩ := u
  obtain ⟨rfl, hp_12⟩ := hp
  have hp_12 : PthR N (sP N y) (sY N y) (sD N y) pv2_12 := hp_12
  have hG : gW K A s.heap [gRLC K ad, gPthV K (ad 8) (ad 27) (ad 35) (ad 28) (ad 29) (ad 30) (ad 31) (ad 32) (ad 33) (ad 34) pv2_12, gRayU K (ad 35) (ad 36) (ad 37) (ad 38) (ad 39) (ad 3) pr2_12 pX2_12, gScn K (ad 3) (ad 14) (ad 15) (ad 16) (ad 17) ou mi bo ln LF sn SF] _ _ := hG
  have g4 := sho_bd hN hs.1 hs.2
  obtain ⟨b1, b2, b3, b4⟩ := hp_12.bd hN g4.2.2.1 g4.2.1
  have b5 : pv2_12.1 = (gS N y : Int) := b2
  refine lv_astore_n (lv' := [(3, .ref (ad 8)), (0, .ref (ad 0)), (1, .int (iI y)), (2, .int (iI x))]) S.1 S.2.1 dX8_legAt_15 rfl hl (by decide) rfl (fun ls hl => ?_)
  refine lv_aload_n S.1 S.2.1 dX8_legAt_16 rfl (lv_at hl 0 rfl) ?_
  refine lv_iload_n S.1 S.2.1 dX8_legAt_17 rfl (lv_at hl 3 rfl) ?_
  have hG : gW K A s.heap [gRLC K ad, gPth K (ad 8) (ad 27) (ad 35) pv2_12.1 pv2_12.2.1 (ad 28) (ad 29) (ad 30) (ad 31) (ad 32) (ad 33) (ad 34) pv2_12.2.2.1 pv2_12.2.2.2.1 pv2_12.2.2.2.2.1 pv2_12.2.2.2.2.2.1 pv2_12.2.2.2.2.2.2.1 pv2_12.2.2.2.2.2.2.2.1 pv2_12.2.2.2.2.2.2.2.2, gRayU K (ad 35) (ad 36) (ad 37) (ad 38) (ad 39) (ad 3) pr2_12 pX2_12, gScn K (ad 3) (ad 14) (ad 15) (ad 16) (ad 17) ou mi bo ln LF sn SF] _ _ := hG
  refine g_invV (As := [.int (iI x)]) (rest := []) (gs' := (fun u : Int => [gRLC K ad, gPth K (ad 8) (ad 27) (ad 35) pv2_12.1 pv2_12.2.1 (ad 28) (ad 29) (ad 30) (ad 31) (ad 32) (ad 33) (ad 34) pv2_12.2.2.1 pv2_12.2.2.2.1 pv2_12.2.2.2.2.1 pv2_12.2.2.2.2.2.1 pv2_12.2.2.2.2.2.2.1 pv2_12.2.2.2.2.2.2.2.1 pv2_12.2.2.2.2.2.2.2.2, gRayU K (ad 35) (ad 36) (ad 37) (ad 38) (ad 39) (ad 3) pr2_12 pX2_12, gScn K (ad 3) (ad 14) (ad 15) (ad 16) (ad 17) ou mi bo ln LF sn SF])) S C hG [1] (c_X3_legDuring l K (ad 8) (ad 27) (ad 35) pv2_12.1 pv2_12.2.1 (ad 28) (ad 29) (ad 30) (ad 31) (ad 32) (ad 33) (ad 34) pv2_12.2.2.1 pv2_12.2.2.2.1 pv2_12.2.2.2.2.1 pv2_12.2.2.2.2.2.1 pv2_12.2.2.2.2.2.2.1 pv2_12.2.2.2.2.2.2.2.1 pv2_12.2.2.2.2.2.2.2.2 (gS N y) x ⟨b5, by omega⟩ hx (fun i a b => ⟨by have z := (b4 i a b).2.2.2 <;> omega, (b4 i a b).2.2.2.2⟩)) rfl rfl 0 rfl rfl (cwV 1 S.2.2.2.2 gX8_legAt_X3_legDuring rfl rfl rfl (by decide +kernel) ⟨Nat.le_of_ble_eq_true rfl, Nat.le_of_ble_eq_true rfl⟩) rfl hl.1 rfl (Nat.le_of_ble_eq_true rfl) dX8_legAt_18 ⟨Nat.le_of_ble_eq_true rfl, Nat.le_of_ble_eq_true rfl⟩ (fun _ => Nat.le_of_ble_eq_true rfl) (fun _ => rfl) (fun v u H locs hp hG => ?_)
  obtain ⟨x_18, rfl⟩ : ∃ z, z = u := ⟨_, rfl⟩
  obtain ⟨rfl, hx_18⟩ := hp
  have hx_18 : LegD pv2_12.2.2.2.2.2.2.1 (gS N y) x x_18 := hx_18
  have hG : gW K A s.heap [gRLC K ad, gPth K (ad 8) (ad 27) (ad 35) pv2_12.1 pv2_12.2.1 (ad 28) (ad 29) (ad 30) (ad 31) (ad 32) (ad 33) (ad 34) pv2_12.2.2.1 pv2_12.2.2.2.1 pv2_12.2.2.2.2.1 pv2_12.2.2.2.2.2.1 pv2_12.2.2.2.2.2.2.1 pv2_12.2.2.2.2.2.2.2.1 pv2_12.2.2.2.2.2.2.2.2, gRayU K (ad 35) (ad 36) (ad 37) (ad 38) (ad 39) (ad 3) pr2_12 pX2_12, gScn K (ad 3) (ad 14) (ad 15) (ad 16) (ad 17) ou mi bo ln LF sn SF] _ _ := hG
  refine lv_istore (lv' := [(4, .int (iI x_18)), (3, .ref (ad 8)), (0, .ref (ad 0)), (1, .int (iI y)), (2, .int (iI x))]) S.1 S.2.1 dX8_legAt_21 hl (by decide) rfl (fun ls hl => ?_)
  refine lv_iload S.1 S.2.1 dX8_legAt_23 (lv_at hl 0 rfl) ?_
  refine lv_aload_n S.1 S.2.1 dX8_legAt_25 rfl (lv_at hl 1 rfl) ?_
  refine g_get S C hG iX30 1 rfl rfl 2 (by decide) (List.mem_of_getElem? (i := 2) rfl) rfl dX8_legAt_26 ?_
  obtain ⟨l1, l2, l3⟩ := hp_12.lgk hx_18
  refine g_icmp_ge (tgt := 37) S dX8_legAt_29 (by decide) (by omega) (by omega) (fun q29 => ?_) (fun q29 => ?_)
  · skip
    refine g_iconst S dX8_legAt_37 ?_
    have hG : gW K A s.heap [gRLC K ad, gPthV K (ad 8) (ad 27) (ad 35) (ad 28) (ad 29) (ad 30) (ad 31) (ad 32) (ad 33) (ad 34) pv2_12, gRayU K (ad 35) (ad 36) (ad 37) (ad 38) (ad 39) (ad 3) pr2_12 pX2_12, gScn K (ad 3) (ad 14) (ad 15) (ad 16) (ad 17) ou mi bo ln LF sn SF] _ _ := hG
    exact g_iret S hr hlk hQ dX8_legAt_38 (Nat.le_of_ble_eq_true rfl) (Nat.le_of_ble_eq_true rfl) ((pv2_12, pr2_12, pX2_12) : PV × RU × (Int → Int)) ⟨(congrArg (fun z : Int => Value.int (iI z)) (by unfold legN <;> split <;> omega)), hp_12⟩ hG
  · skip
    refine lv_iload S.1 S.2.1 dX8_legAt_32 (lv_at hl 0 rfl) ?_
    refine lv_goto (tgt := 38) S.1 S.2.1 dX8_legAt_34 (by decide) ?_
    have hG : gW K A s.heap [gRLC K ad, gPthV K (ad 8) (ad 27) (ad 35) (ad 28) (ad 29) (ad 30) (ad 31) (ad 32) (ad 33) (ad 34) pv2_12, gRayU K (ad 35) (ad 36) (ad 37) (ad 38) (ad 39) (ad 3) pr2_12 pX2_12, gScn K (ad 3) (ad 14) (ad 15) (ad 16) (ad 17) ou mi bo ln LF sn SF] _ _ := hG
    exact g_iret S hr hlk hQ dX8_legAt_38 (Nat.le_of_ble_eq_true rfl) (Nat.le_of_ble_eq_true rfl) ((pv2_12, pr2_12, pX2_12) : PV × RU × (Int → Int)) ⟨(congrArg (fun z : Int => Value.int (iI z)) (by unfold legN <;> split <;> omega)), hp_12⟩ hG

set_option maxHeartbeats 1000000 in
set_option maxRecDepth 100000 in
theorem c_X8_shiftAt (l : Launch) (K : KC) (ad : Nat → Nat) (ou : Int) (mi : Int) (bo : Int) (ln : Int) (LF : Int → Int) (sn : Int) (SF : Int → Int) (N : Int → Int) (pv : PV) (ps : Nat) (pr : RU) (pX : Int → Int) (y : Int) (x : Int) (hS : ScOk N ou mi bo ln LF sn SF) (hN : NOk0 N) (hv : -2147483648 ≤ y ∧ y < 2147483648) (hs : 0 ≤ y ∧ y < N 4) (hx : 0 ≤ x ∧ x < 2147483648) : mG l yX8_shiftAt wsX8_shiftAt 5 119 K [.ref (ad 0), .int (iI y), .int (iI x)] [gRLC K ad, gPthV K (ad 8) (ad 27) (ad 35) (ad 28) (ad 29) (ad 30) (ad 31) (ad 32) (ad 33) (ad 34) pv, gRayU K (ad 35) (ad 36) (ad 37) (ad 38) (ad 39) ps pr pX, gScn K (ad 3) (ad 14) (ad 15) (ad 16) (ad 17) ou mi bo ln LF sn SF] (fun (v : Value) (u : PV × RU × (Int → Int)) => (v = .int (iI (shtN N y x))) ∧ (PthR N (sP N y) (sY N y) (sD N y) u.1)) (fun (u : PV × RU × (Int → Int)) => [gRLC K ad, gPthV K (ad 8) (ad 27) (ad 35) (ad 28) (ad 29) (ad 30) (ad 31) (ad 32) (ad 33) (ad 34) u.1, gRayU K (ad 35) (ad 36) (ad 37) (ad 38) (ad 39) (ad 3) u.2.1 u.2.2, gScn K (ad 3) (ad 14) (ad 15) (ad 16) (ad 17) ou mi bo ln LF sn SF]) 0 0 := by
  refine mG_of cX8_shiftAt 5 (by decide) rfl (Nat.le_of_ble_eq_true rfl) ?_
  intro p e s m below meth c A ls Q S C hG hl hr hlk hin hQ
  have S : CallFix p m c cX8_shiftAt 5 s ([.ref (ad 0), .int (iI y), .int (iI x)] : List Value).toArray wsX8_shiftAt RX8 := S
  have iX80 : ∀ w ∈ wsX80, w ∈ wsX8_shiftAt := fun _ h => List.mem_cons_of_mem _ (List.mem_append_left _ (List.mem_append_left _ (List.mem_append_left _ (List.mem_append_left _ (List.mem_append_left _ (List.mem_append_left _ (List.mem_append_right _ (h))))))))
  have iX50 : ∀ w ∈ wsX50, w ∈ wsX8_shiftAt := fun _ h => List.mem_cons_of_mem _ (List.mem_append_left _ (List.mem_append_left _ (List.mem_append_left _ (List.mem_append_left _ (List.mem_append_left _ (List.mem_append_right _ (h)))))))
  have iX70 : ∀ w ∈ wsX70, w ∈ wsX8_shiftAt := fun _ h => List.mem_cons_of_mem _ (List.mem_append_left _ (List.mem_append_left _ (List.mem_append_left _ (List.mem_append_left _ (List.mem_append_right _ (h))))))
  have iX30 : ∀ w ∈ wsX30, w ∈ wsX8_shiftAt := fun _ h => List.mem_cons_of_mem _ (List.mem_append_left _ (List.mem_append_left _ (List.mem_append_left _ (List.mem_append_right _ (h)))))
  have iX40 : ∀ w ∈ wsX40, w ∈ wsX8_shiftAt := fun _ h => List.mem_cons_of_mem _ (List.mem_append_left _ (List.mem_append_left _ (List.mem_append_right _ (h))))
  have hl : lv_has ls 5 [(0, .ref (ad 0)), (1, .int (iI y)), (2, .int (iI x))] := hl
  have hG : gW K A s.heap [gRLC K ad, gPthV K (ad 8) (ad 27) (ad 35) (ad 28) (ad 29) (ad 30) (ad 31) (ad 32) (ad 33) (ad 34) pv, gRayU K (ad 35) (ad 36) (ad 37) (ad 38) (ad 39) ps pr pX, gScn K (ad 3) (ad 14) (ad 15) (ad 16) (ad 17) ou mi bo ln LF sn SF] s.heap [] := hG
  obtain ⟨e0, e1, e2, e3, e4, e5, e6⟩ := id hS
  have n0 := hN.1
  have n3 := hN.2.2.2.1
  refine lv_aload_n S.1 S.2.1 dX8_shiftAt_0 rfl (lv_at hl 0 rfl) ?_
  refine lv_iload_n S.1 S.2.1 dX8_shiftAt_1 rfl (lv_at hl 1 rfl) ?_
  refine lv_iload_n S.1 S.2.1 dX8_shiftAt_2 rfl (lv_at hl 2 rfl) ?_
  refine g_invVv (As := [.int (iI y), .int (iI x)]) (rest := []) (gs' := (fun u : Unit => [gRLC K ad, gPthV K (ad 8) (ad 27) (ad 35) (ad 28) (ad 29) (ad 30) (ad 31) (ad 32) (ad 33) (ad 34) pv, gRayU K (ad 35) (ad 36) (ad 37) (ad 38) (ad 39) ps pr pX, gScn K (ad 3) (ad 14) (ad 15) (ad 16) (ad 17) ou mi bo ln LF sn SF])) S C hG [0, 3] (c_X8_checkShotAndTime l K ad ou mi bo ln LF sn SF N y x hS hN hv (by omega) hs hx.1) rfl rfl 0 rfl rfl (cwV 2 S.2.2.2.2 gX8_shiftAt_X8_checkShotAndTime rfl rfl rfl (by decide +kernel) ⟨Nat.le_of_ble_eq_true rfl, Nat.le_of_ble_eq_true rfl⟩) rfl hl.1 rfl (Nat.le_of_ble_eq_true rfl) dX8_shiftAt_3 ⟨Nat.le_of_ble_eq_true rfl, Nat.le_of_ble_eq_true rfl⟩ (fun _ => Nat.le_of_ble_eq_true rfl) (fun _ => rfl) (fun u H locs hp hG => ?_)
  refine lv_aload_n S.1 S.2.1 dX8_shiftAt_6 rfl (lv_at hl 0 rfl) ?_
  refine lv_aload_n S.1 S.2.1 dX8_shiftAt_7 rfl (lv_at hl 0 rfl) ?_
  refine g_get S C hG iX80 0 rfl rfl 7 (by decide) (List.mem_of_getElem? (i := 1) rfl) rfl dX8_shiftAt_8 ?_
  refine lv_iload_n S.1 S.2.1 dX8_shiftAt_11 rfl (lv_at hl 1 rfl) ?_
  refine g_invV (As := [.ref (ad 8), .int (iI y)]) (rest := []) (gs' := (fun u : PV × RU × (Int → Int) => [gRLC K ad, gPthV K (ad 8) (ad 27) (ad 35) (ad 28) (ad 29) (ad 30) (ad 31) (ad 32) (ad 33) (ad 34) u.1, gRayU K (ad 35) (ad 36) (ad 37) (ad 38) (ad 39) (ad 3) u.2.1 u.2.2, gScn K (ad 3) (ad 14) (ad 15) (ad 16) (ad 17) ou mi bo ln LF sn SF])) S C hG [0, 1, 2, 3] (c_X8_pathOf l K ad ou mi bo ln LF sn SF N (ad 8) (ad 27) (ad 35) (ad 28) (ad 29) (ad 30) (ad 31) (ad 32) (ad 33) (ad 34) (ad 36) (ad 37) (ad 38) (ad 39) pv ps pr pX y hS hN hs) rfl rfl 0 rfl rfl (cwV 2 S.2.2.2.2 gX8_shiftAt_X8_pathOf rfl rfl rfl (by decide +kernel) ⟨Nat.le_of_ble_eq_true rfl, Nat.le_of_ble_eq_true rfl⟩) rfl hl.1 rfl (Nat.le_of_ble_eq_true rfl) dX8_shiftAt_12 ⟨Nat.le_of_ble_eq_true rfl, Nat.le_of_ble_eq_true rfl⟩ (fun _ => Nat.le_of_ble_eq_true rfl) (fun _ => rfl) (fun v u H locs hp hG => ?_)
  obtain ⟨pv2_12, pr2_12, pX2_12⟩ := u
  obtain ⟨rfl, hp_12⟩ := hp
  have hp_12 : PthR N (sP N y) (sY N y) (sD N y) pv2_12 := hp_12
  have hG : gW K A s.heap [gRLC K ad, gPthV K (ad 8) (ad 27) (ad 35) (ad 28) (ad 29) (ad 30) (ad 31) (ad 32) (ad 33) (ad 34) pv2_12, gRayU K (ad 35) (ad 36) (ad 37) (ad 38) (ad 39) (ad 3) pr2_12 pX2_12, gScn K (ad 3) (ad 14) (ad 15) (ad 16) (ad 17) ou mi bo ln LF sn SF] _ _ := hG
  have g4 := sho_bd hN hs.1 hs.2
  obtain ⟨b1, b2, b3, b4⟩ := hp_12.bd hN g4.2.2.1 g4.2.1
  have b5 : pv2_12.1 = (gS N y : Int) := b2
  refine lv_astore_n (lv' := [(3, .ref (ad 8)), (0, .ref (ad 0)), (1, .int (iI y)), (2, .int (iI x))]) S.1 S.2.1 dX8_shiftAt_15 rfl hl (by decide) rfl (fun ls hl => ?_)
  refine lv_aload_n S.1 S.2.1 dX8_shiftAt_16 rfl (lv_at hl 0 rfl) ?_
  refine lv_iload_n S.1 S.2.1 dX8_shiftAt_17 rfl (lv_at hl 3 rfl) ?_
  have hG : gW K A s.heap [gRLC K ad, gPth K (ad 8) (ad 27) (ad 35) pv2_12.1 pv2_12.2.1 (ad 28) (ad 29) (ad 30) (ad 31) (ad 32) (ad 33) (ad 34) pv2_12.2.2.1 pv2_12.2.2.2.1 pv2_12.2.2.2.2.1 pv2_12.2.2.2.2.2.1 pv2_12.2.2.2.2.2.2.1 pv2_12.2.2.2.2.2.2.2.1 pv2_12.2.2.2.2.2.2.2.2, gRayU K (ad 35) (ad 36) (ad 37) (ad 38) (ad 39) (ad 3) pr2_12 pX2_12, gScn K (ad 3) (ad 14) (ad 15) (ad 16) (ad 17) ou mi bo ln LF sn SF] _ _ := hG
  refine g_invV (As := [.int (iI x)]) (rest := []) (gs' := (fun u : Int => [gRLC K ad, gPth K (ad 8) (ad 27) (ad 35) pv2_12.1 pv2_12.2.1 (ad 28) (ad 29) (ad 30) (ad 31) (ad 32) (ad 33) (ad 34) pv2_12.2.2.1 pv2_12.2.2.2.1 pv2_12.2.2.2.2.1 pv2_12.2.2.2.2.2.1 pv2_12.2.2.2.2.2.2.1 pv2_12.2.2.2.2.2.2.2.1 pv2_12.2.2.2.2.2.2.2.2, gRayU K (ad 35) (ad 36) (ad 37) (ad 38) (ad 39) (ad 3) pr2_12 pX2_12, gScn K (ad 3) (ad 14) (ad 15) (ad 16) (ad 17) ou mi bo ln LF sn SF])) S C hG [1] (c_X3_legDuring l K (ad 8) (ad 27) (ad 35) pv2_12.1 pv2_12.2.1 (ad 28) (ad 29) (ad 30) (ad 31) (ad 32) (ad 33) (ad 34) pv2_12.2.2.1 pv2_12.2.2.2.1 pv2_12.2.2.2.2.1 pv2_12.2.2.2.2.2.1 pv2_12.2.2.2.2.2.2.1 pv2_12.2.2.2.2.2.2.2.1 pv2_12.2.2.2.2.2.2.2.2 (gS N y) x ⟨b5, by omega⟩ hx (fun i a b => ⟨by have z := (b4 i a b).2.2.2 <;> omega, (b4 i a b).2.2.2.2⟩)) rfl rfl 0 rfl rfl (cwV 1 S.2.2.2.2 gX8_shiftAt_X3_legDuring rfl rfl rfl (by decide +kernel) ⟨Nat.le_of_ble_eq_true rfl, Nat.le_of_ble_eq_true rfl⟩) rfl hl.1 rfl (Nat.le_of_ble_eq_true rfl) dX8_shiftAt_18 ⟨Nat.le_of_ble_eq_true rfl, Nat.le_of_ble_eq_true rfl⟩ (fun _ => Nat.le_of_ble_eq_true rfl) (fun _ => rfl) (fun v u H locs hp hG => ?_)
  obtain ⟨x_18, rfl⟩ : ∃ z, z = u := ⟨_, rfl⟩
  obtain ⟨rfl, hx_18⟩ := hp
  have hx_18 : LegD pv2_12.2.2.2.2.2.2.1 (gS N y) x x_18 := hx_18
  have hG : gW K A s.heap [gRLC K ad, gPth K (ad 8) (ad 27) (ad 35) pv2_12.1 pv2_12.2.1 (ad 28) (ad 29) (ad 30) (ad 31) (ad 32) (ad 33) (ad 34) pv2_12.2.2.1 pv2_12.2.2.2.1 pv2_12.2.2.2.2.1 pv2_12.2.2.2.2.2.1 pv2_12.2.2.2.2.2.2.1 pv2_12.2.2.2.2.2.2.2.1 pv2_12.2.2.2.2.2.2.2.2, gRayU K (ad 35) (ad 36) (ad 37) (ad 38) (ad 39) (ad 3) pr2_12 pX2_12, gScn K (ad 3) (ad 14) (ad 15) (ad 16) (ad 17) ou mi bo ln LF sn SF] _ _ := hG
  refine lv_istore (lv' := [(4, .int (iI x_18)), (3, .ref (ad 8)), (0, .ref (ad 0)), (1, .int (iI y)), (2, .int (iI x))]) S.1 S.2.1 dX8_shiftAt_21 hl (by decide) rfl (fun ls hl => ?_)
  obtain ⟨l1, l2, l3⟩ := hp_12.lgk hx_18
  rcases Nat.lt_or_ge (lgK N y x) (gS N y) with c9 | c9
  · skip
    obtain ⟨l1, l2, l3⟩ := hp_12.lgk hx_18
    refine lv_aload_n S.1 S.2.1 dX8_shiftAt_23 rfl (lv_at hl 1 rfl) ?_
    refine lv_iload S.1 S.2.1 dX8_shiftAt_24 (lv_at hl 0 rfl) ?_
    refine g_iconst S dX8_shiftAt_26 ?_
    refine g_invV (As := [.int (iI x_18), .int (iI 2)]) (rest := []) (gs' := (fun u : Unit => [gRLC K ad, gPth K (ad 8) (ad 27) (ad 35) pv2_12.1 pv2_12.2.1 (ad 28) (ad 29) (ad 30) (ad 31) (ad 32) (ad 33) (ad 34) pv2_12.2.2.1 pv2_12.2.2.2.1 pv2_12.2.2.2.2.1 pv2_12.2.2.2.2.2.1 pv2_12.2.2.2.2.2.2.1 pv2_12.2.2.2.2.2.2.2.1 pv2_12.2.2.2.2.2.2.2.2, gRayU K (ad 35) (ad 36) (ad 37) (ad 38) (ad 39) (ad 3) pr2_12 pX2_12, gScn K (ad 3) (ad 14) (ad 15) (ad 16) (ad 17) ou mi bo ln LF sn SF])) S C hG [1] (c_X3_sum2 l K (ad 8) (ad 27) (ad 35) pv2_12.1 pv2_12.2.1 (ad 28) (ad 29) (ad 30) (ad 31) (ad 32) (ad 33) (ad 34) pv2_12.2.2.1 pv2_12.2.2.2.1 pv2_12.2.2.2.2.1 pv2_12.2.2.2.2.2.1 pv2_12.2.2.2.2.2.2.1 pv2_12.2.2.2.2.2.2.2.1 pv2_12.2.2.2.2.2.2.2.2 x_18 (by omega) (by omega)) rfl rfl 0 rfl rfl (cwV 2 S.2.2.2.2 gX8_shiftAt_X3_sumAhead rfl rfl rfl (by decide +kernel) ⟨Nat.le_of_ble_eq_true rfl, Nat.le_of_ble_eq_true rfl⟩) rfl hl.1 rfl (Nat.le_of_ble_eq_true rfl) dX8_shiftAt_27 ⟨Nat.le_of_ble_eq_true rfl, Nat.le_of_ble_eq_true rfl⟩ (fun _ => Nat.le_of_ble_eq_true rfl) (fun _ => rfl) (fun v u H locs hp hG => ?_)
    subst hp
    refine g_top (w := .int (iI (smN (skS N y) (lgK N y x)))) (congrArg (fun z : Int => Value.int (iI z)) ((by rw [show (min x_18 pv2_12.1).toNat = lgK N y x by omega] <;> exact hp_12.s2 l2))) ?_
    have q4 := b4 (lgK N y x : Int) (by omega) (by omega)
    refine lv_aload_n S.1 S.2.1 dX8_shiftAt_30 rfl (lv_at hl 1 rfl) ?_
    refine lv_iload S.1 S.2.1 dX8_shiftAt_31 (lv_at hl 0 rfl) ?_
    refine lv_iload_n S.1 S.2.1 dX8_shiftAt_33 rfl (lv_at hl 4 rfl) ?_
    refine lv_aload_n S.1 S.2.1 dX8_shiftAt_34 rfl (lv_at hl 1 rfl) ?_
    refine lv_iload S.1 S.2.1 dX8_shiftAt_35 (lv_at hl 0 rfl) ?_
    refine g_iconst S dX8_shiftAt_37 ?_
    refine g_invV (As := [.int (iI x_18), .int (iI 2)]) (rest := [.int (iI x), .int (iI x_18), .ref (ad 8), .int (iI (smN (skS N y) (lgK N y x)))]) (gs' := (fun u : Unit => [gRLC K ad, gPth K (ad 8) (ad 27) (ad 35) pv2_12.1 pv2_12.2.1 (ad 28) (ad 29) (ad 30) (ad 31) (ad 32) (ad 33) (ad 34) pv2_12.2.2.1 pv2_12.2.2.2.1 pv2_12.2.2.2.2.1 pv2_12.2.2.2.2.2.1 pv2_12.2.2.2.2.2.2.1 pv2_12.2.2.2.2.2.2.2.1 pv2_12.2.2.2.2.2.2.2.2, gRayU K (ad 35) (ad 36) (ad 37) (ad 38) (ad 39) (ad 3) pr2_12 pX2_12, gScn K (ad 3) (ad 14) (ad 15) (ad 16) (ad 17) ou mi bo ln LF sn SF])) S C hG [1] (c_X3_get2 l K (ad 8) (ad 27) (ad 35) pv2_12.1 pv2_12.2.1 (ad 28) (ad 29) (ad 30) (ad 31) (ad 32) (ad 33) (ad 34) pv2_12.2.2.1 pv2_12.2.2.2.1 pv2_12.2.2.2.2.1 pv2_12.2.2.2.2.2.1 pv2_12.2.2.2.2.2.2.1 pv2_12.2.2.2.2.2.2.2.1 pv2_12.2.2.2.2.2.2.2.2 x_18 (by omega) (by omega)) rfl rfl 0 rfl rfl (cwV 2 S.2.2.2.2 gX8_shiftAt_X3_get rfl rfl rfl (by decide +kernel) ⟨Nat.le_of_ble_eq_true rfl, Nat.le_of_ble_eq_true rfl⟩) rfl hl.1 rfl (Nat.le_of_ble_eq_true rfl) dX8_shiftAt_38 ⟨Nat.le_of_ble_eq_true rfl, Nat.le_of_ble_eq_true rfl⟩ (fun _ => Nat.le_of_ble_eq_true rfl) (fun _ => rfl) (fun v u H locs hp hG => ?_)
    subst hp
    refine g_top (w := .int (iI (pv2_12.2.2.2.2.1 x_18))) (congrArg (fun z : Int => Value.int (iI z)) ((if_pos (by omega)))) ?_
    refine g_invV (As := [.int (iI x_18), .int (iI x), .int (iI (pv2_12.2.2.2.2.1 x_18))]) (rest := [.int (iI (smN (skS N y) (lgK N y x)))]) (gs' := (fun u : Unit => [gRLC K ad, gPth K (ad 8) (ad 27) (ad 35) pv2_12.1 pv2_12.2.1 (ad 28) (ad 29) (ad 30) (ad 31) (ad 32) (ad 33) (ad 34) pv2_12.2.2.1 pv2_12.2.2.2.1 pv2_12.2.2.2.2.1 pv2_12.2.2.2.2.2.1 pv2_12.2.2.2.2.2.2.1 pv2_12.2.2.2.2.2.2.2.1 pv2_12.2.2.2.2.2.2.2.2, gRayU K (ad 35) (ad 36) (ad 37) (ad 38) (ad 39) (ad 3) pr2_12 pX2_12, gScn K (ad 3) (ad 14) (ad 15) (ad 16) (ad 17) ou mi bo ln LF sn SF])) S C hG [1] (c_X3_partOfLeg l K (ad 8) (ad 27) (ad 35) pv2_12.1 pv2_12.2.1 (ad 28) (ad 29) (ad 30) (ad 31) (ad 32) (ad 33) (ad 34) pv2_12.2.2.1 pv2_12.2.2.2.1 pv2_12.2.2.2.2.1 pv2_12.2.2.2.2.2.1 pv2_12.2.2.2.2.2.2.1 pv2_12.2.2.2.2.2.2.2.1 pv2_12.2.2.2.2.2.2.2.2 x_18 x (pv2_12.2.2.2.2.1 x_18) (by omega) (by omega) hx (by rw [l1] <;> exact q4.2.2.2) (by rw [show x_18.toNat = lgK N y x by omega, hp_12.s4 l2] <;> exact ⟨(smN_nn _ (fun i hi => by have z := b4 (i : Int) (by omega) (by omega) <;> rw [(hp_12.at0 (by omega)).2.2.2] at z <;> omega)), l3 _ (Nat.le_refl _) (by omega)⟩) (by have z := q4.2.2.1 <;> rw [l1] <;> omega)) rfl rfl 0 rfl rfl (cwV 3 S.2.2.2.2 gX8_shiftAt_X3_partOfLeg rfl rfl rfl (by decide +kernel) ⟨Nat.le_of_ble_eq_true rfl, Nat.le_of_ble_eq_true rfl⟩) rfl hl.1 rfl (Nat.le_of_ble_eq_true rfl) dX8_shiftAt_41 ⟨Nat.le_of_ble_eq_true rfl, Nat.le_of_ble_eq_true rfl⟩ (fun _ => Nat.le_of_ble_eq_true rfl) (fun _ => rfl) (fun v u H locs hp hG => ?_)
    subst hp
    refine g_top (w := .int (iI (skS N y (lgK N y x) * (x - smN (tqS N y) (lgK N y x)) / tqS N y (lgK N y x)))) (congrArg (fun z : Int => Value.int (iI z)) ((by rw [show x_18.toNat = lgK N y x by omega, hp_12.s4 l2, l1, (hp_12.at0 c9).2.2.1, (hp_12.at0 c9).2.2.2]))) ?_
    refine g_iadd S dX8_shiftAt_44 rfl ?_
    have hG : gW K A s.heap [gRLC K ad, gPthV K (ad 8) (ad 27) (ad 35) (ad 28) (ad 29) (ad 30) (ad 31) (ad 32) (ad 33) (ad 34) pv2_12, gRayU K (ad 35) (ad 36) (ad 37) (ad 38) (ad 39) (ad 3) pr2_12 pX2_12, gScn K (ad 3) (ad 14) (ad 15) (ad 16) (ad 17) ou mi bo ln LF sn SF] _ _ := hG
    exact g_iret S hr hlk hQ dX8_shiftAt_45 (Nat.le_of_ble_eq_true rfl) (Nat.le_of_ble_eq_true rfl) ((pv2_12, pr2_12, pX2_12) : PV × RU × (Int → Int)) ⟨(congrArg (fun z : Int => Value.int (iI z)) (by unfold shtN <;> rw [if_neg (by omega)])), hp_12⟩ hG
  · skip
    obtain ⟨l1, l2, l3⟩ := hp_12.lgk hx_18
    refine lv_aload_n S.1 S.2.1 dX8_shiftAt_23 rfl (lv_at hl 1 rfl) ?_
    refine lv_iload S.1 S.2.1 dX8_shiftAt_24 (lv_at hl 0 rfl) ?_
    refine g_iconst S dX8_shiftAt_26 ?_
    refine g_invV (As := [.int (iI x_18), .int (iI 2)]) (rest := []) (gs' := (fun u : Unit => [gRLC K ad, gPth K (ad 8) (ad 27) (ad 35) pv2_12.1 pv2_12.2.1 (ad 28) (ad 29) (ad 30) (ad 31) (ad 32) (ad 33) (ad 34) pv2_12.2.2.1 pv2_12.2.2.2.1 pv2_12.2.2.2.2.1 pv2_12.2.2.2.2.2.1 pv2_12.2.2.2.2.2.2.1 pv2_12.2.2.2.2.2.2.2.1 pv2_12.2.2.2.2.2.2.2.2, gRayU K (ad 35) (ad 36) (ad 37) (ad 38) (ad 39) (ad 3) pr2_12 pX2_12, gScn K (ad 3) (ad 14) (ad 15) (ad 16) (ad 17) ou mi bo ln LF sn SF])) S C hG [1] (c_X3_sum2 l K (ad 8) (ad 27) (ad 35) pv2_12.1 pv2_12.2.1 (ad 28) (ad 29) (ad 30) (ad 31) (ad 32) (ad 33) (ad 34) pv2_12.2.2.1 pv2_12.2.2.2.1 pv2_12.2.2.2.2.1 pv2_12.2.2.2.2.2.1 pv2_12.2.2.2.2.2.2.1 pv2_12.2.2.2.2.2.2.2.1 pv2_12.2.2.2.2.2.2.2.2 x_18 (by omega) (by omega)) rfl rfl 0 rfl rfl (cwV 2 S.2.2.2.2 gX8_shiftAt_X3_sumAhead rfl rfl rfl (by decide +kernel) ⟨Nat.le_of_ble_eq_true rfl, Nat.le_of_ble_eq_true rfl⟩) rfl hl.1 rfl (Nat.le_of_ble_eq_true rfl) dX8_shiftAt_27 ⟨Nat.le_of_ble_eq_true rfl, Nat.le_of_ble_eq_true rfl⟩ (fun _ => Nat.le_of_ble_eq_true rfl) (fun _ => rfl) (fun v u H locs hp hG => ?_)
    subst hp
    refine g_top (w := .int (iI (smN (skS N y) (lgK N y x)))) (congrArg (fun z : Int => Value.int (iI z)) ((by rw [show (min x_18 pv2_12.1).toNat = lgK N y x by omega] <;> exact hp_12.s2 l2))) ?_
    refine lv_aload_n S.1 S.2.1 dX8_shiftAt_30 rfl (lv_at hl 1 rfl) ?_
    refine lv_iload S.1 S.2.1 dX8_shiftAt_31 (lv_at hl 0 rfl) ?_
    refine lv_iload_n S.1 S.2.1 dX8_shiftAt_33 rfl (lv_at hl 4 rfl) ?_
    refine lv_aload_n S.1 S.2.1 dX8_shiftAt_34 rfl (lv_at hl 1 rfl) ?_
    refine lv_iload S.1 S.2.1 dX8_shiftAt_35 (lv_at hl 0 rfl) ?_
    refine g_iconst S dX8_shiftAt_37 ?_
    refine g_invV (As := [.int (iI x_18), .int (iI 2)]) (rest := [.int (iI x), .int (iI x_18), .ref (ad 8), .int (iI (smN (skS N y) (lgK N y x)))]) (gs' := (fun u : Unit => [gRLC K ad, gPth K (ad 8) (ad 27) (ad 35) pv2_12.1 pv2_12.2.1 (ad 28) (ad 29) (ad 30) (ad 31) (ad 32) (ad 33) (ad 34) pv2_12.2.2.1 pv2_12.2.2.2.1 pv2_12.2.2.2.2.1 pv2_12.2.2.2.2.2.1 pv2_12.2.2.2.2.2.2.1 pv2_12.2.2.2.2.2.2.2.1 pv2_12.2.2.2.2.2.2.2.2, gRayU K (ad 35) (ad 36) (ad 37) (ad 38) (ad 39) (ad 3) pr2_12 pX2_12, gScn K (ad 3) (ad 14) (ad 15) (ad 16) (ad 17) ou mi bo ln LF sn SF])) S C hG [1] (c_X3_getout l K (ad 8) (ad 27) (ad 35) pv2_12.1 pv2_12.2.1 (ad 28) (ad 29) (ad 30) (ad 31) (ad 32) (ad 33) (ad 34) pv2_12.2.2.1 pv2_12.2.2.2.1 pv2_12.2.2.2.2.1 pv2_12.2.2.2.2.2.1 pv2_12.2.2.2.2.2.2.1 pv2_12.2.2.2.2.2.2.2.1 pv2_12.2.2.2.2.2.2.2.2 x_18 2 (by omega) (by omega)) rfl rfl 0 rfl rfl (cwV 2 S.2.2.2.2 gX8_shiftAt_X3_get rfl rfl rfl (by decide +kernel) ⟨Nat.le_of_ble_eq_true rfl, Nat.le_of_ble_eq_true rfl⟩) rfl hl.1 rfl (Nat.le_of_ble_eq_true rfl) dX8_shiftAt_38 ⟨Nat.le_of_ble_eq_true rfl, Nat.le_of_ble_eq_true rfl⟩ (fun _ => Nat.le_of_ble_eq_true rfl) (fun _ => rfl) (fun v u H locs hp hG => ?_)
    subst hp
    refine g_invV (As := [.int (iI x_18), .int (iI x), .int (iI 0)]) (rest := [.int (iI (smN (skS N y) (lgK N y x)))]) (gs' := (fun u : Unit => [gRLC K ad, gPth K (ad 8) (ad 27) (ad 35) pv2_12.1 pv2_12.2.1 (ad 28) (ad 29) (ad 30) (ad 31) (ad 32) (ad 33) (ad 34) pv2_12.2.2.1 pv2_12.2.2.2.1 pv2_12.2.2.2.2.1 pv2_12.2.2.2.2.2.1 pv2_12.2.2.2.2.2.2.1 pv2_12.2.2.2.2.2.2.2.1 pv2_12.2.2.2.2.2.2.2.2, gRayU K (ad 35) (ad 36) (ad 37) (ad 38) (ad 39) (ad 3) pr2_12 pX2_12, gScn K (ad 3) (ad 14) (ad 15) (ad 16) (ad 17) ou mi bo ln LF sn SF])) S C hG [1] (c_X3_partOut l K (ad 8) (ad 27) (ad 35) pv2_12.1 pv2_12.2.1 (ad 28) (ad 29) (ad 30) (ad 31) (ad 32) (ad 33) (ad 34) pv2_12.2.2.1 pv2_12.2.2.2.1 pv2_12.2.2.2.2.1 pv2_12.2.2.2.2.2.1 pv2_12.2.2.2.2.2.2.1 pv2_12.2.2.2.2.2.2.2.1 pv2_12.2.2.2.2.2.2.2.2 x_18 x 0 (by omega) (by omega) hx (by rw [show pv2_12.1.toNat = gS N y by omega, hp_12.s4 (Nat.le_refl _)] <;> exact ⟨(smN_nn _ (fun i hi => by have z := b4 (i : Int) (by omega) (by omega) <;> rw [(hp_12.at0 hi).2.2.2] at z <;> omega)), l3 _ c9 (by omega)⟩)) rfl rfl 0 rfl rfl (cwV 3 S.2.2.2.2 gX8_shiftAt_X3_partOfLeg rfl rfl rfl (by decide +kernel) ⟨Nat.le_of_ble_eq_true rfl, Nat.le_of_ble_eq_true rfl⟩) rfl hl.1 rfl (Nat.le_of_ble_eq_true rfl) dX8_shiftAt_41 ⟨Nat.le_of_ble_eq_true rfl, Nat.le_of_ble_eq_true rfl⟩ (fun _ => Nat.le_of_ble_eq_true rfl) (fun _ => rfl) (fun v u H locs hp hG => ?_)
    subst hp
    refine g_iadd S dX8_shiftAt_44 rfl ?_
    have hG : gW K A s.heap [gRLC K ad, gPthV K (ad 8) (ad 27) (ad 35) (ad 28) (ad 29) (ad 30) (ad 31) (ad 32) (ad 33) (ad 34) pv2_12, gRayU K (ad 35) (ad 36) (ad 37) (ad 38) (ad 39) (ad 3) pr2_12 pX2_12, gScn K (ad 3) (ad 14) (ad 15) (ad 16) (ad 17) ou mi bo ln LF sn SF] _ _ := hG
    exact g_iret S hr hlk hQ dX8_shiftAt_45 (Nat.le_of_ble_eq_true rfl) (Nat.le_of_ble_eq_true rfl) ((pv2_12, pr2_12, pX2_12) : PV × RU × (Int → Int)) ⟨(congrArg (fun z : Int => Value.int (iI z)) (by unfold shtN <;> rw [if_pos (by omega), show lgK N y x = gS N y by omega] <;> omega)), hp_12⟩ hG

set_option maxHeartbeats 1000000 in
set_option maxRecDepth 100000 in
theorem c_X8_depthAt (l : Launch) (K : KC) (ad : Nat → Nat) (ou : Int) (mi : Int) (bo : Int) (ln : Int) (LF : Int → Int) (sn : Int) (SF : Int → Int) (N : Int → Int) (pv : PV) (ps : Nat) (pr : RU) (pX : Int → Int) (y : Int) (x : Int) (hS : ScOk N ou mi bo ln LF sn SF) (hN : NOk0 N) (hv : -2147483648 ≤ y ∧ y < 2147483648) (hs : 0 ≤ y ∧ y < N 4) (hx : 0 ≤ x ∧ x < 2147483648) : mG l yX8_depthAt wsX8_depthAt 5 119 K [.ref (ad 0), .int (iI y), .int (iI x)] [gRLC K ad, gPthV K (ad 8) (ad 27) (ad 35) (ad 28) (ad 29) (ad 30) (ad 31) (ad 32) (ad 33) (ad 34) pv, gRayU K (ad 35) (ad 36) (ad 37) (ad 38) (ad 39) ps pr pX, gScn K (ad 3) (ad 14) (ad 15) (ad 16) (ad 17) ou mi bo ln LF sn SF] (fun (v : Value) (u : PV × RU × (Int → Int)) => (v = .int (iI (dptN N y x))) ∧ (PthR N (sP N y) (sY N y) (sD N y) u.1)) (fun (u : PV × RU × (Int → Int)) => [gRLC K ad, gPthV K (ad 8) (ad 27) (ad 35) (ad 28) (ad 29) (ad 30) (ad 31) (ad 32) (ad 33) (ad 34) u.1, gRayU K (ad 35) (ad 36) (ad 37) (ad 38) (ad 39) (ad 3) u.2.1 u.2.2, gScn K (ad 3) (ad 14) (ad 15) (ad 16) (ad 17) ou mi bo ln LF sn SF]) 0 0 := by
  refine mG_of cX8_depthAt 7 (by decide) rfl (Nat.le_of_ble_eq_true rfl) ?_
  intro p e s m below meth c A ls Q S C hG hl hr hlk hin hQ
  have S : CallFix p m c cX8_depthAt 7 s ([.ref (ad 0), .int (iI y), .int (iI x)] : List Value).toArray wsX8_depthAt RX8 := S
  have iX80 : ∀ w ∈ wsX80, w ∈ wsX8_depthAt := fun _ h => List.mem_cons_of_mem _ (List.mem_append_left _ (List.mem_append_left _ (List.mem_append_left _ (List.mem_append_left _ (List.mem_append_left _ (List.mem_append_left _ (List.mem_append_right _ (h))))))))
  have iX30 : ∀ w ∈ wsX30, w ∈ wsX8_depthAt := fun _ h => List.mem_cons_of_mem _ (List.mem_append_left _ (List.mem_append_left _ (List.mem_append_left _ (List.mem_append_left _ (List.mem_append_left _ (List.mem_append_right _ (h)))))))
  have iX50 : ∀ w ∈ wsX50, w ∈ wsX8_depthAt := fun _ h => List.mem_cons_of_mem _ (List.mem_append_left _ (List.mem_append_left _ (List.mem_append_left _ (List.mem_append_left _ (List.mem_append_right _ (h))))))
  have iX70 : ∀ w ∈ wsX70, w ∈ wsX8_depthAt := fun _ h => List.mem_cons_of_mem _ (List.mem_append_left _ (List.mem_append_left _ (List.mem_append_left _ (List.mem_append_right _ (h)))))
  have iX40 : ∀ w ∈ wsX40, w ∈ wsX8_depthAt := fun _ h => List.mem_cons_of_mem _ (List.mem_append_left _ (List.mem_append_left _ (List.mem_append_right _ (h))))
  have hl : lv_has ls 7 [(0, .ref (ad 0)), (1, .int (iI y)), (2, .int (iI x))] := hl
  have hG : gW K A s.heap [gRLC K ad, gPthV K (ad 8) (ad 27) (ad 35) (ad 28) (ad 29) (ad 30) (ad 31) (ad 32) (ad 33) (ad 34) pv, gRayU K (ad 35) (ad 36) (ad 37) (ad 38) (ad 39) ps pr pX, gScn K (ad 3) (ad 14) (ad 15) (ad 16) (ad 17) ou mi bo ln LF sn SF] s.heap [] := hG
  obtain ⟨e0, e1, e2, e3, e4, e5, e6⟩ := id hS
  have n0 := hN.1
  have n3 := hN.2.2.2.1
  refine lv_aload_n S.1 S.2.1 dX8_depthAt_0 rfl (lv_at hl 0 rfl) ?_
  refine lv_iload_n S.1 S.2.1 dX8_depthAt_1 rfl (lv_at hl 1 rfl) ?_
  refine lv_iload_n S.1 S.2.1 dX8_depthAt_2 rfl (lv_at hl 2 rfl) ?_
  refine g_invVv (As := [.int (iI y), .int (iI x)]) (rest := []) (gs' := (fun u : Unit => [gRLC K ad, gPthV K (ad 8) (ad 27) (ad 35) (ad 28) (ad 29) (ad 30) (ad 31) (ad 32) (ad 33) (ad 34) pv, gRayU K (ad 35) (ad 36) (ad 37) (ad 38) (ad 39) ps pr pX, gScn K (ad 3) (ad 14) (ad 15) (ad 16) (ad 17) ou mi bo ln LF sn SF])) S C hG [0, 3] (c_X8_checkShotAndTime l K ad ou mi bo ln LF sn SF N y x hS hN hv (by omega) hs hx.1) rfl rfl 0 rfl rfl (cwV 2 S.2.2.2.2 gX8_depthAt_X8_checkShotAndTime rfl rfl rfl (by decide +kernel) ⟨Nat.le_of_ble_eq_true rfl, Nat.le_of_ble_eq_true rfl⟩) rfl hl.1 rfl (Nat.le_of_ble_eq_true rfl) dX8_depthAt_3 ⟨Nat.le_of_ble_eq_true rfl, Nat.le_of_ble_eq_true rfl⟩ (fun _ => Nat.le_of_ble_eq_true rfl) (fun _ => rfl) (fun u H locs hp hG => ?_)
  refine lv_aload_n S.1 S.2.1 dX8_depthAt_6 rfl (lv_at hl 0 rfl) ?_
  refine lv_aload_n S.1 S.2.1 dX8_depthAt_7 rfl (lv_at hl 0 rfl) ?_
  refine g_get S C hG iX80 0 rfl rfl 7 (by decide) (List.mem_of_getElem? (i := 1) rfl) rfl dX8_depthAt_8 ?_
  refine lv_iload_n S.1 S.2.1 dX8_depthAt_11 rfl (lv_at hl 1 rfl) ?_
  refine g_invV (As := [.ref (ad 8), .int (iI y)]) (rest := []) (gs' := (fun u : PV × RU × (Int → Int) => [gRLC K ad, gPthV K (ad 8) (ad 27) (ad 35) (ad 28) (ad 29) (ad 30) (ad 31) (ad 32) (ad 33) (ad 34) u.1, gRayU K (ad 35) (ad 36) (ad 37) (ad 38) (ad 39) (ad 3) u.2.1 u.2.2, gScn K (ad 3) (ad 14) (ad 15) (ad 16) (ad 17) ou mi bo ln LF sn SF])) S C hG [0, 1, 2, 3] (c_X8_pathOf l K ad ou mi bo ln LF sn SF N (ad 8) (ad 27) (ad 35) (ad 28) (ad 29) (ad 30) (ad 31) (ad 32) (ad 33) (ad 34) (ad 36) (ad 37) (ad 38) (ad 39) pv ps pr pX y hS hN hs) rfl rfl 0 rfl rfl (cwV 2 S.2.2.2.2 gX8_depthAt_X8_pathOf rfl rfl rfl (by decide +kernel) ⟨Nat.le_of_ble_eq_true rfl, Nat.le_of_ble_eq_true rfl⟩) rfl hl.1 rfl (Nat.le_of_ble_eq_true rfl) dX8_depthAt_12 ⟨Nat.le_of_ble_eq_true rfl, Nat.le_of_ble_eq_true rfl⟩ (fun _ => Nat.le_of_ble_eq_true rfl) (fun _ => rfl) (fun v u H locs hp hG => ?_)
  obtain ⟨pv2_12, pr2_12, pX2_12⟩ := u
  obtain ⟨rfl, hp_12⟩ := hp
  have hp_12 : PthR N (sP N y) (sY N y) (sD N y) pv2_12 := hp_12
  have hG : gW K A s.heap [gRLC K ad, gPthV K (ad 8) (ad 27) (ad 35) (ad 28) (ad 29) (ad 30) (ad 31) (ad 32) (ad 33) (ad 34) pv2_12, gRayU K (ad 35) (ad 36) (ad 37) (ad 38) (ad 39) (ad 3) pr2_12 pX2_12, gScn K (ad 3) (ad 14) (ad 15) (ad 16) (ad 17) ou mi bo ln LF sn SF] _ _ := hG
  have g4 := sho_bd hN hs.1 hs.2
  obtain ⟨b1, b2, b3, b4⟩ := hp_12.bd hN g4.2.2.1 g4.2.1
  have b5 : pv2_12.1 = (gS N y : Int) := b2
  refine lv_astore_n (lv' := [(3, .ref (ad 8)), (0, .ref (ad 0)), (1, .int (iI y)), (2, .int (iI x))]) S.1 S.2.1 dX8_depthAt_15 rfl hl (by decide) rfl (fun ls hl => ?_)
  refine lv_aload_n S.1 S.2.1 dX8_depthAt_16 rfl (lv_at hl 0 rfl) ?_
  refine lv_iload_n S.1 S.2.1 dX8_depthAt_17 rfl (lv_at hl 3 rfl) ?_
  have hG : gW K A s.heap [gRLC K ad, gPth K (ad 8) (ad 27) (ad 35) pv2_12.1 pv2_12.2.1 (ad 28) (ad 29) (ad 30) (ad 31) (ad 32) (ad 33) (ad 34) pv2_12.2.2.1 pv2_12.2.2.2.1 pv2_12.2.2.2.2.1 pv2_12.2.2.2.2.2.1 pv2_12.2.2.2.2.2.2.1 pv2_12.2.2.2.2.2.2.2.1 pv2_12.2.2.2.2.2.2.2.2, gRayU K (ad 35) (ad 36) (ad 37) (ad 38) (ad 39) (ad 3) pr2_12 pX2_12, gScn K (ad 3) (ad 14) (ad 15) (ad 16) (ad 17) ou mi bo ln LF sn SF] _ _ := hG
  refine g_invV (As := [.int (iI x)]) (rest := []) (gs' := (fun u : Int => [gRLC K ad, gPth K (ad 8) (ad 27) (ad 35) pv2_12.1 pv2_12.2.1 (ad 28) (ad 29) (ad 30) (ad 31) (ad 32) (ad 33) (ad 34) pv2_12.2.2.1 pv2_12.2.2.2.1 pv2_12.2.2.2.2.1 pv2_12.2.2.2.2.2.1 pv2_12.2.2.2.2.2.2.1 pv2_12.2.2.2.2.2.2.2.1 pv2_12.2.2.2.2.2.2.2.2, gRayU K (ad 35) (ad 36) (ad 37) (ad 38) (ad 39) (ad 3) pr2_12 pX2_12, gScn K (ad 3) (ad 14) (ad 15) (ad 16) (ad 17) ou mi bo ln LF sn SF])) S C hG [1] (c_X3_legDuring l K (ad 8) (ad 27) (ad 35) pv2_12.1 pv2_12.2.1 (ad 28) (ad 29) (ad 30) (ad 31) (ad 32) (ad 33) (ad 34) pv2_12.2.2.1 pv2_12.2.2.2.1 pv2_12.2.2.2.2.1 pv2_12.2.2.2.2.2.1 pv2_12.2.2.2.2.2.2.1 pv2_12.2.2.2.2.2.2.2.1 pv2_12.2.2.2.2.2.2.2.2 (gS N y) x ⟨b5, by omega⟩ hx (fun i a b => ⟨by have z := (b4 i a b).2.2.2 <;> omega, (b4 i a b).2.2.2.2⟩)) rfl rfl 0 rfl rfl (cwV 1 S.2.2.2.2 gX8_depthAt_X3_legDuring rfl rfl rfl (by decide +kernel) ⟨Nat.le_of_ble_eq_true rfl, Nat.le_of_ble_eq_true rfl⟩) rfl hl.1 rfl (Nat.le_of_ble_eq_true rfl) dX8_depthAt_18 ⟨Nat.le_of_ble_eq_true rfl, Nat.le_of_ble_eq_true rfl⟩ (fun _ => Nat.le_of_ble_eq_true rfl) (fun _ => rfl) (fun v u H locs hp hG => ?_)
  obtain ⟨x_18, rfl⟩ : ∃ z, z = u := ⟨_, rfl⟩
  obtain ⟨rfl, hx_18⟩ := hp
  have hx_18 : LegD pv2_12.2.2.2.2.2.2.1 (gS N y) x x_18 := hx_18
  have hG : gW K A s.heap [gRLC K ad, gPth K (ad 8) (ad 27) (ad 35) pv2_12.1 pv2_12.2.1 (ad 28) (ad 29) (ad 30) (ad 31) (ad 32) (ad 33) (ad 34) pv2_12.2.2.1 pv2_12.2.2.2.1 pv2_12.2.2.2.2.1 pv2_12.2.2.2.2.2.1 pv2_12.2.2.2.2.2.2.1 pv2_12.2.2.2.2.2.2.2.1 pv2_12.2.2.2.2.2.2.2.2, gRayU K (ad 35) (ad 36) (ad 37) (ad 38) (ad 39) (ad 3) pr2_12 pX2_12, gScn K (ad 3) (ad 14) (ad 15) (ad 16) (ad 17) ou mi bo ln LF sn SF] _ _ := hG
  refine lv_istore (lv' := [(4, .int (iI x_18)), (3, .ref (ad 8)), (0, .ref (ad 0)), (1, .int (iI y)), (2, .int (iI x))]) S.1 S.2.1 dX8_depthAt_21 hl (by decide) rfl (fun ls hl => ?_)
  refine lv_iload S.1 S.2.1 dX8_depthAt_23 (lv_at hl 0 rfl) ?_
  refine lv_aload_n S.1 S.2.1 dX8_depthAt_25 rfl (lv_at hl 1 rfl) ?_
  refine g_get S C hG iX30 1 rfl rfl 2 (by decide) (List.mem_of_getElem? (i := 2) rfl) rfl dX8_depthAt_26 ?_
  obtain ⟨l1, l2, l3⟩ := hp_12.lgk hx_18
  refine g_icmp_lt (tgt := 34) S dX8_depthAt_29 (by decide) (by omega) (by omega) (fun q29 => ?_) (fun q29 => ?_)
  · skip
    have c9 : lgK N y x < gS N y := by omega
    have q4 := b4 (lgK N y x : Int) (by omega) (by omega)
    obtain ⟨a0, a1, a2, a4⟩ := hp_12.at0 c9
    rw [a0, a1] at q4
    have ly := lay_bd hN q4.1.1 q4.1.2.2
    have g8 := prt_bd (t := x) (d := dX N (ykS N y (lgK N y x))) hp_12 hN (by omega) c9 hx.1 l3 (by omega)
    have d8 := depN_bd hN (ykS N y (lgK N y x)).toNat (by omega)
    have d9 := depN_bd hN (ykS N y (lgK N y x) + 1).toNat (by omega)
    refine lv_aload_n S.1 S.2.1 dX8_depthAt_34 rfl (lv_at hl 1 rfl) ?_
    refine lv_iload S.1 S.2.1 dX8_depthAt_35 (lv_at hl 0 rfl) ?_
    refine g_iconst S dX8_depthAt_37 ?_
    refine g_invV (As := [.int (iI x_18), .int (iI 0)]) (rest := []) (gs' := (fun u : Unit => [gRLC K ad, gPth K (ad 8) (ad 27) (ad 35) pv2_12.1 pv2_12.2.1 (ad 28) (ad 29) (ad 30) (ad 31) (ad 32) (ad 33) (ad 34) pv2_12.2.2.1 pv2_12.2.2.2.1 pv2_12.2.2.2.2.1 pv2_12.2.2.2.2.2.1 pv2_12.2.2.2.2.2.2.1 pv2_12.2.2.2.2.2.2.2.1 pv2_12.2.2.2.2.2.2.2.2, gRayU K (ad 35) (ad 36) (ad 37) (ad 38) (ad 39) (ad 3) pr2_12 pX2_12, gScn K (ad 3) (ad 14) (ad 15) (ad 16) (ad 17) ou mi bo ln LF sn SF])) S C hG [1] (c_X3_get0 l K (ad 8) (ad 27) (ad 35) pv2_12.1 pv2_12.2.1 (ad 28) (ad 29) (ad 30) (ad 31) (ad 32) (ad 33) (ad 34) pv2_12.2.2.1 pv2_12.2.2.2.1 pv2_12.2.2.2.2.1 pv2_12.2.2.2.2.2.1 pv2_12.2.2.2.2.2.2.1 pv2_12.2.2.2.2.2.2.2.1 pv2_12.2.2.2.2.2.2.2.2 x_18 (by omega) (by omega)) rfl rfl 0 rfl rfl (cwV 2 S.2.2.2.2 gX8_depthAt_X3_get rfl rfl rfl (by decide +kernel) ⟨Nat.le_of_ble_eq_true rfl, Nat.le_of_ble_eq_true rfl⟩) rfl hl.1 rfl (Nat.le_of_ble_eq_true rfl) dX8_depthAt_38 ⟨Nat.le_of_ble_eq_true rfl, Nat.le_of_ble_eq_true rfl⟩ (fun _ => Nat.le_of_ble_eq_true rfl) (fun _ => rfl) (fun v u H locs hp hG => ?_)
    subst hp
    refine g_top (w := .int (iI (ykS N y (lgK N y x)))) (congrArg (fun z : Int => Value.int (iI z)) (((if_pos (by omega)).trans (by rw [l1] <;> exact a0)))) ?_
    refine lv_istore (lv' := [(5, .int (iI (ykS N y (lgK N y x)))), (4, .int (iI x_18)), (3, .ref (ad 8)), (0, .ref (ad 0)), (1, .int (iI y)), (2, .int (iI x))]) S.1 S.2.1 dX8_depthAt_41 hl (by decide) rfl (fun ls hl => ?_)
    refine lv_aload_n S.1 S.2.1 dX8_depthAt_43 rfl (lv_at hl 2 rfl) ?_
    refine lv_iload S.1 S.2.1 dX8_depthAt_44 (lv_at hl 1 rfl) ?_
    refine lv_iload_n S.1 S.2.1 dX8_depthAt_46 rfl (lv_at hl 5 rfl) ?_
    refine lv_aload_n S.1 S.2.1 dX8_depthAt_47 rfl (lv_at hl 3 rfl) ?_
    refine g_get S C hG iX80 0 rfl rfl 2 (by decide) (List.mem_of_getElem? (i := 3) rfl) rfl dX8_depthAt_48 ?_
    refine g_get S C hG iX50 15 rfl rfl 0 (by decide) (List.mem_of_getElem? (i := 4) rfl) rfl dX8_depthAt_51 ?_
    refine lv_iload S.1 S.2.1 dX8_depthAt_54 (lv_at hl 0 rfl) ?_
    refine g_iconst S dX8_depthAt_56 ?_
    have hG : gW K A s.heap [gRLC K ad, gPth K (ad 8) (ad 27) (ad 35) pv2_12.1 pv2_12.2.1 (ad 28) (ad 29) (ad 30) (ad 31) (ad 32) (ad 33) (ad 34) pv2_12.2.2.1 pv2_12.2.2.2.1 pv2_12.2.2.2.2.1 pv2_12.2.2.2.2.2.1 pv2_12.2.2.2.2.2.2.1 pv2_12.2.2.2.2.2.2.2.1 pv2_12.2.2.2.2.2.2.2.2, gRayU K (ad 35) (ad 36) (ad 37) (ad 38) (ad 39) (ad 3) pr2_12 pX2_12, gScC K (ad 3) (ad 14) (ad 16) ou mi bo, gTab K (ad 14) (ad 15) ln LF, gTabC K (ad 16) (ad 17) sn, gArr K 60 (ad 17) SF] _ _ := hG
    refine g_invV (As := [.int (iI (ykS N y (lgK N y x))), .int (iI 1)]) (rest := [.int (iI x), .int (iI x_18), .ref (ad 8)]) (gs' := (fun u : Unit => [gRLC K ad, gPth K (ad 8) (ad 27) (ad 35) pv2_12.1 pv2_12.2.1 (ad 28) (ad 29) (ad 30) (ad 31) (ad 32) (ad 33) (ad 34) pv2_12.2.2.1 pv2_12.2.2.2.1 pv2_12.2.2.2.2.1 pv2_12.2.2.2.2.2.1 pv2_12.2.2.2.2.2.2.1 pv2_12.2.2.2.2.2.2.2.1 pv2_12.2.2.2.2.2.2.2.2, gRayU K (ad 35) (ad 36) (ad 37) (ad 38) (ad 39) (ad 3) pr2_12 pX2_12, gScC K (ad 3) (ad 14) (ad 16) ou mi bo, gTab K (ad 14) (ad 15) ln LF, gTabC K (ad 16) (ad 17) sn, gArr K 60 (ad 17) SF])) S C hG [4] (c_X7_get l K (ad 14) (ad 15) ln LF (ykS N y (lgK N y x)) 1 (by omega) (by omega)) rfl rfl 0 rfl rfl (cwV 2 S.2.2.2.2 gX8_depthAt_X7_get rfl rfl rfl (by decide +kernel) ⟨Nat.le_of_ble_eq_true rfl, Nat.le_of_ble_eq_true rfl⟩) rfl hl.1 rfl (Nat.le_of_ble_eq_true rfl) dX8_depthAt_57 ⟨Nat.le_of_ble_eq_true rfl, Nat.le_of_ble_eq_true rfl⟩ (fun _ => Nat.le_of_ble_eq_true rfl) (fun _ => rfl) (fun v u H locs hp hG => ?_)
    subst hp
    refine g_top (w := .int (iI (dX N (ykS N y (lgK N y x))))) (congrArg (fun z : Int => Value.int (iI z)) ((e5 _ 1 q4.1.1 (by omega) (by decide) (by decide)))) ?_
    refine g_invV (As := [.int (iI x_18), .int (iI x), .int (iI (dX N (ykS N y (lgK N y x))))]) (rest := []) (gs' := (fun u : Unit => [gRLC K ad, gPth K (ad 8) (ad 27) (ad 35) pv2_12.1 pv2_12.2.1 (ad 28) (ad 29) (ad 30) (ad 31) (ad 32) (ad 33) (ad 34) pv2_12.2.2.1 pv2_12.2.2.2.1 pv2_12.2.2.2.2.1 pv2_12.2.2.2.2.2.1 pv2_12.2.2.2.2.2.2.1 pv2_12.2.2.2.2.2.2.2.1 pv2_12.2.2.2.2.2.2.2.2, gRayU K (ad 35) (ad 36) (ad 37) (ad 38) (ad 39) (ad 3) pr2_12 pX2_12, gScC K (ad 3) (ad 14) (ad 16) ou mi bo, gTab K (ad 14) (ad 15) ln LF, gTabC K (ad 16) (ad 17) sn, gArr K 60 (ad 17) SF])) S C hG [1] (c_X3_partOfLeg l K (ad 8) (ad 27) (ad 35) pv2_12.1 pv2_12.2.1 (ad 28) (ad 29) (ad 30) (ad 31) (ad 32) (ad 33) (ad 34) pv2_12.2.2.1 pv2_12.2.2.2.1 pv2_12.2.2.2.2.1 pv2_12.2.2.2.2.2.1 pv2_12.2.2.2.2.2.2.1 pv2_12.2.2.2.2.2.2.2.1 pv2_12.2.2.2.2.2.2.2.2 x_18 x (dX N (ykS N y (lgK N y x))) (by omega) (by omega) hx (by rw [l1] <;> exact q4.2.2.2) (by rw [show x_18.toNat = lgK N y x by omega, hp_12.s4 l2] <;> exact ⟨(smN_nn _ (fun i hi => by have z := b4 (i : Int) (by omega) (by omega) <;> rw [(hp_12.at0 (by omega)).2.2.2] at z <;> omega)), l3 _ (Nat.le_refl _) (by omega)⟩) (by omega)) rfl rfl 0 rfl rfl (cwV 3 S.2.2.2.2 gX8_depthAt_X3_partOfLeg rfl rfl rfl (by decide +kernel) ⟨Nat.le_of_ble_eq_true rfl, Nat.le_of_ble_eq_true rfl⟩) rfl hl.1 rfl (Nat.le_of_ble_eq_true rfl) dX8_depthAt_60 ⟨Nat.le_of_ble_eq_true rfl, Nat.le_of_ble_eq_true rfl⟩ (fun _ => Nat.le_of_ble_eq_true rfl) (fun _ => rfl) (fun v u H locs hp hG => ?_)
    subst hp
    refine g_top (w := .int (iI ((dX N (ykS N y (lgK N y x)) * (x - smN (tqS N y) (lgK N y x)) / tqS N y (lgK N y x))))) (congrArg (fun z : Int => Value.int (iI z)) ((by rw [show x_18.toNat = lgK N y x by omega, hp_12.s4 l2, l1, a4]))) ?_
    refine lv_istore (lv' := [(6, .int (iI (dX N (ykS N y (lgK N y x)) * (x - smN (tqS N y) (lgK N y x)) / tqS N y (lgK N y x)))), (5, .int (iI (ykS N y (lgK N y x)))), (4, .int (iI x_18)), (3, .ref (ad 8)), (0, .ref (ad 0)), (1, .int (iI y)), (2, .int (iI x))]) S.1 S.2.1 dX8_depthAt_63 hl (by decide) rfl (fun ls hl => ?_)
    refine lv_aload_n S.1 S.2.1 dX8_depthAt_65 rfl (lv_at hl 3 rfl) ?_
    refine lv_iload S.1 S.2.1 dX8_depthAt_66 (lv_at hl 2 rfl) ?_
    refine g_iconst S dX8_depthAt_68 ?_
    refine g_invV (As := [.int (iI x_18), .int (iI 1)]) (rest := []) (gs' := (fun u : Unit => [gRLC K ad, gPth K (ad 8) (ad 27) (ad 35) pv2_12.1 pv2_12.2.1 (ad 28) (ad 29) (ad 30) (ad 31) (ad 32) (ad 33) (ad 34) pv2_12.2.2.1 pv2_12.2.2.2.1 pv2_12.2.2.2.2.1 pv2_12.2.2.2.2.2.1 pv2_12.2.2.2.2.2.2.1 pv2_12.2.2.2.2.2.2.2.1 pv2_12.2.2.2.2.2.2.2.2, gRayU K (ad 35) (ad 36) (ad 37) (ad 38) (ad 39) (ad 3) pr2_12 pX2_12, gScC K (ad 3) (ad 14) (ad 16) ou mi bo, gTab K (ad 14) (ad 15) ln LF, gTabC K (ad 16) (ad 17) sn, gArr K 60 (ad 17) SF])) S C hG [1] (c_X3_get1 l K (ad 8) (ad 27) (ad 35) pv2_12.1 pv2_12.2.1 (ad 28) (ad 29) (ad 30) (ad 31) (ad 32) (ad 33) (ad 34) pv2_12.2.2.1 pv2_12.2.2.2.1 pv2_12.2.2.2.2.1 pv2_12.2.2.2.2.2.1 pv2_12.2.2.2.2.2.2.1 pv2_12.2.2.2.2.2.2.2.1 pv2_12.2.2.2.2.2.2.2.2 x_18 (by omega) (by omega)) rfl rfl 0 rfl rfl (cwV 2 S.2.2.2.2 gX8_depthAt_X3_get rfl rfl rfl (by decide +kernel) ⟨Nat.le_of_ble_eq_true rfl, Nat.le_of_ble_eq_true rfl⟩) rfl hl.1 rfl (Nat.le_of_ble_eq_true rfl) dX8_depthAt_69 ⟨Nat.le_of_ble_eq_true rfl, Nat.le_of_ble_eq_true rfl⟩ (fun _ => Nat.le_of_ble_eq_true rfl) (fun _ => rfl) (fun v u H locs hp hG => ?_)
    subst hp
    refine g_top (w := .int (iI (ekS N y (lgK N y x)))) (congrArg (fun z : Int => Value.int (iI z)) (((if_pos (by omega)).trans (by rw [l1] <;> exact a1)))) ?_
    refine g_iconst S dX8_depthAt_72 ?_
    refine g_icmp_ne (tgt := 91) S dX8_depthAt_73 (by decide) (by omega) (by omega) (fun q73 => ?_) (fun q73 => ?_)
    · skip
      refine lv_aload_n S.1 S.2.1 dX8_depthAt_91 rfl (lv_at hl 4 rfl) ?_
      refine g_get S C hG iX80 0 rfl rfl 2 (by decide) (List.mem_of_getElem? (i := 3) rfl) rfl dX8_depthAt_92 ?_
      refine lv_iload S.1 S.2.1 dX8_depthAt_95 (lv_at hl 1 rfl) ?_
      refine g_iconst S dX8_depthAt_97 ?_
      refine g_iadd S dX8_depthAt_98 rfl ?_
      have hG : gW K A s.heap [gRLC K ad, gPth K (ad 8) (ad 27) (ad 35) pv2_12.1 pv2_12.2.1 (ad 28) (ad 29) (ad 30) (ad 31) (ad 32) (ad 33) (ad 34) pv2_12.2.2.1 pv2_12.2.2.2.1 pv2_12.2.2.2.2.1 pv2_12.2.2.2.2.2.1 pv2_12.2.2.2.2.2.2.1 pv2_12.2.2.2.2.2.2.2.1 pv2_12.2.2.2.2.2.2.2.2, gRayU K (ad 35) (ad 36) (ad 37) (ad 38) (ad 39) (ad 3) pr2_12 pX2_12, gScn K (ad 3) (ad 14) (ad 15) (ad 16) (ad 17) ou mi bo ln LF sn SF] _ _ := hG
      refine g_invV (As := [.int (iI ((ykS N y (lgK N y x)) + 1))]) (rest := []) (gs' := (fun u : Unit => [gRLC K ad, gPth K (ad 8) (ad 27) (ad 35) pv2_12.1 pv2_12.2.1 (ad 28) (ad 29) (ad 30) (ad 31) (ad 32) (ad 33) (ad 34) pv2_12.2.2.1 pv2_12.2.2.2.1 pv2_12.2.2.2.2.1 pv2_12.2.2.2.2.2.1 pv2_12.2.2.2.2.2.2.1 pv2_12.2.2.2.2.2.2.2.1 pv2_12.2.2.2.2.2.2.2.2, gRayU K (ad 35) (ad 36) (ad 37) (ad 38) (ad 39) (ad 3) pr2_12 pX2_12, gScn K (ad 3) (ad 14) (ad 15) (ad 16) (ad 17) ou mi bo ln LF sn SF])) S C hG [3] (c_X5_depthOf l K (ad 3) (ad 14) (ad 15) (ad 16) (ad 17) ou mi bo ln LF sn SF N ((ykS N y (lgK N y x)) + 1) hS hN (by omega)) rfl rfl 0 rfl rfl (cwV 1 S.2.2.2.2 gX8_depthAt_X5_depthOf rfl rfl rfl (by decide +kernel) ⟨Nat.le_of_ble_eq_true rfl, Nat.le_of_ble_eq_true rfl⟩) rfl hl.1 rfl (Nat.le_of_ble_eq_true rfl) dX8_depthAt_99 ⟨Nat.le_of_ble_eq_true rfl, Nat.le_of_ble_eq_true rfl⟩ (fun _ => Nat.le_of_ble_eq_true rfl) (fun _ => rfl) (fun v u H locs hp hG => ?_)
      subst hp
      refine lv_iload S.1 S.2.1 dX8_depthAt_102 (lv_at hl 0 rfl) ?_
      refine g_isub S dX8_depthAt_104 rfl ?_
      have hG : gW K A s.heap [gRLC K ad, gPthV K (ad 8) (ad 27) (ad 35) (ad 28) (ad 29) (ad 30) (ad 31) (ad 32) (ad 33) (ad 34) pv2_12, gRayU K (ad 35) (ad 36) (ad 37) (ad 38) (ad 39) (ad 3) pr2_12 pX2_12, gScn K (ad 3) (ad 14) (ad 15) (ad 16) (ad 17) ou mi bo ln LF sn SF] _ _ := hG
      exact g_iret S hr hlk hQ dX8_depthAt_105 (Nat.le_of_ble_eq_true rfl) (Nat.le_of_ble_eq_true rfl) ((pv2_12, pr2_12, pX2_12) : PV × RU × (Int → Int)) ⟨(congrArg (fun z : Int => Value.int (iI z)) (by unfold dptN <;> rw [if_neg (by omega), if_neg (by omega)])), hp_12⟩ hG
    · skip
      refine lv_aload_n S.1 S.2.1 dX8_depthAt_76 rfl (lv_at hl 4 rfl) ?_
      refine g_get S C hG iX80 0 rfl rfl 2 (by decide) (List.mem_of_getElem? (i := 3) rfl) rfl dX8_depthAt_77 ?_
      refine lv_iload S.1 S.2.1 dX8_depthAt_80 (lv_at hl 1 rfl) ?_
      have hG : gW K A s.heap [gRLC K ad, gPth K (ad 8) (ad 27) (ad 35) pv2_12.1 pv2_12.2.1 (ad 28) (ad 29) (ad 30) (ad 31) (ad 32) (ad 33) (ad 34) pv2_12.2.2.1 pv2_12.2.2.2.1 pv2_12.2.2.2.2.1 pv2_12.2.2.2.2.2.1 pv2_12.2.2.2.2.2.2.1 pv2_12.2.2.2.2.2.2.2.1 pv2_12.2.2.2.2.2.2.2.2, gRayU K (ad 35) (ad 36) (ad 37) (ad 38) (ad 39) (ad 3) pr2_12 pX2_12, gScn K (ad 3) (ad 14) (ad 15) (ad 16) (ad 17) ou mi bo ln LF sn SF] _ _ := hG
      refine g_invV (As := [.int (iI (ykS N y (lgK N y x)))]) (rest := []) (gs' := (fun u : Unit => [gRLC K ad, gPth K (ad 8) (ad 27) (ad 35) pv2_12.1 pv2_12.2.1 (ad 28) (ad 29) (ad 30) (ad 31) (ad 32) (ad 33) (ad 34) pv2_12.2.2.1 pv2_12.2.2.2.1 pv2_12.2.2.2.2.1 pv2_12.2.2.2.2.2.1 pv2_12.2.2.2.2.2.2.1 pv2_12.2.2.2.2.2.2.2.1 pv2_12.2.2.2.2.2.2.2.2, gRayU K (ad 35) (ad 36) (ad 37) (ad 38) (ad 39) (ad 3) pr2_12 pX2_12, gScn K (ad 3) (ad 14) (ad 15) (ad 16) (ad 17) ou mi bo ln LF sn SF])) S C hG [3] (c_X5_depthOf l K (ad 3) (ad 14) (ad 15) (ad 16) (ad 17) ou mi bo ln LF sn SF N (ykS N y (lgK N y x)) hS hN (by omega)) rfl rfl 0 rfl rfl (cwV 1 S.2.2.2.2 gX8_depthAt_X5_depthOf rfl rfl rfl (by decide +kernel) ⟨Nat.le_of_ble_eq_true rfl, Nat.le_of_ble_eq_true rfl⟩) rfl hl.1 rfl (Nat.le_of_ble_eq_true rfl) dX8_depthAt_82 ⟨Nat.le_of_ble_eq_true rfl, Nat.le_of_ble_eq_true rfl⟩ (fun _ => Nat.le_of_ble_eq_true rfl) (fun _ => rfl) (fun v u H locs hp hG => ?_)
      subst hp
      refine lv_iload S.1 S.2.1 dX8_depthAt_85 (lv_at hl 0 rfl) ?_
      refine g_iadd S dX8_depthAt_87 rfl ?_
      refine lv_goto (tgt := 105) S.1 S.2.1 dX8_depthAt_88 (by decide) ?_
      have hG : gW K A s.heap [gRLC K ad, gPthV K (ad 8) (ad 27) (ad 35) (ad 28) (ad 29) (ad 30) (ad 31) (ad 32) (ad 33) (ad 34) pv2_12, gRayU K (ad 35) (ad 36) (ad 37) (ad 38) (ad 39) (ad 3) pr2_12 pX2_12, gScn K (ad 3) (ad 14) (ad 15) (ad 16) (ad 17) ou mi bo ln LF sn SF] _ _ := hG
      exact g_iret S hr hlk hQ dX8_depthAt_105 (Nat.le_of_ble_eq_true rfl) (Nat.le_of_ble_eq_true rfl) ((pv2_12, pr2_12, pX2_12) : PV × RU × (Int → Int)) ⟨(congrArg (fun z : Int => Value.int (iI z)) (by unfold dptN <;> rw [if_neg (by omega), if_pos (by omega)])), hp_12⟩ hG
  · skip
    refine g_iconst S dX8_depthAt_32 ?_
    have hG : gW K A s.heap [gRLC K ad, gPthV K (ad 8) (ad 27) (ad 35) (ad 28) (ad 29) (ad 30) (ad 31) (ad 32) (ad 33) (ad 34) pv2_12, gRayU K (ad 35) (ad 36) (ad 37) (ad 38) (ad 39) (ad 3) pr2_12 pX2_12, gScn K (ad 3) (ad 14) (ad 15) (ad 16) (ad 17) ou mi bo ln LF sn SF] _ _ := hG
    exact g_iret S hr hlk hQ dX8_depthAt_33 (Nat.le_of_ble_eq_true rfl) (Nat.le_of_ble_eq_true rfl) ((pv2_12, pr2_12, pX2_12) : PV × RU × (Int → Int)) ⟨(congrArg (fun z : Int => Value.int (iI z)) (by unfold dptN <;> rw [if_pos (by omega)])), hp_12⟩ hG

set_option maxHeartbeats 1000000 in
set_option maxRecDepth 100000 in
theorem x1_legAt (l : Launch) (K : KC) (ad : Nat → Nat) (ou : Int) (mi : Int) (bo : Int) (ln : Int) (LF : Int → Int) (sn : Int) (SF : Int → Int) (N : Int → Int) (pv : PV) (ps : Nat) (pr : RU) (pX : Int → Int) (y : Int) (x : Int) (hS : ScOk N ou mi bo ln LF sn SF) (hN : NOk0 N) (hv : -2147483648 ≤ y ∧ y < 2147483648) (hx : -2147483648 ≤ x ∧ x < 2147483648) (h0 : ¬ (0 ≤ y ∧ y < N 4)) (hst : l.stackTraces = false) : mX l yX8_legAt wsX8_legAt 8 125 K [.ref (ad 0), .int (iI y), .int (iI x)] [gRLC K ad, gPthV K (ad 8) (ad 27) (ad 35) (ad 28) (ad 29) (ad 30) (ad 31) (ad 32) (ad 33) (ad 34) pv, gRayU K (ad 35) (ad 36) (ad 37) (ad 38) (ad 39) ps pr pX, gScn K (ad 3) (ad 14) (ad 15) (ad 16) (ad 17) ou mi bo ln LF sn SF] "java/lang/IndexOutOfBoundsException" (fun (u : Unit) => True) (fun (u : Unit) => [gRLC K ad, gPthV K (ad 8) (ad 27) (ad 35) (ad 28) (ad 29) (ad 30) (ad 31) (ad 32) (ad 33) (ad 34) pv, gRayU K (ad 35) (ad 36) (ad 37) (ad 38) (ad 39) ps pr pX, gScn K (ad 3) (ad 14) (ad 15) (ad 16) (ad 17) ou mi bo ln LF sn SF]) 1 6 := by
  refine mX_of cX8_legAt 5 (by decide) rfl (Nat.le_of_ble_eq_true rfl) ?_
  intro p e s m below meth c A ls Q S C hG hl hex hlk hin hQ
  have S : CallFix p m c cX8_legAt 5 s ([.ref (ad 0), .int (iI y), .int (iI x)] : List Value).toArray wsX8_legAt RX8 := S
  have iX80 : ∀ w ∈ wsX80, w ∈ wsX8_legAt := fun _ h => List.mem_cons_of_mem _ (List.mem_append_left _ (List.mem_append_left _ (List.mem_append_left _ (List.mem_append_left _ (List.mem_append_left _ (List.mem_append_left _ (List.mem_append_right _ (h))))))))
  have iX30 : ∀ w ∈ wsX30, w ∈ wsX8_legAt := fun _ h => List.mem_cons_of_mem _ (List.mem_append_left _ (List.mem_append_left _ (List.mem_append_left _ (List.mem_append_left _ (List.mem_append_left _ (List.mem_append_right _ (h)))))))
  have iX50 : ∀ w ∈ wsX50, w ∈ wsX8_legAt := fun _ h => List.mem_cons_of_mem _ (List.mem_append_left _ (List.mem_append_left _ (List.mem_append_left _ (List.mem_append_left _ (List.mem_append_right _ (h))))))
  have iX70 : ∀ w ∈ wsX70, w ∈ wsX8_legAt := fun _ h => List.mem_cons_of_mem _ (List.mem_append_left _ (List.mem_append_left _ (List.mem_append_left _ (List.mem_append_right _ (h)))))
  have iX40 : ∀ w ∈ wsX40, w ∈ wsX8_legAt := fun _ h => List.mem_cons_of_mem _ (List.mem_append_left _ (List.mem_append_left _ (List.mem_append_right _ (h))))
  have hl : lv_has ls 5 [(0, .ref (ad 0)), (1, .int (iI y)), (2, .int (iI x))] := hl
  have hG : gW K A s.heap [gRLC K ad, gPthV K (ad 8) (ad 27) (ad 35) (ad 28) (ad 29) (ad 30) (ad 31) (ad 32) (ad 33) (ad 34) pv, gRayU K (ad 35) (ad 36) (ad 37) (ad 38) (ad 39) ps pr pX, gScn K (ad 3) (ad 14) (ad 15) (ad 16) (ad 17) ou mi bo ln LF sn SF] s.heap [] := hG
  obtain ⟨e0, e1, e2, e3, e4, e5, e6⟩ := id hS
  have n0 := hN.1
  have n3 := hN.2.2.2.1
  refine lv_aload_n S.1 S.2.1 dX8_legAt_0 rfl (lv_at hl 0 rfl) ?_
  refine lv_iload_n S.1 S.2.1 dX8_legAt_1 rfl (lv_at hl 1 rfl) ?_
  refine lv_iload_n S.1 S.2.1 dX8_legAt_2 rfl (lv_at hl 2 rfl) ?_
  refine g_xV (E := "java/lang/IndexOutOfBoundsException") (As := [.int (iI y), .int (iI x)]) (rest := []) (gs' := (fun u : Unit => [gRLC K ad, gPthV K (ad 8) (ad 27) (ad 35) (ad 28) (ad 29) (ad 30) (ad 31) (ad 32) (ad 33) (ad 34) pv, gRayU K (ad 35) (ad 36) (ad 37) (ad 38) (ad 39) ps pr pX, gScn K (ad 3) (ad 14) (ad 15) (ad 16) (ad 17) ou mi bo ln LF sn SF])) S C hG [0, 3] (x1_checkShotAndTime l K ad ou mi bo ln LF sn SF N y x hS hN hv hx h0 hst) rfl rfl 0 rfl rfl (cwV 2 S.2.2.2.2 gX8_legAt_X8_checkShotAndTime rfl rfl rfl (by decide +kernel) ⟨Nat.le_of_ble_eq_true rfl, Nat.le_of_ble_eq_true rfl⟩) rfl hl.1 rfl (Nat.le_of_ble_eq_true rfl) dX8_legAt_3 ⟨Nat.le_of_ble_eq_true rfl, Nat.le_of_ble_eq_true rfl⟩ (fun _ => Nat.le_of_ble_eq_true rfl) (fun _ => rfl) (fun u q9 ce9 H locs hp hG hq9 hv9 hcl9 => ?_)
  have hG : gW K A s.heap [gRLC K ad, gPthV K (ad 8) (ad 27) (ad 35) (ad 28) (ad 29) (ad 30) (ad 31) (ad 32) (ad 33) (ad 34) pv, gRayU K (ad 35) (ad 36) (ad 37) (ad 38) (ad 39) ps pr pX, gScn K (ad 3) (ad 14) (ad 15) (ad 16) (ad 17) ou mi bo ln LF sn SF] _ _ := hG
  exact g_xout hQ hex hlk hq9 hv9 hcl9 (Nat.le_of_ble_eq_true rfl) (Nat.le_of_ble_eq_true rfl) (() : Unit) trivial hG

set_option maxHeartbeats 1000000 in
set_option maxRecDepth 100000 in
theorem x2_legAt (l : Launch) (K : KC) (ad : Nat → Nat) (ou : Int) (mi : Int) (bo : Int) (ln : Int) (LF : Int → Int) (sn : Int) (SF : Int → Int) (N : Int → Int) (pv : PV) (ps : Nat) (pr : RU) (pX : Int → Int) (y : Int) (x : Int) (hS : ScOk N ou mi bo ln LF sn SF) (hN : NOk0 N) (hv : -2147483648 ≤ y ∧ y < 2147483648) (hx : -2147483648 ≤ x ∧ x < 2147483648) (hs : 0 ≤ y ∧ y < N 4) (h1 : ¬ 0 ≤ x) (hst : l.stackTraces = false) : mX l yX8_legAt wsX8_legAt 8 124 K [.ref (ad 0), .int (iI y), .int (iI x)] [gRLC K ad, gPthV K (ad 8) (ad 27) (ad 35) (ad 28) (ad 29) (ad 30) (ad 31) (ad 32) (ad 33) (ad 34) pv, gRayU K (ad 35) (ad 36) (ad 37) (ad 38) (ad 39) ps pr pX, gScn K (ad 3) (ad 14) (ad 15) (ad 16) (ad 17) ou mi bo ln LF sn SF] "java/lang/IllegalArgumentException" (fun (u : Unit) => True) (fun (u : Unit) => [gRLC K ad, gPthV K (ad 8) (ad 27) (ad 35) (ad 28) (ad 29) (ad 30) (ad 31) (ad 32) (ad 33) (ad 34) pv, gRayU K (ad 35) (ad 36) (ad 37) (ad 38) (ad 39) ps pr pX, gScn K (ad 3) (ad 14) (ad 15) (ad 16) (ad 17) ou mi bo ln LF sn SF]) 1 6 := by
  refine mX_of cX8_legAt 5 (by decide) rfl (Nat.le_of_ble_eq_true rfl) ?_
  intro p e s m below meth c A ls Q S C hG hl hex hlk hin hQ
  have S : CallFix p m c cX8_legAt 5 s ([.ref (ad 0), .int (iI y), .int (iI x)] : List Value).toArray wsX8_legAt RX8 := S
  have iX80 : ∀ w ∈ wsX80, w ∈ wsX8_legAt := fun _ h => List.mem_cons_of_mem _ (List.mem_append_left _ (List.mem_append_left _ (List.mem_append_left _ (List.mem_append_left _ (List.mem_append_left _ (List.mem_append_left _ (List.mem_append_right _ (h))))))))
  have iX30 : ∀ w ∈ wsX30, w ∈ wsX8_legAt := fun _ h => List.mem_cons_of_mem _ (List.mem_append_left _ (List.mem_append_left _ (List.mem_append_left _ (List.mem_append_left _ (List.mem_append_left _ (List.mem_append_right _ (h)))))))
  have iX50 : ∀ w ∈ wsX50, w ∈ wsX8_legAt := fun _ h => List.mem_cons_of_mem _ (List.mem_append_left _ (List.mem_append_left _ (List.mem_append_left _ (List.mem_append_left _ (List.mem_append_right _ (h))))))
  have iX70 : ∀ w ∈ wsX70, w ∈ wsX8_legAt := fun _ h => List.mem_cons_of_mem _ (List.mem_append_left _ (List.mem_append_left _ (List.mem_append_left _ (List.mem_append_right _ (h)))))
  have iX40 : ∀ w ∈ wsX40, w ∈ wsX8_legAt := fun _ h => List.mem_cons_of_mem _ (List.mem_append_left _ (List.mem_append_left _ (List.mem_append_right _ (h))))
  have hl : lv_has ls 5 [(0, .ref (ad 0)), (1, .int (iI y)), (2, .int (iI x))] := hl
  have hG : gW K A s.heap [gRLC K ad, gPthV K (ad 8) (ad 27) (ad 35) (ad 28) (ad 29) (ad 30) (ad 31) (ad 32) (ad 33) (ad 34) pv, gRayU K (ad 35) (ad 36) (ad 37) (ad 38) (ad 39) ps pr pX, gScn K (ad 3) (ad 14) (ad 15) (ad 16) (ad 17) ou mi bo ln LF sn SF] s.heap [] := hG
  obtain ⟨e0, e1, e2, e3, e4, e5, e6⟩ := id hS
  have n0 := hN.1
  have n3 := hN.2.2.2.1
  refine lv_aload_n S.1 S.2.1 dX8_legAt_0 rfl (lv_at hl 0 rfl) ?_
  refine lv_iload_n S.1 S.2.1 dX8_legAt_1 rfl (lv_at hl 1 rfl) ?_
  refine lv_iload_n S.1 S.2.1 dX8_legAt_2 rfl (lv_at hl 2 rfl) ?_
  refine g_xV (E := "java/lang/IllegalArgumentException") (As := [.int (iI y), .int (iI x)]) (rest := []) (gs' := (fun u : Unit => [gRLC K ad, gPthV K (ad 8) (ad 27) (ad 35) (ad 28) (ad 29) (ad 30) (ad 31) (ad 32) (ad 33) (ad 34) pv, gRayU K (ad 35) (ad 36) (ad 37) (ad 38) (ad 39) ps pr pX, gScn K (ad 3) (ad 14) (ad 15) (ad 16) (ad 17) ou mi bo ln LF sn SF])) S C hG [0, 3] (x2_checkShotAndTime l K ad ou mi bo ln LF sn SF N y x hS hN hv hx hs (by omega) hst) rfl rfl 0 rfl rfl (cwV 2 S.2.2.2.2 gX8_legAt_X8_checkShotAndTime rfl rfl rfl (by decide +kernel) ⟨Nat.le_of_ble_eq_true rfl, Nat.le_of_ble_eq_true rfl⟩) rfl hl.1 rfl (Nat.le_of_ble_eq_true rfl) dX8_legAt_3 ⟨Nat.le_of_ble_eq_true rfl, Nat.le_of_ble_eq_true rfl⟩ (fun _ => Nat.le_of_ble_eq_true rfl) (fun _ => rfl) (fun u q9 ce9 H locs hp hG hq9 hv9 hcl9 => ?_)
  have hG : gW K A s.heap [gRLC K ad, gPthV K (ad 8) (ad 27) (ad 35) (ad 28) (ad 29) (ad 30) (ad 31) (ad 32) (ad 33) (ad 34) pv, gRayU K (ad 35) (ad 36) (ad 37) (ad 38) (ad 39) ps pr pX, gScn K (ad 3) (ad 14) (ad 15) (ad 16) (ad 17) ou mi bo ln LF sn SF] _ _ := hG
  exact g_xout hQ hex hlk hq9 hv9 hcl9 (Nat.le_of_ble_eq_true rfl) (Nat.le_of_ble_eq_true rfl) (() : Unit) trivial hG

set_option maxHeartbeats 1000000 in
set_option maxRecDepth 100000 in
theorem x1_shiftAt (l : Launch) (K : KC) (ad : Nat → Nat) (ou : Int) (mi : Int) (bo : Int) (ln : Int) (LF : Int → Int) (sn : Int) (SF : Int → Int) (N : Int → Int) (pv : PV) (ps : Nat) (pr : RU) (pX : Int → Int) (y : Int) (x : Int) (hS : ScOk N ou mi bo ln LF sn SF) (hN : NOk0 N) (hv : -2147483648 ≤ y ∧ y < 2147483648) (hx : -2147483648 ≤ x ∧ x < 2147483648) (h0 : ¬ (0 ≤ y ∧ y < N 4)) (hst : l.stackTraces = false) : mX l yX8_shiftAt wsX8_shiftAt 8 125 K [.ref (ad 0), .int (iI y), .int (iI x)] [gRLC K ad, gPthV K (ad 8) (ad 27) (ad 35) (ad 28) (ad 29) (ad 30) (ad 31) (ad 32) (ad 33) (ad 34) pv, gRayU K (ad 35) (ad 36) (ad 37) (ad 38) (ad 39) ps pr pX, gScn K (ad 3) (ad 14) (ad 15) (ad 16) (ad 17) ou mi bo ln LF sn SF] "java/lang/IndexOutOfBoundsException" (fun (u : Unit) => True) (fun (u : Unit) => [gRLC K ad, gPthV K (ad 8) (ad 27) (ad 35) (ad 28) (ad 29) (ad 30) (ad 31) (ad 32) (ad 33) (ad 34) pv, gRayU K (ad 35) (ad 36) (ad 37) (ad 38) (ad 39) ps pr pX, gScn K (ad 3) (ad 14) (ad 15) (ad 16) (ad 17) ou mi bo ln LF sn SF]) 1 6 := by
  refine mX_of cX8_shiftAt 5 (by decide) rfl (Nat.le_of_ble_eq_true rfl) ?_
  intro p e s m below meth c A ls Q S C hG hl hex hlk hin hQ
  have S : CallFix p m c cX8_shiftAt 5 s ([.ref (ad 0), .int (iI y), .int (iI x)] : List Value).toArray wsX8_shiftAt RX8 := S
  have iX80 : ∀ w ∈ wsX80, w ∈ wsX8_shiftAt := fun _ h => List.mem_cons_of_mem _ (List.mem_append_left _ (List.mem_append_left _ (List.mem_append_left _ (List.mem_append_left _ (List.mem_append_left _ (List.mem_append_left _ (List.mem_append_right _ (h))))))))
  have iX50 : ∀ w ∈ wsX50, w ∈ wsX8_shiftAt := fun _ h => List.mem_cons_of_mem _ (List.mem_append_left _ (List.mem_append_left _ (List.mem_append_left _ (List.mem_append_left _ (List.mem_append_left _ (List.mem_append_right _ (h)))))))
  have iX70 : ∀ w ∈ wsX70, w ∈ wsX8_shiftAt := fun _ h => List.mem_cons_of_mem _ (List.mem_append_left _ (List.mem_append_left _ (List.mem_append_left _ (List.mem_append_left _ (List.mem_append_right _ (h))))))
  have iX30 : ∀ w ∈ wsX30, w ∈ wsX8_shiftAt := fun _ h => List.mem_cons_of_mem _ (List.mem_append_left _ (List.mem_append_left _ (List.mem_append_left _ (List.mem_append_right _ (h)))))
  have iX40 : ∀ w ∈ wsX40, w ∈ wsX8_shiftAt := fun _ h => List.mem_cons_of_mem _ (List.mem_append_left _ (List.mem_append_left _ (List.mem_append_right _ (h))))
  have hl : lv_has ls 5 [(0, .ref (ad 0)), (1, .int (iI y)), (2, .int (iI x))] := hl
  have hG : gW K A s.heap [gRLC K ad, gPthV K (ad 8) (ad 27) (ad 35) (ad 28) (ad 29) (ad 30) (ad 31) (ad 32) (ad 33) (ad 34) pv, gRayU K (ad 35) (ad 36) (ad 37) (ad 38) (ad 39) ps pr pX, gScn K (ad 3) (ad 14) (ad 15) (ad 16) (ad 17) ou mi bo ln LF sn SF] s.heap [] := hG
  obtain ⟨e0, e1, e2, e3, e4, e5, e6⟩ := id hS
  have n0 := hN.1
  have n3 := hN.2.2.2.1
  refine lv_aload_n S.1 S.2.1 dX8_shiftAt_0 rfl (lv_at hl 0 rfl) ?_
  refine lv_iload_n S.1 S.2.1 dX8_shiftAt_1 rfl (lv_at hl 1 rfl) ?_
  refine lv_iload_n S.1 S.2.1 dX8_shiftAt_2 rfl (lv_at hl 2 rfl) ?_
  refine g_xV (E := "java/lang/IndexOutOfBoundsException") (As := [.int (iI y), .int (iI x)]) (rest := []) (gs' := (fun u : Unit => [gRLC K ad, gPthV K (ad 8) (ad 27) (ad 35) (ad 28) (ad 29) (ad 30) (ad 31) (ad 32) (ad 33) (ad 34) pv, gRayU K (ad 35) (ad 36) (ad 37) (ad 38) (ad 39) ps pr pX, gScn K (ad 3) (ad 14) (ad 15) (ad 16) (ad 17) ou mi bo ln LF sn SF])) S C hG [0, 3] (x1_checkShotAndTime l K ad ou mi bo ln LF sn SF N y x hS hN hv hx h0 hst) rfl rfl 0 rfl rfl (cwV 2 S.2.2.2.2 gX8_shiftAt_X8_checkShotAndTime rfl rfl rfl (by decide +kernel) ⟨Nat.le_of_ble_eq_true rfl, Nat.le_of_ble_eq_true rfl⟩) rfl hl.1 rfl (Nat.le_of_ble_eq_true rfl) dX8_shiftAt_3 ⟨Nat.le_of_ble_eq_true rfl, Nat.le_of_ble_eq_true rfl⟩ (fun _ => Nat.le_of_ble_eq_true rfl) (fun _ => rfl) (fun u q9 ce9 H locs hp hG hq9 hv9 hcl9 => ?_)
  have hG : gW K A s.heap [gRLC K ad, gPthV K (ad 8) (ad 27) (ad 35) (ad 28) (ad 29) (ad 30) (ad 31) (ad 32) (ad 33) (ad 34) pv, gRayU K (ad 35) (ad 36) (ad 37) (ad 38) (ad 39) ps pr pX, gScn K (ad 3) (ad 14) (ad 15) (ad 16) (ad 17) ou mi bo ln LF sn SF] _ _ := hG
  exact g_xout hQ hex hlk hq9 hv9 hcl9 (Nat.le_of_ble_eq_true rfl) (Nat.le_of_ble_eq_true rfl) (() : Unit) trivial hG

set_option maxHeartbeats 1000000 in
set_option maxRecDepth 100000 in
theorem x2_shiftAt (l : Launch) (K : KC) (ad : Nat → Nat) (ou : Int) (mi : Int) (bo : Int) (ln : Int) (LF : Int → Int) (sn : Int) (SF : Int → Int) (N : Int → Int) (pv : PV) (ps : Nat) (pr : RU) (pX : Int → Int) (y : Int) (x : Int) (hS : ScOk N ou mi bo ln LF sn SF) (hN : NOk0 N) (hv : -2147483648 ≤ y ∧ y < 2147483648) (hx : -2147483648 ≤ x ∧ x < 2147483648) (hs : 0 ≤ y ∧ y < N 4) (h1 : ¬ 0 ≤ x) (hst : l.stackTraces = false) : mX l yX8_shiftAt wsX8_shiftAt 8 124 K [.ref (ad 0), .int (iI y), .int (iI x)] [gRLC K ad, gPthV K (ad 8) (ad 27) (ad 35) (ad 28) (ad 29) (ad 30) (ad 31) (ad 32) (ad 33) (ad 34) pv, gRayU K (ad 35) (ad 36) (ad 37) (ad 38) (ad 39) ps pr pX, gScn K (ad 3) (ad 14) (ad 15) (ad 16) (ad 17) ou mi bo ln LF sn SF] "java/lang/IllegalArgumentException" (fun (u : Unit) => True) (fun (u : Unit) => [gRLC K ad, gPthV K (ad 8) (ad 27) (ad 35) (ad 28) (ad 29) (ad 30) (ad 31) (ad 32) (ad 33) (ad 34) pv, gRayU K (ad 35) (ad 36) (ad 37) (ad 38) (ad 39) ps pr pX, gScn K (ad 3) (ad 14) (ad 15) (ad 16) (ad 17) ou mi bo ln LF sn SF]) 1 6 := by
  refine mX_of cX8_shiftAt 5 (by decide) rfl (Nat.le_of_ble_eq_true rfl) ?_
  intro p e s m below meth c A ls Q S C hG hl hex hlk hin hQ
  have S : CallFix p m c cX8_shiftAt 5 s ([.ref (ad 0), .int (iI y), .int (iI x)] : List Value).toArray wsX8_shiftAt RX8 := S
  have iX80 : ∀ w ∈ wsX80, w ∈ wsX8_shiftAt := fun _ h => List.mem_cons_of_mem _ (List.mem_append_left _ (List.mem_append_left _ (List.mem_append_left _ (List.mem_append_left _ (List.mem_append_left _ (List.mem_append_left _ (List.mem_append_right _ (h))))))))
  have iX50 : ∀ w ∈ wsX50, w ∈ wsX8_shiftAt := fun _ h => List.mem_cons_of_mem _ (List.mem_append_left _ (List.mem_append_left _ (List.mem_append_left _ (List.mem_append_left _ (List.mem_append_left _ (List.mem_append_right _ (h)))))))
  have iX70 : ∀ w ∈ wsX70, w ∈ wsX8_shiftAt := fun _ h => List.mem_cons_of_mem _ (List.mem_append_left _ (List.mem_append_left _ (List.mem_append_left _ (List.mem_append_left _ (List.mem_append_right _ (h))))))
  have iX30 : ∀ w ∈ wsX30, w ∈ wsX8_shiftAt := fun _ h => List.mem_cons_of_mem _ (List.mem_append_left _ (List.mem_append_left _ (List.mem_append_left _ (List.mem_append_right _ (h)))))
  have iX40 : ∀ w ∈ wsX40, w ∈ wsX8_shiftAt := fun _ h => List.mem_cons_of_mem _ (List.mem_append_left _ (List.mem_append_left _ (List.mem_append_right _ (h))))
  have hl : lv_has ls 5 [(0, .ref (ad 0)), (1, .int (iI y)), (2, .int (iI x))] := hl
  have hG : gW K A s.heap [gRLC K ad, gPthV K (ad 8) (ad 27) (ad 35) (ad 28) (ad 29) (ad 30) (ad 31) (ad 32) (ad 33) (ad 34) pv, gRayU K (ad 35) (ad 36) (ad 37) (ad 38) (ad 39) ps pr pX, gScn K (ad 3) (ad 14) (ad 15) (ad 16) (ad 17) ou mi bo ln LF sn SF] s.heap [] := hG
  obtain ⟨e0, e1, e2, e3, e4, e5, e6⟩ := id hS
  have n0 := hN.1
  have n3 := hN.2.2.2.1
  refine lv_aload_n S.1 S.2.1 dX8_shiftAt_0 rfl (lv_at hl 0 rfl) ?_
  refine lv_iload_n S.1 S.2.1 dX8_shiftAt_1 rfl (lv_at hl 1 rfl) ?_
  refine lv_iload_n S.1 S.2.1 dX8_shiftAt_2 rfl (lv_at hl 2 rfl) ?_
  refine g_xV (E := "java/lang/IllegalArgumentException") (As := [.int (iI y), .int (iI x)]) (rest := []) (gs' := (fun u : Unit => [gRLC K ad, gPthV K (ad 8) (ad 27) (ad 35) (ad 28) (ad 29) (ad 30) (ad 31) (ad 32) (ad 33) (ad 34) pv, gRayU K (ad 35) (ad 36) (ad 37) (ad 38) (ad 39) ps pr pX, gScn K (ad 3) (ad 14) (ad 15) (ad 16) (ad 17) ou mi bo ln LF sn SF])) S C hG [0, 3] (x2_checkShotAndTime l K ad ou mi bo ln LF sn SF N y x hS hN hv hx hs (by omega) hst) rfl rfl 0 rfl rfl (cwV 2 S.2.2.2.2 gX8_shiftAt_X8_checkShotAndTime rfl rfl rfl (by decide +kernel) ⟨Nat.le_of_ble_eq_true rfl, Nat.le_of_ble_eq_true rfl⟩) rfl hl.1 rfl (Nat.le_of_ble_eq_true rfl) dX8_shiftAt_3 ⟨Nat.le_of_ble_eq_true rfl, Nat.le_of_ble_eq_true rfl⟩ (fun _ => Nat.le_of_ble_eq_true rfl) (fun _ => rfl) (fun u q9 ce9 H locs hp hG hq9 hv9 hcl9 => ?_)
  have hG : gW K A s.heap [gRLC K ad, gPthV K (ad 8) (ad 27) (ad 35) (ad 28) (ad 29) (ad 30) (ad 31) (ad 32) (ad 33) (ad 34) pv, gRayU K (ad 35) (ad 36) (ad 37) (ad 38) (ad 39) ps pr pX, gScn K (ad 3) (ad 14) (ad 15) (ad 16) (ad 17) ou mi bo ln LF sn SF] _ _ := hG
  exact g_xout hQ hex hlk hq9 hv9 hcl9 (Nat.le_of_ble_eq_true rfl) (Nat.le_of_ble_eq_true rfl) (() : Unit) trivial hG

set_option maxHeartbeats 1000000 in
set_option maxRecDepth 100000 in
theorem x1_depthAt (l : Launch) (K : KC) (ad : Nat → Nat) (ou : Int) (mi : Int) (bo : Int) (ln : Int) (LF : Int → Int) (sn : Int) (SF : Int → Int) (N : Int → Int) (pv : PV) (ps : Nat) (pr : RU) (pX : Int → Int) (y : Int) (x : Int) (hS : ScOk N ou mi bo ln LF sn SF) (hN : NOk0 N) (hv : -2147483648 ≤ y ∧ y < 2147483648) (hx : -2147483648 ≤ x ∧ x < 2147483648) (h0 : ¬ (0 ≤ y ∧ y < N 4)) (hst : l.stackTraces = false) : mX l yX8_depthAt wsX8_depthAt 8 125 K [.ref (ad 0), .int (iI y), .int (iI x)] [gRLC K ad, gPthV K (ad 8) (ad 27) (ad 35) (ad 28) (ad 29) (ad 30) (ad 31) (ad 32) (ad 33) (ad 34) pv, gRayU K (ad 35) (ad 36) (ad 37) (ad 38) (ad 39) ps pr pX, gScn K (ad 3) (ad 14) (ad 15) (ad 16) (ad 17) ou mi bo ln LF sn SF] "java/lang/IndexOutOfBoundsException" (fun (u : Unit) => True) (fun (u : Unit) => [gRLC K ad, gPthV K (ad 8) (ad 27) (ad 35) (ad 28) (ad 29) (ad 30) (ad 31) (ad 32) (ad 33) (ad 34) pv, gRayU K (ad 35) (ad 36) (ad 37) (ad 38) (ad 39) ps pr pX, gScn K (ad 3) (ad 14) (ad 15) (ad 16) (ad 17) ou mi bo ln LF sn SF]) 1 6 := by
  refine mX_of cX8_depthAt 7 (by decide) rfl (Nat.le_of_ble_eq_true rfl) ?_
  intro p e s m below meth c A ls Q S C hG hl hex hlk hin hQ
  have S : CallFix p m c cX8_depthAt 7 s ([.ref (ad 0), .int (iI y), .int (iI x)] : List Value).toArray wsX8_depthAt RX8 := S
  have iX80 : ∀ w ∈ wsX80, w ∈ wsX8_depthAt := fun _ h => List.mem_cons_of_mem _ (List.mem_append_left _ (List.mem_append_left _ (List.mem_append_left _ (List.mem_append_left _ (List.mem_append_left _ (List.mem_append_left _ (List.mem_append_right _ (h))))))))
  have iX30 : ∀ w ∈ wsX30, w ∈ wsX8_depthAt := fun _ h => List.mem_cons_of_mem _ (List.mem_append_left _ (List.mem_append_left _ (List.mem_append_left _ (List.mem_append_left _ (List.mem_append_left _ (List.mem_append_right _ (h)))))))
  have iX50 : ∀ w ∈ wsX50, w ∈ wsX8_depthAt := fun _ h => List.mem_cons_of_mem _ (List.mem_append_left _ (List.mem_append_left _ (List.mem_append_left _ (List.mem_append_left _ (List.mem_append_right _ (h))))))
  have iX70 : ∀ w ∈ wsX70, w ∈ wsX8_depthAt := fun _ h => List.mem_cons_of_mem _ (List.mem_append_left _ (List.mem_append_left _ (List.mem_append_left _ (List.mem_append_right _ (h)))))
  have iX40 : ∀ w ∈ wsX40, w ∈ wsX8_depthAt := fun _ h => List.mem_cons_of_mem _ (List.mem_append_left _ (List.mem_append_left _ (List.mem_append_right _ (h))))
  have hl : lv_has ls 7 [(0, .ref (ad 0)), (1, .int (iI y)), (2, .int (iI x))] := hl
  have hG : gW K A s.heap [gRLC K ad, gPthV K (ad 8) (ad 27) (ad 35) (ad 28) (ad 29) (ad 30) (ad 31) (ad 32) (ad 33) (ad 34) pv, gRayU K (ad 35) (ad 36) (ad 37) (ad 38) (ad 39) ps pr pX, gScn K (ad 3) (ad 14) (ad 15) (ad 16) (ad 17) ou mi bo ln LF sn SF] s.heap [] := hG
  obtain ⟨e0, e1, e2, e3, e4, e5, e6⟩ := id hS
  have n0 := hN.1
  have n3 := hN.2.2.2.1
  refine lv_aload_n S.1 S.2.1 dX8_depthAt_0 rfl (lv_at hl 0 rfl) ?_
  refine lv_iload_n S.1 S.2.1 dX8_depthAt_1 rfl (lv_at hl 1 rfl) ?_
  refine lv_iload_n S.1 S.2.1 dX8_depthAt_2 rfl (lv_at hl 2 rfl) ?_
  refine g_xV (E := "java/lang/IndexOutOfBoundsException") (As := [.int (iI y), .int (iI x)]) (rest := []) (gs' := (fun u : Unit => [gRLC K ad, gPthV K (ad 8) (ad 27) (ad 35) (ad 28) (ad 29) (ad 30) (ad 31) (ad 32) (ad 33) (ad 34) pv, gRayU K (ad 35) (ad 36) (ad 37) (ad 38) (ad 39) ps pr pX, gScn K (ad 3) (ad 14) (ad 15) (ad 16) (ad 17) ou mi bo ln LF sn SF])) S C hG [0, 3] (x1_checkShotAndTime l K ad ou mi bo ln LF sn SF N y x hS hN hv hx h0 hst) rfl rfl 0 rfl rfl (cwV 2 S.2.2.2.2 gX8_depthAt_X8_checkShotAndTime rfl rfl rfl (by decide +kernel) ⟨Nat.le_of_ble_eq_true rfl, Nat.le_of_ble_eq_true rfl⟩) rfl hl.1 rfl (Nat.le_of_ble_eq_true rfl) dX8_depthAt_3 ⟨Nat.le_of_ble_eq_true rfl, Nat.le_of_ble_eq_true rfl⟩ (fun _ => Nat.le_of_ble_eq_true rfl) (fun _ => rfl) (fun u q9 ce9 H locs hp hG hq9 hv9 hcl9 => ?_)
  have hG : gW K A s.heap [gRLC K ad, gPthV K (ad 8) (ad 27) (ad 35) (ad 28) (ad 29) (ad 30) (ad 31) (ad 32) (ad 33) (ad 34) pv, gRayU K (ad 35) (ad 36) (ad 37) (ad 38) (ad 39) ps pr pX, gScn K (ad 3) (ad 14) (ad 15) (ad 16) (ad 17) ou mi bo ln LF sn SF] _ _ := hG
  exact g_xout hQ hex hlk hq9 hv9 hcl9 (Nat.le_of_ble_eq_true rfl) (Nat.le_of_ble_eq_true rfl) (() : Unit) trivial hG

set_option maxHeartbeats 1000000 in
set_option maxRecDepth 100000 in
theorem x2_depthAt (l : Launch) (K : KC) (ad : Nat → Nat) (ou : Int) (mi : Int) (bo : Int) (ln : Int) (LF : Int → Int) (sn : Int) (SF : Int → Int) (N : Int → Int) (pv : PV) (ps : Nat) (pr : RU) (pX : Int → Int) (y : Int) (x : Int) (hS : ScOk N ou mi bo ln LF sn SF) (hN : NOk0 N) (hv : -2147483648 ≤ y ∧ y < 2147483648) (hx : -2147483648 ≤ x ∧ x < 2147483648) (hs : 0 ≤ y ∧ y < N 4) (h1 : ¬ 0 ≤ x) (hst : l.stackTraces = false) : mX l yX8_depthAt wsX8_depthAt 8 124 K [.ref (ad 0), .int (iI y), .int (iI x)] [gRLC K ad, gPthV K (ad 8) (ad 27) (ad 35) (ad 28) (ad 29) (ad 30) (ad 31) (ad 32) (ad 33) (ad 34) pv, gRayU K (ad 35) (ad 36) (ad 37) (ad 38) (ad 39) ps pr pX, gScn K (ad 3) (ad 14) (ad 15) (ad 16) (ad 17) ou mi bo ln LF sn SF] "java/lang/IllegalArgumentException" (fun (u : Unit) => True) (fun (u : Unit) => [gRLC K ad, gPthV K (ad 8) (ad 27) (ad 35) (ad 28) (ad 29) (ad 30) (ad 31) (ad 32) (ad 33) (ad 34) pv, gRayU K (ad 35) (ad 36) (ad 37) (ad 38) (ad 39) ps pr pX, gScn K (ad 3) (ad 14) (ad 15) (ad 16) (ad 17) ou mi bo ln LF sn SF]) 1 6 := by
  refine mX_of cX8_depthAt 7 (by decide) rfl (Nat.le_of_ble_eq_true rfl) ?_
  intro p e s m below meth c A ls Q S C hG hl hex hlk hin hQ
  have S : CallFix p m c cX8_depthAt 7 s ([.ref (ad 0), .int (iI y), .int (iI x)] : List Value).toArray wsX8_depthAt RX8 := S
  have iX80 : ∀ w ∈ wsX80, w ∈ wsX8_depthAt := fun _ h => List.mem_cons_of_mem _ (List.mem_append_left _ (List.mem_append_left _ (List.mem_append_left _ (List.mem_append_left _ (List.mem_append_left _ (List.mem_append_left _ (List.mem_append_right _ (h))))))))
  have iX30 : ∀ w ∈ wsX30, w ∈ wsX8_depthAt := fun _ h => List.mem_cons_of_mem _ (List.mem_append_left _ (List.mem_append_left _ (List.mem_append_left _ (List.mem_append_left _ (List.mem_append_left _ (List.mem_append_right _ (h)))))))
  have iX50 : ∀ w ∈ wsX50, w ∈ wsX8_depthAt := fun _ h => List.mem_cons_of_mem _ (List.mem_append_left _ (List.mem_append_left _ (List.mem_append_left _ (List.mem_append_left _ (List.mem_append_right _ (h))))))
  have iX70 : ∀ w ∈ wsX70, w ∈ wsX8_depthAt := fun _ h => List.mem_cons_of_mem _ (List.mem_append_left _ (List.mem_append_left _ (List.mem_append_left _ (List.mem_append_right _ (h)))))
  have iX40 : ∀ w ∈ wsX40, w ∈ wsX8_depthAt := fun _ h => List.mem_cons_of_mem _ (List.mem_append_left _ (List.mem_append_left _ (List.mem_append_right _ (h))))
  have hl : lv_has ls 7 [(0, .ref (ad 0)), (1, .int (iI y)), (2, .int (iI x))] := hl
  have hG : gW K A s.heap [gRLC K ad, gPthV K (ad 8) (ad 27) (ad 35) (ad 28) (ad 29) (ad 30) (ad 31) (ad 32) (ad 33) (ad 34) pv, gRayU K (ad 35) (ad 36) (ad 37) (ad 38) (ad 39) ps pr pX, gScn K (ad 3) (ad 14) (ad 15) (ad 16) (ad 17) ou mi bo ln LF sn SF] s.heap [] := hG
  obtain ⟨e0, e1, e2, e3, e4, e5, e6⟩ := id hS
  have n0 := hN.1
  have n3 := hN.2.2.2.1
  refine lv_aload_n S.1 S.2.1 dX8_depthAt_0 rfl (lv_at hl 0 rfl) ?_
  refine lv_iload_n S.1 S.2.1 dX8_depthAt_1 rfl (lv_at hl 1 rfl) ?_
  refine lv_iload_n S.1 S.2.1 dX8_depthAt_2 rfl (lv_at hl 2 rfl) ?_
  refine g_xV (E := "java/lang/IllegalArgumentException") (As := [.int (iI y), .int (iI x)]) (rest := []) (gs' := (fun u : Unit => [gRLC K ad, gPthV K (ad 8) (ad 27) (ad 35) (ad 28) (ad 29) (ad 30) (ad 31) (ad 32) (ad 33) (ad 34) pv, gRayU K (ad 35) (ad 36) (ad 37) (ad 38) (ad 39) ps pr pX, gScn K (ad 3) (ad 14) (ad 15) (ad 16) (ad 17) ou mi bo ln LF sn SF])) S C hG [0, 3] (x2_checkShotAndTime l K ad ou mi bo ln LF sn SF N y x hS hN hv hx hs (by omega) hst) rfl rfl 0 rfl rfl (cwV 2 S.2.2.2.2 gX8_depthAt_X8_checkShotAndTime rfl rfl rfl (by decide +kernel) ⟨Nat.le_of_ble_eq_true rfl, Nat.le_of_ble_eq_true rfl⟩) rfl hl.1 rfl (Nat.le_of_ble_eq_true rfl) dX8_depthAt_3 ⟨Nat.le_of_ble_eq_true rfl, Nat.le_of_ble_eq_true rfl⟩ (fun _ => Nat.le_of_ble_eq_true rfl) (fun _ => rfl) (fun u q9 ce9 H locs hp hG hq9 hv9 hcl9 => ?_)
  have hG : gW K A s.heap [gRLC K ad, gPthV K (ad 8) (ad 27) (ad 35) (ad 28) (ad 29) (ad 30) (ad 31) (ad 32) (ad 33) (ad 34) pv, gRayU K (ad 35) (ad 36) (ad 37) (ad 38) (ad 39) ps pr pX, gScn K (ad 3) (ad 14) (ad 15) (ad 16) (ad 17) ou mi bo ln LF sn SF] _ _ := hG
  exact g_xout hQ hex hlk hq9 hv9 hcl9 (Nat.le_of_ble_eq_true rfl) (Nat.le_of_ble_eq_true rfl) (() : Unit) trivial hG
