set_option maxHeartbeats 1000000 in
set_option maxRecDepth 100000 in
theorem c_X8_count (l : Launch) (K : KC) (ad : Nat → Nat) (ou : Int) (mi : Int) (bo : Int) (ln : Int) (LF : Int → Int) (sn : Int) (SF : Int → Int) (N : Int → Int) (rs : Nat) (rv : RU) (XF : Int → Int) (x : Int) (hS : ScOk N ou mi bo ln LF sn SF) (hN : NOk0 N) (hx : -2147483648 ≤ x ∧ x < 2147483648) (h1 : 0 ≤ x ∧ x ≤ 4) : mG l yX8_count wsX8_count 5 117 K [.ref (ad 0), .int (iI x)] [gRLC K ad, gScn K (ad 3) (ad 14) (ad 15) (ad 16) (ad 17) ou mi bo ln LF sn SF, gRayU K (ad 7) (ad 23) (ad 24) (ad 25) (ad 26) rs rv XF] (fun (v : Value) (u : Nat × RU × (Int → Int)) => (v = .int (iI (cntB (fun i : Nat => decide (eS N (i : Int) = x)) (N 4).toNat)))) (fun (u : Nat × RU × (Int → Int)) => [gRLC K ad, gScn K (ad 3) (ad 14) (ad 15) (ad 16) (ad 17) ou mi bo ln LF sn SF, gRayU K (ad 7) (ad 23) (ad 24) (ad 25) (ad 26) u.1 u.2.1 u.2.2]) 0 0 := by
  refine mG_of cX8_count 4 (by decide) rfl (Nat.le_of_ble_eq_true rfl) ?_
  intro p e s m below meth c A ls Q S C hG hl hr hlk hin hQ
  have S : CallFix p m c cX8_count 4 s ([.ref (ad 0), .int (iI x)] : List Value).toArray wsX8_count RX8 := S
  have iX80 : ∀ w ∈ wsX80, w ∈ wsX8_count := fun _ h => List.mem_cons_of_mem _ (List.mem_append_left _ (List.mem_append_left _ (List.mem_append_left _ (List.mem_append_left _ (List.mem_append_right _ (h))))))
  have iX50 : ∀ w ∈ wsX50, w ∈ wsX8_count := fun _ h => List.mem_cons_of_mem _ (List.mem_append_left _ (List.mem_append_left _ (List.mem_append_left _ (List.mem_append_right _ (h)))))
  have iX70 : ∀ w ∈ wsX70, w ∈ wsX8_count := fun _ h => List.mem_cons_of_mem _ (List.mem_append_left _ (List.mem_append_left _ (List.mem_append_right _ (h))))
  have iX40 : ∀ w ∈ wsX40, w ∈ wsX8_count := fun _ h => List.mem_cons_of_mem _ (List.mem_append_left _ (List.mem_append_right _ (h)))
  have hl : lv_has ls 4 [(0, .ref (ad 0)), (1, .int (iI x))] := hl
  have hG : gW K A s.heap [gRLC K ad, gScn K (ad 3) (ad 14) (ad 15) (ad 16) (ad 17) ou mi bo ln LF sn SF, gRayU K (ad 7) (ad 23) (ad 24) (ad 25) (ad 26) rs rv XF] s.heap [] := hG
  obtain ⟨e0, e1, e2, e3, e4, e5, e6⟩ := id hS
  have n0 := hN.1
  have n3 := hN.2.2.2.1
  refine lv_iload_n S.1 S.2.1 dX8_count_0 rfl (lv_at hl 1 rfl) ?_
  refine g_iconst S dX8_count_1 ?_
  refine g_iconst S dX8_count_2 ?_
  refine g_invSv (As := [.int (iI x), .int (iI 0), .int (iI 4)]) (rest := []) (gs' := (fun u : Unit => [gRLC K ad, gScn K (ad 3) (ad 14) (ad 15) (ad 16) (ad 17) ou mi bo ln LF sn SF, gRayU K (ad 7) (ad 23) (ad 24) (ad 25) (ad 26) rs rv XF])) S C hG [] (c_X8_checkRange l K x 0 4 hx (by omega) (by omega) h1) rfl rfl (va_cwS 3 S.2.2.2.2 gX8_count_X8_checkRange rfl rfl rfl (by decide +kernel) ⟨Nat.le_of_ble_eq_true rfl, Nat.le_of_ble_eq_true rfl⟩) rfl hl.1 rfl (Nat.le_of_ble_eq_true rfl) dX8_count_3 ⟨Nat.le_of_ble_eq_true rfl, Nat.le_of_ble_eq_true rfl⟩ (fun _ => Nat.le_of_ble_eq_true rfl) (fun _ => rfl) (fun u H locs hp hG => ?_)
  refine g_iconst S dX8_count_6 ?_
  refine lv_istore_n (lv' := [(2, .int (iI 0)), (0, .ref (ad 0)), (1, .int (iI x))]) S.1 S.2.1 dX8_count_7 rfl hl (by decide) rfl (fun ls hl => ?_)
  refine g_iconst S dX8_count_8 ?_
  refine lv_istore_n (lv' := [(3, .int (iI 0)), (2, .int (iI 0)), (0, .ref (ad 0)), (1, .int (iI x))]) S.1 S.2.1 dX8_count_9 rfl hl (by decide) rfl (fun ls hl => ?_)
  have L10 : ∀ (fu : Nat) (k : Nat) (w : Int) (f : Int) (rs1 : Nat) (rv1 : RU) (X1 : Int → Int) (H : Heap) (locs : List Loc) (ls : Array Slot), ((N 4 - w).toNat) < fu → (w = (k : Int) ∧ w ≤ N 4) → (f = cntB (fun i : Nat => decide (eS N (i : Int) = x)) k) → (0 ≤ f ∧ f ≤ w) → lv_has ls 4 [(0, .ref (ad 0)), (1, .int (iI x)), (2, .int (iI f)), (3, .int (iI w))] → gW K A s.heap [gRLC K ad, gScn K (ad 3) (ad 14) (ad 15) (ad 16) (ad 17) ou mi bo ln LF sn SF, gRayU K (ad 7) (ad 23) (ad 24) (ad 25) (ad 26) rs1 rv1 X1] H locs → W p l e { frames := 5, cells := 0, slots := 0, locals := 117 } s m ([.ref (ad 0), .int (iI x)] : List Value).toArray below meth c H locs 0 0 Q (F0 m 10 ls []) := by
    intro fu
    induction fu with
    | zero => intro k w f rs1 rv1 X1 H locs ls hfu; exact absurd hfu (Nat.not_lt_zero _)
    | succ fu ih =>
      intro k w f rs1 rv1 X1 H locs ls hfu hw hb hf hl hG
      refine lv_iload_n S.1 S.2.1 dX8_count_10 rfl (lv_at hl 3 rfl) ?_
      refine lv_aload_n S.1 S.2.1 dX8_count_11 rfl (lv_at hl 0 rfl) ?_
      refine g_get S C hG iX80 0 rfl rfl 2 (by decide) (List.mem_of_getElem? (i := 1) rfl) rfl dX8_count_12 ?_
      refine g_get S C hG iX50 1 rfl rfl 1 (by decide) (List.mem_of_getElem? (i := 2) rfl) rfl dX8_count_15 ?_
      refine g_get S C hG iX70 4 rfl rfl 1 (by decide) (List.mem_of_getElem? (i := 3) rfl) rfl dX8_count_18 ?_
      refine g_icmp_ge (tgt := 49) S dX8_count_21 (by decide) (by omega) (by omega) (fun q21 => ?_) (fun q21 => ?_)
      · skip
        refine lv_iload_n S.1 S.2.1 dX8_count_49 rfl (lv_at hl 2 rfl) ?_
        have hG : gW K A s.heap [gRLC K ad, gScn K (ad 3) (ad 14) (ad 15) (ad 16) (ad 17) ou mi bo ln LF sn SF, gRayU K (ad 7) (ad 23) (ad 24) (ad 25) (ad 26) rs1 rv1 X1] _ _ := hG
        exact g_iret S hr hlk hQ dX8_count_50 (Nat.le_of_ble_eq_true rfl) (Nat.le_of_ble_eq_true rfl) ((rs1, rv1, X1) : Nat × RU × (Int → Int)) (congrArg (fun z : Int => Value.int (iI z)) (by rw [hb, show (N 4).toNat = k by omega])) hG
      · skip
        refine lv_aload_n S.1 S.2.1 dX8_count_24 rfl (lv_at hl 0 rfl) ?_
        refine lv_aload_n S.1 S.2.1 dX8_count_25 rfl (lv_at hl 0 rfl) ?_
        refine g_get S C hG iX80 0 rfl rfl 2 (by decide) (List.mem_of_getElem? (i := 1) rfl) rfl dX8_count_26 ?_
        refine lv_iload_n S.1 S.2.1 dX8_count_29 rfl (lv_at hl 3 rfl) ?_
        refine g_invV (As := [.ref (ad 3), .int (iI w)]) (rest := []) (gs' := (fun u : RU × (Int → Int) => [gRLC K ad, gScn K (ad 3) (ad 14) (ad 15) (ad 16) (ad 17) ou mi bo ln LF sn SF, gRayU K (ad 7) (ad 23) (ad 24) (ad 25) (ad 26) (ad 3) u.1 u.2])) S C hG [0, 1, 2] (c_X8_runOf l K ad (ad 3) (ad 14) (ad 15) (ad 16) (ad 17) ou mi bo ln LF sn SF N rs1 rv1 X1 w hS hN ⟨by omega, by omega⟩) rfl rfl 0 rfl rfl (cwV 2 S.2.2.2.2 gX8_count_X8_runOf rfl rfl rfl (by decide +kernel) ⟨Nat.le_of_ble_eq_true rfl, Nat.le_of_ble_eq_true rfl⟩) rfl hl.1 rfl (Nat.le_of_ble_eq_true rfl) dX8_count_30 ⟨Nat.le_of_ble_eq_true rfl, Nat.le_of_ble_eq_true rfl⟩ (fun _ => Nat.le_of_ble_eq_true rfl) (fun _ => rfl) (fun v u H locs hp hG => ?_)
        obtain ⟨rv2_30, X2_30⟩ := u
        obtain ⟨rfl, hr_30⟩ := hp
        have hr_30 : ResU N (sP N w) (sY N w) (sD N w) rv2_30 := hr_30
        have hG : gW K A s.heap [gRLC K ad, gScn K (ad 3) (ad 14) (ad 15) (ad 16) (ad 17) ou mi bo ln LF sn SF, gRayU K (ad 7) (ad 23) (ad 24) (ad 25) (ad 26) (ad 3) rv2_30 X2_30] _ _ := hG
        refine g_get S C hG iX40 6 rfl rfl 9 (by decide) (List.mem_of_getElem? (i := 4) rfl) rfl dX8_count_33 ?_
        refine g_top (w := .int (iI (eS N (k : Int)))) (congrArg (fun z : Int => Value.int (iI z)) ((by rw [← hw.1] <;> exact hr_30.f.2.1))) ?_
        refine lv_iload_n S.1 S.2.1 dX8_count_36 rfl (lv_at hl 1 rfl) ?_
        have eb := enF_bd N (sP N (k : Int)) (sY N (k : Int)) (sD N (k : Int))
        have eb2 : 0 ≤ eS N (k : Int) ∧ eS N (k : Int) ≤ 4 := eb
        refine g_icmp_ne (tgt := 43) S dX8_count_37 (by decide) (by omega) (by omega) (fun q37 => ?_) (fun q37 => ?_)
        · skip
          refine lv_iinc (v := iI (w + 1)) (lv' := [(3, .int (iI (w + 1))), (0, .ref (ad 0)), (1, .int (iI x)), (2, .int (iI f))]) S.1 S.2.1 dX8_count_43 hl (k := 3) rfl (g_iinc rfl) (by decide) rfl (fun ls hl => ?_)
          refine lv_goto (tgt := 10) S.1 S.2.1 dX8_count_46 (by decide) ?_
          exact ih (k + 1) (w + 1) f (ad 3) rv2_30 X2_30 _ _ _ (by omega) ⟨by omega, by omega⟩ (by simp only [cntB] <;> rw [← hb, if_neg (by simpa using q37)] <;> omega) (by omega) (lv_sub hl [1, 2, 3, 0] rfl) hG
        · skip
          refine lv_iinc (v := iI (f + 1)) (lv' := [(2, .int (iI (f + 1))), (0, .ref (ad 0)), (1, .int (iI x)), (3, .int (iI w))]) S.1 S.2.1 dX8_count_40 hl (k := 2) rfl (g_iinc rfl) (by decide) rfl (fun ls hl => ?_)
          refine lv_iinc (v := iI (w + 1)) (lv' := [(3, .int (iI (w + 1))), (2, .int (iI (f + 1))), (0, .ref (ad 0)), (1, .int (iI x))]) S.1 S.2.1 dX8_count_43 hl (k := 3) rfl (g_iinc rfl) (by decide) rfl (fun ls hl => ?_)
          refine lv_goto (tgt := 10) S.1 S.2.1 dX8_count_46 (by decide) ?_
          exact ih (k + 1) (w + 1) (f + 1) (ad 3) rv2_30 X2_30 _ _ _ (by omega) ⟨by omega, by omega⟩ (by simp only [cntB] <;> rw [← hb, if_pos (by simpa using q37)]) (by omega) (lv_sub hl [2, 3, 1, 0] rfl) hG
  exact L10 (Nat.succ ((N 4 - 0).toNat)) 0 0 0 rs rv XF _ _ _ (Nat.lt_succ_self _) ⟨rfl, by omega⟩ rfl (by omega) (lv_sub hl [2, 3, 1, 0] rfl) hG
