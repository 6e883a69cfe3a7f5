set_option maxHeartbeats 20000000 in
set_option maxRecDepth 100000 in
theorem c_L_isPath_n (l : Launch) (K : KC) (ad : Nat → Nat) (ou : Int) (mi : Int) (bo : Int) (ln : Int) (LF : Int → Int) (sn : Int) (SF : Int → Int) (N : Int → Int) (rs : Nat) (rv : RU) (XF : Int → Int) (pv : PV) (ps : Nat) (pr : RU) (pX : Int → Int) (y : Int) (hS : ScOk N ou mi bo ln LF sn SF) (hN : NOk0 N) (hy : 0 ≤ y ∧ y < N 4) (hb : ¬ begS N y) : mG l yL_isPath wsL_isPath 6 143 K [.ref (ad 0), .int (iI y)] [gRLC K ad, gScn K (ad 3) (ad 14) (ad 15) (ad 16) (ad 17) ou mi bo ln LF sn SF, gRayU K (ad 7) (ad 23) (ad 24) (ad 25) (ad 26) rs rv XF, gPthV K (ad 8) (ad 27) (ad 35) (ad 28) (ad 29) (ad 30) (ad 31) (ad 32) (ad 33) (ad 34) pv, gRayU K (ad 35) (ad 36) (ad 37) (ad 38) (ad 39) ps pr pX] (fun (v : Value) (u : Nat × RU × (Int → Int) × PV × Nat × RU × (Int → Int)) => (v = .int (iI 1))) (fun (u : Nat × RU × (Int → Int) × PV × Nat × RU × (Int → Int)) => [gRLC K ad, gScn K (ad 3) (ad 14) (ad 15) (ad 16) (ad 17) ou mi bo ln LF sn SF, gRayU K (ad 7) (ad 23) (ad 24) (ad 25) (ad 26) u.1 u.2.1 u.2.2.1, gPthV K (ad 8) (ad 27) (ad 35) (ad 28) (ad 29) (ad 30) (ad 31) (ad 32) (ad 33) (ad 34) u.2.2.2.1, gRayU K (ad 35) (ad 36) (ad 37) (ad 38) (ad 39) u.2.2.2.2.1 u.2.2.2.2.2.1 u.2.2.2.2.2.2]) 2 10 := by
  refine mG_of cL_isPath 15 (by decide) rfl (Nat.le_of_ble_eq_true rfl) ?_
  intro p e s m below meth c A ls Q S C hG hl hr hlk hin hQ
  have S : CallFix p m c cL_isPath 15 s ([.ref (ad 0), .int (iI y)] : List Value).toArray wsL_isPath RL := S
  have iX80 : ∀ w ∈ wsX80, w ∈ wsL_isPath := fun _ h => List.mem_cons_of_mem _ (List.mem_append_left _ (List.mem_append_left _ (List.mem_append_left _ (List.mem_append_left _ (List.mem_append_left _ (List.mem_append_left _ (List.mem_append_right _ (h))))))))
  have iX40 : ∀ w ∈ wsX40, w ∈ wsL_isPath := fun _ h => List.mem_cons_of_mem _ (List.mem_append_left _ (List.mem_append_left _ (List.mem_append_left _ (List.mem_append_left _ (List.mem_append_left _ (List.mem_append_right _ (h)))))))
  have iX50 : ∀ w ∈ wsX50, w ∈ wsL_isPath := fun _ h => List.mem_cons_of_mem _ (List.mem_append_left _ (List.mem_append_left _ (List.mem_append_left _ (List.mem_append_left _ (List.mem_append_right _ (h))))))
  have iX70 : ∀ w ∈ wsX70, w ∈ wsL_isPath := fun _ h => List.mem_cons_of_mem _ (List.mem_append_left _ (List.mem_append_left _ (List.mem_append_left _ (List.mem_append_right _ (h)))))
  have iX30 : ∀ w ∈ wsX30, w ∈ wsL_isPath := fun _ h => List.mem_cons_of_mem _ (List.mem_append_left _ (List.mem_append_left _ (List.mem_append_right _ (h))))
  have hl : lv_has ls 15 [(0, .ref (ad 0)), (1, .int (iI y))] := hl
  have hG : gW K A s.heap [gRLC K ad, gScn K (ad 3) (ad 14) (ad 15) (ad 16) (ad 17) ou mi bo ln LF sn SF, gRayU K (ad 7) (ad 23) (ad 24) (ad 25) (ad 26) rs rv XF, gPthV K (ad 8) (ad 27) (ad 35) (ad 28) (ad 29) (ad 30) (ad 31) (ad 32) (ad 33) (ad 34) pv, gRayU K (ad 35) (ad 36) (ad 37) (ad 38) (ad 39) ps pr pX] s.heap [] := hG
  obtain ⟨e0, e1, e2, e3, e4, e5, e6⟩ := id hS
  have n0 := hN.1
  have n1 := hN.2.1
  have n2 := hN.2.2.1
  have n3 := hN.2.2.2.1
  have sh9 := sho_bd hN hy.1 hy.2
  have g60 : gS N y ≤ 60 := lgF_bd N (sP N y) (sY N y) (sD N y)
  have es9 := eS_bd N y
  have z9 := eS_no hb
  have g9 : gS N y = 0 := gS_no hb
  have hb9 : ¬ (sY N y < N 0 ∧ sP N y < nX N (sY N y)) := fun z => hb ⟨sh9.1.1, z.1, z.2⟩
  have nx9 : sY N y < N 0 → 1000 ≤ nX N (sY N y) ∧ nX N (sY N y) ≤ 4000 := fun z => (lay_bd hN sh9.1.1 z).1
  refine lv_aload_n S.1 S.2.1 dL_isPath_0 rfl (lv_at hl 0 rfl) ?_
  refine lv_iload_n S.1 S.2.1 dL_isPath_1 rfl (lv_at hl 1 rfl) ?_
  refine g_iconst S dL_isPath_2 ?_
  refine g_invV (As := [.int (iI y), .int (iI 0)]) (rest := []) (gs' := (fun u : RU × (Int → Int) => [gRLC K ad, gScn K (ad 3) (ad 14) (ad 15) (ad 16) (ad 17) ou mi bo ln LF sn SF, gRayU K (ad 7) (ad 23) (ad 24) (ad 25) (ad 26) (ad 3) u.1 u.2, gPthV K (ad 8) (ad 27) (ad 35) (ad 28) (ad 29) (ad 30) (ad 31) (ad 32) (ad 33) (ad 34) pv, gRayU K (ad 35) (ad 36) (ad 37) (ad 38) (ad 39) ps pr pX])) S C hG [0, 1, 2] (c_X8_path l K ad ou mi bo ln LF sn SF N rs rv XF y 0 hS hN (by omega) hy (by omega)) rfl rfl 0 rfl rfl (cwV 2 S.2.2.2.2 gL_isPath_X8_path rfl rfl rfl (by decide +kernel) ⟨Nat.le_of_ble_eq_true rfl, Nat.le_of_ble_eq_true rfl⟩) rfl hl.1 rfl (Nat.le_of_ble_eq_true rfl) dL_isPath_3 ⟨Nat.le_of_ble_eq_true rfl, Nat.le_of_ble_eq_true rfl⟩ (fun _ => Nat.le_of_ble_eq_true rfl) (fun _ => rfl) (fun v u H locs hp hG => ?_)
  obtain ⟨rv2_3, X2_3⟩ := u
  obtain ⟨rfl, hr_3⟩ := hp
  have hr_3 : ResU N (sP N y) (sY N y) (sD N y) rv2_3 := hr_3
  have hG : gW K A s.heap [gRLC K ad, gScn K (ad 3) (ad 14) (ad 15) (ad 16) (ad 17) ou mi bo ln LF sn SF, gRayU K (ad 7) (ad 23) (ad 24) (ad 25) (ad 26) (ad 3) rv2_3 X2_3, gPthV K (ad 8) (ad 27) (ad 35) (ad 28) (ad 29) (ad 30) (ad 31) (ad 32) (ad 33) (ad 34) pv, gRayU K (ad 35) (ad 36) (ad 37) (ad 38) (ad 39) ps pr pX] _ _ := hG
  refine g_top (w := .int (iI ((gS N y : Int)))) (congrArg (fun z : Int => Value.int (iI z)) (by first | rfl | exact if_neg (by decide))) ?_
  refine lv_istore_n (lv' := [(2, .int (iI (gS N y : Int))), (0, .ref (ad 0)), (1, .int (iI y))]) S.1 S.2.1 dL_isPath_6 rfl hl (by decide) rfl (fun ls hl => ?_)
  refine lv_aload_n S.1 S.2.1 dL_isPath_7 rfl (lv_at hl 1 rfl) ?_
  refine lv_iload_n S.1 S.2.1 dL_isPath_8 rfl (lv_at hl 2 rfl) ?_
  refine g_iconst S dL_isPath_9 ?_
  refine g_invV (As := [.int (iI y), .int (iI 1)]) (rest := []) (gs' := (fun u : RU × (Int → Int) => [gRLC K ad, gScn K (ad 3) (ad 14) (ad 15) (ad 16) (ad 17) ou mi bo ln LF sn SF, gRayU K (ad 7) (ad 23) (ad 24) (ad 25) (ad 26) (ad 3) u.1 u.2, gPthV K (ad 8) (ad 27) (ad 35) (ad 28) (ad 29) (ad 30) (ad 31) (ad 32) (ad 33) (ad 34) pv, gRayU K (ad 35) (ad 36) (ad 37) (ad 38) (ad 39) ps pr pX])) S C hG [0, 1, 2] (c_X8_path l K ad ou mi bo ln LF sn SF N (ad 3) rv2_3 X2_3 y 1 hS hN (by omega) hy (by omega)) rfl rfl 0 rfl rfl (cwV 2 S.2.2.2.2 gL_isPath_X8_path rfl rfl rfl (by decide +kernel) ⟨Nat.le_of_ble_eq_true rfl, Nat.le_of_ble_eq_true rfl⟩) rfl hl.1 rfl (Nat.le_of_ble_eq_true rfl) dL_isPath_10 ⟨Nat.le_of_ble_eq_true rfl, Nat.le_of_ble_eq_true rfl⟩ (fun _ => Nat.le_of_ble_eq_true rfl) (fun _ => rfl) (fun v u H locs hp hG => ?_)
  obtain ⟨rv2_10, X2_10⟩ := u
  obtain ⟨rfl, hr_10⟩ := hp
  have hr_10 : ResU N (sP N y) (sY N y) (sD N y) rv2_10 := hr_10
  have hG : gW K A s.heap [gRLC K ad, gScn K (ad 3) (ad 14) (ad 15) (ad 16) (ad 17) ou mi bo ln LF sn SF, gRayU K (ad 7) (ad 23) (ad 24) (ad 25) (ad 26) (ad 3) rv2_10 X2_10, gPthV K (ad 8) (ad 27) (ad 35) (ad 28) (ad 29) (ad 30) (ad 31) (ad 32) (ad 33) (ad 34) pv, gRayU K (ad 35) (ad 36) (ad 37) (ad 38) (ad 39) ps pr pX] _ _ := hG
  refine g_top (w := .int (iI (eS N y))) (congrArg (fun z : Int => Value.int (iI z)) (by first | rfl | exact if_neg (by decide))) ?_
  refine lv_istore_n (lv' := [(3, .int (iI (eS N y))), (2, .int (iI (gS N y : Int))), (0, .ref (ad 0)), (1, .int (iI y))]) S.1 S.2.1 dL_isPath_13 rfl hl (by decide) rfl (fun ls hl => ?_)
  refine lv_aload_n S.1 S.2.1 dL_isPath_14 rfl (lv_at hl 2 rfl) ?_
  refine lv_iload_n S.1 S.2.1 dL_isPath_15 rfl (lv_at hl 3 rfl) ?_
  refine g_iconst S dL_isPath_16 ?_
  refine g_invV (As := [.int (iI y), .int (iI 2)]) (rest := []) (gs' := (fun u : Unit => [gRLC K ad, gScn K (ad 3) (ad 14) (ad 15) (ad 16) (ad 17) ou mi bo ln LF sn SF, gRayU K (ad 7) (ad 23) (ad 24) (ad 25) (ad 26) (ad 3) rv2_10 X2_10, gPthV K (ad 8) (ad 27) (ad 35) (ad 28) (ad 29) (ad 30) (ad 31) (ad 32) (ad 33) (ad 34) pv, gRayU K (ad 35) (ad 36) (ad 37) (ad 38) (ad 39) ps pr pX])) S C hG [0, 1] (c_X8_shot l K ad ou mi bo ln LF sn SF N y 2 hS hN (by omega) (by omega) hy (by omega)) rfl rfl 0 rfl rfl (cwV 2 S.2.2.2.2 gL_isPath_X8_shot rfl rfl rfl (by decide +kernel) ⟨Nat.le_of_ble_eq_true rfl, Nat.le_of_ble_eq_true rfl⟩) rfl hl.1 rfl (Nat.le_of_ble_eq_true rfl) dL_isPath_17 ⟨Nat.le_of_ble_eq_true rfl, Nat.le_of_ble_eq_true rfl⟩ (fun _ => Nat.le_of_ble_eq_true rfl) (fun _ => rfl) (fun v u H locs hp hG => ?_)
  subst hp
  refine g_top (w := .int (iI (sP N y))) (congrArg (fun z : Int => Value.int (iI z)) (by first | rfl | exact if_neg (by decide))) ?_
  refine lv_istore (lv' := [(4, .int (iI (sP N y))), (3, .int (iI (eS N y))), (2, .int (iI (gS N y : Int))), (0, .ref (ad 0)), (1, .int (iI y))]) S.1 S.2.1 dL_isPath_20 hl (by decide) rfl (fun ls hl => ?_)
  refine lv_aload_n S.1 S.2.1 dL_isPath_22 rfl (lv_at hl 3 rfl) ?_
  refine lv_iload_n S.1 S.2.1 dL_isPath_23 rfl (lv_at hl 4 rfl) ?_
  refine g_iconst S dL_isPath_24 ?_
  refine g_invV (As := [.int (iI y), .int (iI 0)]) (rest := []) (gs' := (fun u : Unit => [gRLC K ad, gScn K (ad 3) (ad 14) (ad 15) (ad 16) (ad 17) ou mi bo ln LF sn SF, gRayU K (ad 7) (ad 23) (ad 24) (ad 25) (ad 26) (ad 3) rv2_10 X2_10, gPthV K (ad 8) (ad 27) (ad 35) (ad 28) (ad 29) (ad 30) (ad 31) (ad 32) (ad 33) (ad 34) pv, gRayU K (ad 35) (ad 36) (ad 37) (ad 38) (ad 39) ps pr pX])) S C hG [0, 1] (c_X8_shot l K ad ou mi bo ln LF sn SF N y 0 hS hN (by omega) (by omega) hy (by omega)) rfl rfl 0 rfl rfl (cwV 2 S.2.2.2.2 gL_isPath_X8_shot rfl rfl rfl (by decide +kernel) ⟨Nat.le_of_ble_eq_true rfl, Nat.le_of_ble_eq_true rfl⟩) rfl hl.1 rfl (Nat.le_of_ble_eq_true rfl) dL_isPath_25 ⟨Nat.le_of_ble_eq_true rfl, Nat.le_of_ble_eq_true rfl⟩ (fun _ => Nat.le_of_ble_eq_true rfl) (fun _ => rfl) (fun v u H locs hp hG => ?_)
  subst hp
  refine g_top (w := .int (iI (sY N y))) (congrArg (fun z : Int => Value.int (iI z)) (by first | rfl | exact if_neg (by decide))) ?_
  refine lv_aload_n S.1 S.2.1 dL_isPath_28 rfl (lv_at hl 3 rfl) ?_
  refine g_iconst S dL_isPath_29 ?_
  refine g_invV (As := [.int (iI 0)]) (rest := [.int (iI (sY N y))]) (gs' := (fun u : Unit => [gRLC K ad, gScn K (ad 3) (ad 14) (ad 15) (ad 16) (ad 17) ou mi bo ln LF sn SF, gRayU K (ad 7) (ad 23) (ad 24) (ad 25) (ad 26) (ad 3) rv2_10 X2_10, gPthV K (ad 8) (ad 27) (ad 35) (ad 28) (ad 29) (ad 30) (ad 31) (ad 32) (ad 33) (ad 34) pv, gRayU K (ad 35) (ad 36) (ad 37) (ad 38) (ad 39) ps pr pX])) S C hG [0, 1] (c_X8_property l K ad ou mi bo ln LF sn SF N 0 hS hN (by omega)) rfl rfl 0 rfl rfl (cwV 1 S.2.2.2.2 gL_isPath_X8_property rfl rfl rfl (by decide +kernel) ⟨Nat.le_of_ble_eq_true rfl, Nat.le_of_ble_eq_true rfl⟩) rfl hl.1 rfl (Nat.le_of_ble_eq_true rfl) dL_isPath_30 ⟨Nat.le_of_ble_eq_true rfl, Nat.le_of_ble_eq_true rfl⟩ (fun _ => Nat.le_of_ble_eq_true rfl) (fun _ => rfl) (fun v u H locs hp hG => ?_)
  subst hp
  refine g_top (w := .int (iI (N 0))) (congrArg (fun z : Int => Value.int (iI z)) (by first | rfl | exact if_neg (by decide))) ?_
  refine g_icmp_ge (tgt := 66) S dL_isPath_33 (by decide) (by omega) (by omega) (fun q33 => ?_) (fun q33 => ?_)
  · skip
    refine g_iconst S dL_isPath_66 ?_
    refine lv_istore (lv' := [(5, .int (iI 0)), (4, .int (iI (sP N y))), (3, .int (iI (eS N y))), (2, .int (iI (gS N y : Int))), (0, .ref (ad 0)), (1, .int (iI y))]) S.1 S.2.1 dL_isPath_67 hl (by decide) rfl (fun ls hl => ?_)
    refine lv_iload S.1 S.2.1 dL_isPath_69 (lv_at hl 0 rfl) ?_
    refine lv_iload_n S.1 S.2.1 dL_isPath_71 rfl (lv_at hl 3 rfl) ?_
    refine g_if_le (tgt := 79) S dL_isPath_72 (by decide) (by omega) (fun q72 => ?_) (fun q72 => ?_)
    · skip
      refine g_iconst S dL_isPath_79 ?_
      refine g_icmp_ne (tgt := 115) S dL_isPath_80 (by decide) (by omega) (by omega) (fun q80 => ?_) (fun q80 => ?_)
      · skip
        exact absurd q80 (by decide)
      · skip
        refine lv_iload S.1 S.2.1 dL_isPath_83 (lv_at hl 0 rfl) ?_
        refine lv_iload_n S.1 S.2.1 dL_isPath_85 rfl (lv_at hl 2 rfl) ?_
        refine g_iconst S dL_isPath_86 ?_
        refine g_icmp_eq (tgt := 94) S dL_isPath_87 (by decide) (by omega) (by omega) (fun q87 => ?_) (fun q87 => ?_)
        · skip
          refine g_iconst S dL_isPath_94 ?_
          refine g_icmp_ne (tgt := 115) S dL_isPath_95 (by decide) (by omega) (by omega) (fun q95 => ?_) (fun q95 => ?_)
          · skip
            exact absurd q95 (by decide)
          · skip
            refine lv_iload_n S.1 S.2.1 dL_isPath_98 rfl (lv_at hl 3 rfl) ?_
            refine g_bipush S dL_isPath_99 (by decide) ?_
            refine g_icmp_gt (tgt := 115) S dL_isPath_101 (by decide) (by omega) (by omega) (fun q101 => ?_) (fun q101 => ?_)
            · skip
              omega
            · skip
              refine lv_iload_n S.1 S.2.1 dL_isPath_104 rfl (lv_at hl 2 rfl) ?_
              refine g_iconst S dL_isPath_105 ?_
              refine g_icmp_ne (tgt := 117) S dL_isPath_106 (by decide) (by omega) (by omega) (fun q106 => ?_) (fun q106 => ?_)
              · skip
                refine lv_iload S.1 S.2.1 dL_isPath_117 (lv_at hl 0 rfl) ?_
                refine g_if_ne (tgt := 167) S dL_isPath_119 (by decide) (by omega) (fun q119 => ?_) (fun q119 => ?_)
                · skip
                  exact absurd q119 (by decide)
                · skip
                  refine lv_aload_n S.1 S.2.1 dL_isPath_122 rfl (lv_at hl 4 rfl) ?_
                  refine lv_iload_n S.1 S.2.1 dL_isPath_123 rfl (lv_at hl 5 rfl) ?_
                  refine g_iconst S dL_isPath_124 ?_
                  refine g_invV (As := [.int (iI y), .int (iI 5)]) (rest := []) (gs' := (fun u : RU × (Int → Int) => [gRLC K ad, gScn K (ad 3) (ad 14) (ad 15) (ad 16) (ad 17) ou mi bo ln LF sn SF, gRayU K (ad 7) (ad 23) (ad 24) (ad 25) (ad 26) (ad 3) u.1 u.2, gPthV K (ad 8) (ad 27) (ad 35) (ad 28) (ad 29) (ad 30) (ad 31) (ad 32) (ad 33) (ad 34) pv, gRayU K (ad 35) (ad 36) (ad 37) (ad 38) (ad 39) ps pr pX])) S C hG [0, 1, 2] (c_X8_path l K ad ou mi bo ln LF sn SF N (ad 3) rv2_10 X2_10 y 5 hS hN (by omega) hy (by omega)) rfl rfl 0 rfl rfl (cwV 2 S.2.2.2.2 gL_isPath_X8_path rfl rfl rfl (by decide +kernel) ⟨Nat.le_of_ble_eq_true rfl, Nat.le_of_ble_eq_true rfl⟩) rfl hl.1 rfl (Nat.le_of_ble_eq_true rfl) dL_isPath_125 ⟨Nat.le_of_ble_eq_true rfl, Nat.le_of_ble_eq_true rfl⟩ (fun _ => Nat.le_of_ble_eq_true rfl) (fun _ => rfl) (fun v u H locs hp hG => ?_)
                  obtain ⟨rv2_125, X2_125⟩ := u
                  obtain ⟨rfl, hr_125⟩ := hp
                  have hr_125 : ResU N (sP N y) (sY N y) (sD N y) rv2_125 := hr_125
                  have hG : gW K A s.heap [gRLC K ad, gScn K (ad 3) (ad 14) (ad 15) (ad 16) (ad 17) ou mi bo ln LF sn SF, gRayU K (ad 7) (ad 23) (ad 24) (ad 25) (ad 26) (ad 3) rv2_125 X2_125, gPthV K (ad 8) (ad 27) (ad 35) (ad 28) (ad 29) (ad 30) (ad 31) (ad 32) (ad 33) (ad 34) pv, gRayU K (ad 35) (ad 36) (ad 37) (ad 38) (ad 39) ps pr pX] _ _ := hG
                  refine g_top (w := .int (iI (pS N y))) (congrArg (fun z : Int => Value.int (iI z)) (by first | rfl | exact if_neg (by decide))) ?_
                  refine g_if_ne (tgt := 165) S dL_isPath_128 (by decide) (by omega) (fun q128 => ?_) (fun q128 => ?_)
                  · skip
                    omega
                  · skip
                    refine lv_aload_n S.1 S.2.1 dL_isPath_131 rfl (lv_at hl 4 rfl) ?_
                    refine lv_iload_n S.1 S.2.1 dL_isPath_132 rfl (lv_at hl 5 rfl) ?_
                    refine g_bipush S dL_isPath_133 (by decide) ?_
                    refine g_invV (As := [.int (iI y), .int (iI 9)]) (rest := []) (gs' := (fun u : RU × (Int → Int) => [gRLC K ad, gScn K (ad 3) (ad 14) (ad 15) (ad 16) (ad 17) ou mi bo ln LF sn SF, gRayU K (ad 7) (ad 23) (ad 24) (ad 25) (ad 26) (ad 3) u.1 u.2, gPthV K (ad 8) (ad 27) (ad 35) (ad 28) (ad 29) (ad 30) (ad 31) (ad 32) (ad 33) (ad 34) pv, gRayU K (ad 35) (ad 36) (ad 37) (ad 38) (ad 39) ps pr pX])) S C hG [0, 1, 2] (c_X8_path l K ad ou mi bo ln LF sn SF N (ad 3) rv2_125 X2_125 y 9 hS hN (by omega) hy (by omega)) rfl rfl 0 rfl rfl (cwV 2 S.2.2.2.2 gL_isPath_X8_path rfl rfl rfl (by decide +kernel) ⟨Nat.le_of_ble_eq_true rfl, Nat.le_of_ble_eq_true rfl⟩) rfl hl.1 rfl (Nat.le_of_ble_eq_true rfl) dL_isPath_135 ⟨Nat.le_of_ble_eq_true rfl, Nat.le_of_ble_eq_true rfl⟩ (fun _ => Nat.le_of_ble_eq_true rfl) (fun _ => rfl) (fun v u H locs hp hG => ?_)
                    obtain ⟨rv2_135, X2_135⟩ := u
                    obtain ⟨rfl, hr_135⟩ := hp
                    have hr_135 : ResU N (sP N y) (sY N y) (sD N y) rv2_135 := hr_135
                    have hG : gW K A s.heap [gRLC K ad, gScn K (ad 3) (ad 14) (ad 15) (ad 16) (ad 17) ou mi bo ln LF sn SF, gRayU K (ad 7) (ad 23) (ad 24) (ad 25) (ad 26) (ad 3) rv2_135 X2_135, gPthV K (ad 8) (ad 27) (ad 35) (ad 28) (ad 29) (ad 30) (ad 31) (ad 32) (ad 33) (ad 34) pv, gRayU K (ad 35) (ad 36) (ad 37) (ad 38) (ad 39) ps pr pX] _ _ := hG
                    refine g_top (w := .int (iI (deS N y))) (congrArg (fun z : Int => Value.int (iI z)) (by first | rfl | exact if_neg (by decide))) ?_
                    refine g_iconst S dL_isPath_138 ?_
                    refine g_icmp_ne (tgt := 165) S dL_isPath_139 (by decide) (by omega) (by omega) (fun q139 => ?_) (fun q139 => ?_)
                    · skip
                      omega
                    · skip
                      refine lv_aload_n S.1 S.2.1 dL_isPath_142 rfl (lv_at hl 4 rfl) ?_
                      refine lv_iload_n S.1 S.2.1 dL_isPath_143 rfl (lv_at hl 5 rfl) ?_
                      refine g_invV (As := [.int (iI y)]) (rest := []) (gs' := (fun u : RU × (Int → Int) => [gRLC K ad, gScn K (ad 3) (ad 14) (ad 15) (ad 16) (ad 17) ou mi bo ln LF sn SF, gRayU K (ad 7) (ad 23) (ad 24) (ad 25) (ad 26) (ad 3) u.1 u.2, gPthV K (ad 8) (ad 27) (ad 35) (ad 28) (ad 29) (ad 30) (ad 31) (ad 32) (ad 33) (ad 34) pv, gRayU K (ad 35) (ad 36) (ad 37) (ad 38) (ad 39) ps pr pX])) S C hG [0, 1, 2] (c_X8_share l K ad ou mi bo ln LF sn SF N (ad 3) rv2_135 X2_135 y hS hN (by omega) hy) rfl rfl 0 rfl rfl (cwV 1 S.2.2.2.2 gL_isPath_X8_share rfl rfl rfl (by decide +kernel) ⟨Nat.le_of_ble_eq_true rfl, Nat.le_of_ble_eq_true rfl⟩) rfl hl.1 rfl (Nat.le_of_ble_eq_true rfl) dL_isPath_144 ⟨Nat.le_of_ble_eq_true rfl, Nat.le_of_ble_eq_true rfl⟩ (fun _ => Nat.le_of_ble_eq_true rfl) (fun _ => rfl) (fun v u H locs hp hG => ?_)
                      obtain ⟨rv2_144, X2_144⟩ := u
                      subst hp
                      have hG : gW K A s.heap [gRLC K ad, gScn K (ad 3) (ad 14) (ad 15) (ad 16) (ad 17) ou mi bo ln LF sn SF, gRayU K (ad 7) (ad 23) (ad 24) (ad 25) (ad 26) (ad 3) rv2_144 X2_144, gPthV K (ad 8) (ad 27) (ad 35) (ad 28) (ad 29) (ad 30) (ad 31) (ad 32) (ad 33) (ad 34) pv, gRayU K (ad 35) (ad 36) (ad 37) (ad 38) (ad 39) ps pr pX] _ _ := hG
                      refine lv_fconst0 S.1 S.2.1 dL_isPath_147 ?_
                      refine lv_fcmp S.1 S.2.1 dL_isPath_148 ?_
                      refine g_top (w := .int (iI 0)) (by rw [z9.2.1]; exact fc_zero) ?_
                      refine g_if_ne (tgt := 165) S dL_isPath_149 (by decide) (by omega) (fun q149 => ?_) (fun q149 => ?_)
                      · skip
                        exact absurd q149 (by decide)
                      · skip
                        refine lv_aload_n S.1 S.2.1 dL_isPath_152 rfl (lv_at hl 4 rfl) ?_
                        refine lv_iload_n S.1 S.2.1 dL_isPath_153 rfl (lv_at hl 5 rfl) ?_
                        refine g_iconst S dL_isPath_154 ?_
                        refine g_invV (As := [.int (iI y), .int (iI 4)]) (rest := []) (gs' := (fun u : RU × (Int → Int) => [gRLC K ad, gScn K (ad 3) (ad 14) (ad 15) (ad 16) (ad 17) ou mi bo ln LF sn SF, gRayU K (ad 7) (ad 23) (ad 24) (ad 25) (ad 26) (ad 3) u.1 u.2, gPthV K (ad 8) (ad 27) (ad 35) (ad 28) (ad 29) (ad 30) (ad 31) (ad 32) (ad 33) (ad 34) pv, gRayU K (ad 35) (ad 36) (ad 37) (ad 38) (ad 39) ps pr pX])) S C hG [0, 1, 2] (c_X8_path l K ad ou mi bo ln LF sn SF N (ad 3) rv2_144 X2_144 y 4 hS hN (by omega) hy (by omega)) rfl rfl 0 rfl rfl (cwV 2 S.2.2.2.2 gL_isPath_X8_path rfl rfl rfl (by decide +kernel) ⟨Nat.le_of_ble_eq_true rfl, Nat.le_of_ble_eq_true rfl⟩) rfl hl.1 rfl (Nat.le_of_ble_eq_true rfl) dL_isPath_155 ⟨Nat.le_of_ble_eq_true rfl, Nat.le_of_ble_eq_true rfl⟩ (fun _ => Nat.le_of_ble_eq_true rfl) (fun _ => rfl) (fun v u H locs hp hG => ?_)
                        obtain ⟨rv2_155, X2_155⟩ := u
                        obtain ⟨rfl, hr_155⟩ := hp
                        have hr_155 : ResU N (sP N y) (sY N y) (sD N y) rv2_155 := hr_155
                        have hG : gW K A s.heap [gRLC K ad, gScn K (ad 3) (ad 14) (ad 15) (ad 16) (ad 17) ou mi bo ln LF sn SF, gRayU K (ad 7) (ad 23) (ad 24) (ad 25) (ad 26) (ad 3) rv2_155 X2_155, gPthV K (ad 8) (ad 27) (ad 35) (ad 28) (ad 29) (ad 30) (ad 31) (ad 32) (ad 33) (ad 34) pv, gRayU K (ad 35) (ad 36) (ad 37) (ad 38) (ad 39) ps pr pX] _ _ := hG
                        refine g_top (w := .int (iI (tS N y))) (congrArg (fun z : Int => Value.int (iI z)) (by first | rfl | exact if_neg (by decide))) ?_
                        refine g_if_ne (tgt := 165) S dL_isPath_158 (by decide) (by omega) (fun q158 => ?_) (fun q158 => ?_)
                        · skip
                          omega
                        · skip
                          refine g_iconst S dL_isPath_161 ?_
                          refine lv_goto (tgt := 166) S.1 S.2.1 dL_isPath_162 (by decide) ?_
                          have hG : gW K A s.heap [gRLC K ad, gScn K (ad 3) (ad 14) (ad 15) (ad 16) (ad 17) ou mi bo ln LF sn SF, gRayU K (ad 7) (ad 23) (ad 24) (ad 25) (ad 26) (ad 3) rv2_155 X2_155, gPthV K (ad 8) (ad 27) (ad 35) (ad 28) (ad 29) (ad 30) (ad 31) (ad 32) (ad 33) (ad 34) pv, gRayU K (ad 35) (ad 36) (ad 37) (ad 38) (ad 39) ps pr pX] _ _ := hG
                          exact g_zret S hr hlk hQ (Or.inr rfl) dL_isPath_166 (Nat.le_of_ble_eq_true rfl) (Nat.le_of_ble_eq_true rfl) (((ad 3), rv2_155, X2_155, pv, ps, pr, pX) : Nat × RU × (Int → Int) × PV × Nat × RU × (Int → Int)) rfl hG
              · skip
                omega
        · skip
          omega
    · skip
      omega
  · skip
    refine lv_iload S.1 S.2.1 dL_isPath_36 (lv_at hl 0 rfl) ?_
    refine lv_aload_n S.1 S.2.1 dL_isPath_38 rfl (lv_at hl 3 rfl) ?_
    refine lv_aload_n S.1 S.2.1 dL_isPath_39 rfl (lv_at hl 3 rfl) ?_
    refine g_iconst S dL_isPath_40 ?_
    refine g_invV (As := [.int (iI 0)]) (rest := [.ref (ad 0), .int (iI (sP N y))]) (gs' := (fun u : Unit => [gRLC K ad, gScn K (ad 3) (ad 14) (ad 15) (ad 16) (ad 17) ou mi bo ln LF sn SF, gRayU K (ad 7) (ad 23) (ad 24) (ad 25) (ad 26) (ad 3) rv2_10 X2_10, gPthV K (ad 8) (ad 27) (ad 35) (ad 28) (ad 29) (ad 30) (ad 31) (ad 32) (ad 33) (ad 34) pv, gRayU K (ad 35) (ad 36) (ad 37) (ad 38) (ad 39) ps pr pX])) S C hG [0, 1] (c_X8_property l K ad ou mi bo ln LF sn SF N 0 hS hN (by omega)) rfl rfl 0 rfl rfl (cwV 1 S.2.2.2.2 gL_isPath_X8_property rfl rfl rfl (by decide +kernel) ⟨Nat.le_of_ble_eq_true rfl, Nat.le_of_ble_eq_true rfl⟩) rfl hl.1 rfl (Nat.le_of_ble_eq_true rfl) dL_isPath_41 ⟨Nat.le_of_ble_eq_true rfl, Nat.le_of_ble_eq_true rfl⟩ (fun _ => Nat.le_of_ble_eq_true rfl) (fun _ => rfl) (fun v u H locs hp hG => ?_)
    subst hp
    refine g_top (w := .int (iI (N 0))) (congrArg (fun z : Int => Value.int (iI z)) (by first | rfl | exact if_neg (by decide))) ?_
    refine g_iconst S dL_isPath_44 ?_
    refine g_isub S dL_isPath_45 rfl ?_
    refine lv_aload_n S.1 S.2.1 dL_isPath_46 rfl (lv_at hl 3 rfl) ?_
    refine lv_iload_n S.1 S.2.1 dL_isPath_47 rfl (lv_at hl 4 rfl) ?_
    refine g_iconst S dL_isPath_48 ?_
    refine g_invV (As := [.int (iI y), .int (iI 0)]) (rest := [.int (iI ((N 0) - 1)), .ref (ad 0), .int (iI (sP N y))]) (gs' := (fun u : Unit => [gRLC K ad, gScn K (ad 3) (ad 14) (ad 15) (ad 16) (ad 17) ou mi bo ln LF sn SF, gRayU K (ad 7) (ad 23) (ad 24) (ad 25) (ad 26) (ad 3) rv2_10 X2_10, gPthV K (ad 8) (ad 27) (ad 35) (ad 28) (ad 29) (ad 30) (ad 31) (ad 32) (ad 33) (ad 34) pv, gRayU K (ad 35) (ad 36) (ad 37) (ad 38) (ad 39) ps pr pX])) S C hG [0, 1] (c_X8_shot l K ad ou mi bo ln LF sn SF N y 0 hS hN (by omega) (by omega) hy (by omega)) rfl rfl 0 rfl rfl (cwV 2 S.2.2.2.2 gL_isPath_X8_shot rfl rfl rfl (by decide +kernel) ⟨Nat.le_of_ble_eq_true rfl, Nat.le_of_ble_eq_true rfl⟩) rfl hl.1 rfl (Nat.le_of_ble_eq_true rfl) dL_isPath_49 ⟨Nat.le_of_ble_eq_true rfl, Nat.le_of_ble_eq_true rfl⟩ (fun _ => Nat.le_of_ble_eq_true rfl) (fun _ => rfl) (fun v u H locs hp hG => ?_)
    subst hp
    refine g_top (w := .int (iI (sY N y))) (congrArg (fun z : Int => Value.int (iI z)) (by first | rfl | exact if_neg (by decide))) ?_
    refine va_mmin S.1 S.2.1 (by rw [S.2.2.1]; exact hl.1.symm) S.2.2.2.1 (S.2.2.2.2 _ (List.mem_of_getElem? (i := 1) rfl)) (S.2.2.2.2 _ (List.mem_of_getElem? (i := 2) rfl)) (S.2.2.2.2 _ (List.mem_of_getElem? (i := 3) rfl)) (S.2.2.2.2 _ (List.mem_of_getElem? (i := 4) rfl)) (Nat.le_of_ble_eq_true rfl) (Nat.le_of_ble_eq_true rfl) (Nat.le_of_ble_eq_true rfl) (Nat.le_of_ble_eq_true rfl) dL_isPath_52 ?_
    refine g_top (w := .int (iI (min ((N 0) - 1) (sY N y)))) (imin_eq (by omega) (by omega)) ?_
    refine g_top (w := .int (iI (sY N y))) (congrArg (fun z : Int => Value.int (iI z)) (by omega)) ?_
    refine g_iconst S dL_isPath_55 ?_
    refine g_invV (As := [.int (iI (sY N y)), .int (iI 0)]) (rest := [.int (iI (sP N y))]) (gs' := (fun u : Unit => [gRLC K ad, gScn K (ad 3) (ad 14) (ad 15) (ad 16) (ad 17) ou mi bo ln LF sn SF, gRayU K (ad 7) (ad 23) (ad 24) (ad 25) (ad 26) (ad 3) rv2_10 X2_10, gPthV K (ad 8) (ad 27) (ad 35) (ad 28) (ad 29) (ad 30) (ad 31) (ad 32) (ad 33) (ad 34) pv, gRayU K (ad 35) (ad 36) (ad 37) (ad 38) (ad 39) ps pr pX])) S C hG [0, 1] (c_X8_layer l K ad ou mi bo ln LF sn SF N (sY N y) 0 hS hN (by omega) (by omega) (by omega) (by omega)) rfl rfl 0 rfl rfl (cwV 2 S.2.2.2.2 gL_isPath_X8_layer rfl rfl rfl (by decide +kernel) ⟨Nat.le_of_ble_eq_true rfl, Nat.le_of_ble_eq_true rfl⟩) rfl hl.1 rfl (Nat.le_of_ble_eq_true rfl) dL_isPath_56 ⟨Nat.le_of_ble_eq_true rfl, Nat.le_of_ble_eq_true rfl⟩ (fun _ => Nat.le_of_ble_eq_true rfl) (fun _ => rfl) (fun v u H locs hp hG => ?_)
    subst hp
    refine g_top (w := .int (iI (nX N (sY N y)))) (congrArg (fun z : Int => Value.int (iI z)) (by first | rfl | exact if_neg (by decide))) ?_
    refine g_icmp_ge (tgt := 66) S dL_isPath_59 (by decide) (by omega) (by omega) (fun q59 => ?_) (fun q59 => ?_)
    · skip
      refine g_iconst S dL_isPath_66 ?_
      refine lv_istore (lv' := [(5, .int (iI 0)), (4, .int (iI (sP N y))), (3, .int (iI (eS N y))), (2, .int (iI (gS N y : Int))), (0, .ref (ad 0)), (1, .int (iI y))]) S.1 S.2.1 dL_isPath_67 hl (by decide) rfl (fun ls hl => ?_)
      refine lv_iload S.1 S.2.1 dL_isPath_69 (lv_at hl 0 rfl) ?_
      refine lv_iload_n S.1 S.2.1 dL_isPath_71 rfl (lv_at hl 3 rfl) ?_
      refine g_if_le (tgt := 79) S dL_isPath_72 (by decide) (by omega) (fun q72 => ?_) (fun q72 => ?_)
      · skip
        refine g_iconst S dL_isPath_79 ?_
        refine g_icmp_ne (tgt := 115) S dL_isPath_80 (by decide) (by omega) (by omega) (fun q80 => ?_) (fun q80 => ?_)
        · skip
          exact absurd q80 (by decide)
        · skip
          refine lv_iload S.1 S.2.1 dL_isPath_83 (lv_at hl 0 rfl) ?_
          refine lv_iload_n S.1 S.2.1 dL_isPath_85 rfl (lv_at hl 2 rfl) ?_
          refine g_iconst S dL_isPath_86 ?_
          refine g_icmp_eq (tgt := 94) S dL_isPath_87 (by decide) (by omega) (by omega) (fun q87 => ?_) (fun q87 => ?_)
          · skip
            refine g_iconst S dL_isPath_94 ?_
            refine g_icmp_ne (tgt := 115) S dL_isPath_95 (by decide) (by omega) (by omega) (fun q95 => ?_) (fun q95 => ?_)
            · skip
              exact absurd q95 (by decide)
            · skip
              refine lv_iload_n S.1 S.2.1 dL_isPath_98 rfl (lv_at hl 3 rfl) ?_
              refine g_bipush S dL_isPath_99 (by decide) ?_
              refine g_icmp_gt (tgt := 115) S dL_isPath_101 (by decide) (by omega) (by omega) (fun q101 => ?_) (fun q101 => ?_)
              · skip
                omega
              · skip
                refine lv_iload_n S.1 S.2.1 dL_isPath_104 rfl (lv_at hl 2 rfl) ?_
                refine g_iconst S dL_isPath_105 ?_
                refine g_icmp_ne (tgt := 117) S dL_isPath_106 (by decide) (by omega) (by omega) (fun q106 => ?_) (fun q106 => ?_)
                · skip
                  refine lv_iload S.1 S.2.1 dL_isPath_117 (lv_at hl 0 rfl) ?_
                  refine g_if_ne (tgt := 167) S dL_isPath_119 (by decide) (by omega) (fun q119 => ?_) (fun q119 => ?_)
                  · skip
                    exact absurd q119 (by decide)
                  · skip
                    refine lv_aload_n S.1 S.2.1 dL_isPath_122 rfl (lv_at hl 4 rfl) ?_
                    refine lv_iload_n S.1 S.2.1 dL_isPath_123 rfl (lv_at hl 5 rfl) ?_
                    refine g_iconst S dL_isPath_124 ?_
                    refine g_invV (As := [.int (iI y), .int (iI 5)]) (rest := []) (gs' := (fun u : RU × (Int → Int) => [gRLC K ad, gScn K (ad 3) (ad 14) (ad 15) (ad 16) (ad 17) ou mi bo ln LF sn SF, gRayU K (ad 7) (ad 23) (ad 24) (ad 25) (ad 26) (ad 3) u.1 u.2, gPthV K (ad 8) (ad 27) (ad 35) (ad 28) (ad 29) (ad 30) (ad 31) (ad 32) (ad 33) (ad 34) pv, gRayU K (ad 35) (ad 36) (ad 37) (ad 38) (ad 39) ps pr pX])) S C hG [0, 1, 2] (c_X8_path l K ad ou mi bo ln LF sn SF N (ad 3) rv2_10 X2_10 y 5 hS hN (by omega) hy (by omega)) rfl rfl 0 rfl rfl (cwV 2 S.2.2.2.2 gL_isPath_X8_path rfl rfl rfl (by decide +kernel) ⟨Nat.le_of_ble_eq_true rfl, Nat.le_of_ble_eq_true rfl⟩) rfl hl.1 rfl (Nat.le_of_ble_eq_true rfl) dL_isPath_125 ⟨Nat.le_of_ble_eq_true rfl, Nat.le_of_ble_eq_true rfl⟩ (fun _ => Nat.le_of_ble_eq_true rfl) (fun _ => rfl) (fun v u H locs hp hG => ?_)
                    obtain ⟨rv2_125, X2_125⟩ := u
                    obtain ⟨rfl, hr_125⟩ := hp
                    have hr_125 : ResU N (sP N y) (sY N y) (sD N y) rv2_125 := hr_125
                    have hG : gW K A s.heap [gRLC K ad, gScn K (ad 3) (ad 14) (ad 15) (ad 16) (ad 17) ou mi bo ln LF sn SF, gRayU K (ad 7) (ad 23) (ad 24) (ad 25) (ad 26) (ad 3) rv2_125 X2_125, gPthV K (ad 8) (ad 27) (ad 35) (ad 28) (ad 29) (ad 30) (ad 31) (ad 32) (ad 33) (ad 34) pv, gRayU K (ad 35) (ad 36) (ad 37) (ad 38) (ad 39) ps pr pX] _ _ := hG
                    refine g_top (w := .int (iI (pS N y))) (congrArg (fun z : Int => Value.int (iI z)) (by first | rfl | exact if_neg (by decide))) ?_
                    refine g_if_ne (tgt := 165) S dL_isPath_128 (by decide) (by omega) (fun q128 => ?_) (fun q128 => ?_)
                    · skip
                      omega
                    · skip
                      refine lv_aload_n S.1 S.2.1 dL_isPath_131 rfl (lv_at hl 4 rfl) ?_
                      refine lv_iload_n S.1 S.2.1 dL_isPath_132 rfl (lv_at hl 5 rfl) ?_
                      refine g_bipush S dL_isPath_133 (by decide) ?_
                      refine g_invV (As := [.int (iI y), .int (iI 9)]) (rest := []) (gs' := (fun u : RU × (Int → Int) => [gRLC K ad, gScn K (ad 3) (ad 14) (ad 15) (ad 16) (ad 17) ou mi bo ln LF sn SF, gRayU K (ad 7) (ad 23) (ad 24) (ad 25) (ad 26) (ad 3) u.1 u.2, gPthV K (ad 8) (ad 27) (ad 35) (ad 28) (ad 29) (ad 30) (ad 31) (ad 32) (ad 33) (ad 34) pv, gRayU K (ad 35) (ad 36) (ad 37) (ad 38) (ad 39) ps pr pX])) S C hG [0, 1, 2] (c_X8_path l K ad ou mi bo ln LF sn SF N (ad 3) rv2_125 X2_125 y 9 hS hN (by omega) hy (by omega)) rfl rfl 0 rfl rfl (cwV 2 S.2.2.2.2 gL_isPath_X8_path rfl rfl rfl (by decide +kernel) ⟨Nat.le_of_ble_eq_true rfl, Nat.le_of_ble_eq_true rfl⟩) rfl hl.1 rfl (Nat.le_of_ble_eq_true rfl) dL_isPath_135 ⟨Nat.le_of_ble_eq_true rfl, Nat.le_of_ble_eq_true rfl⟩ (fun _ => Nat.le_of_ble_eq_true rfl) (fun _ => rfl) (fun v u H locs hp hG => ?_)
                      obtain ⟨rv2_135, X2_135⟩ := u
                      obtain ⟨rfl, hr_135⟩ := hp
                      have hr_135 : ResU N (sP N y) (sY N y) (sD N y) rv2_135 := hr_135
                      have hG : gW K A s.heap [gRLC K ad, gScn K (ad 3) (ad 14) (ad 15) (ad 16) (ad 17) ou mi bo ln LF sn SF, gRayU K (ad 7) (ad 23) (ad 24) (ad 25) (ad 26) (ad 3) rv2_135 X2_135, gPthV K (ad 8) (ad 27) (ad 35) (ad 28) (ad 29) (ad 30) (ad 31) (ad 32) (ad 33) (ad 34) pv, gRayU K (ad 35) (ad 36) (ad 37) (ad 38) (ad 39) ps pr pX] _ _ := hG
                      refine g_top (w := .int (iI (deS N y))) (congrArg (fun z : Int => Value.int (iI z)) (by first | rfl | exact if_neg (by decide))) ?_
                      refine g_iconst S dL_isPath_138 ?_
                      refine g_icmp_ne (tgt := 165) S dL_isPath_139 (by decide) (by omega) (by omega) (fun q139 => ?_) (fun q139 => ?_)
                      · skip
                        omega
                      · skip
                        refine lv_aload_n S.1 S.2.1 dL_isPath_142 rfl (lv_at hl 4 rfl) ?_
                        refine lv_iload_n S.1 S.2.1 dL_isPath_143 rfl (lv_at hl 5 rfl) ?_
                        refine g_invV (As := [.int (iI y)]) (rest := []) (gs' := (fun u : RU × (Int → Int) => [gRLC K ad, gScn K (ad 3) (ad 14) (ad 15) (ad 16) (ad 17) ou mi bo ln LF sn SF, gRayU K (ad 7) (ad 23) (ad 24) (ad 25) (ad 26) (ad 3) u.1 u.2, gPthV K (ad 8) (ad 27) (ad 35) (ad 28) (ad 29) (ad 30) (ad 31) (ad 32) (ad 33) (ad 34) pv, gRayU K (ad 35) (ad 36) (ad 37) (ad 38) (ad 39) ps pr pX])) S C hG [0, 1, 2] (c_X8_share l K ad ou mi bo ln LF sn SF N (ad 3) rv2_135 X2_135 y hS hN (by omega) hy) rfl rfl 0 rfl rfl (cwV 1 S.2.2.2.2 gL_isPath_X8_share rfl rfl rfl (by decide +kernel) ⟨Nat.le_of_ble_eq_true rfl, Nat.le_of_ble_eq_true rfl⟩) rfl hl.1 rfl (Nat.le_of_ble_eq_true rfl) dL_isPath_144 ⟨Nat.le_of_ble_eq_true rfl, Nat.le_of_ble_eq_true rfl⟩ (fun _ => Nat.le_of_ble_eq_true rfl) (fun _ => rfl) (fun v u H locs hp hG => ?_)
                        obtain ⟨rv2_144, X2_144⟩ := u
                        subst hp
                        have hG : gW K A s.heap [gRLC K ad, gScn K (ad 3) (ad 14) (ad 15) (ad 16) (ad 17) ou mi bo ln LF sn SF, gRayU K (ad 7) (ad 23) (ad 24) (ad 25) (ad 26) (ad 3) rv2_144 X2_144, gPthV K (ad 8) (ad 27) (ad 35) (ad 28) (ad 29) (ad 30) (ad 31) (ad 32) (ad 33) (ad 34) pv, gRayU K (ad 35) (ad 36) (ad 37) (ad 38) (ad 39) ps pr pX] _ _ := hG
                        refine lv_fconst0 S.1 S.2.1 dL_isPath_147 ?_
                        refine lv_fcmp S.1 S.2.1 dL_isPath_148 ?_
                        refine g_top (w := .int (iI 0)) (by rw [z9.2.1]; exact fc_zero) ?_
                        refine g_if_ne (tgt := 165) S dL_isPath_149 (by decide) (by omega) (fun q149 => ?_) (fun q149 => ?_)
                        · skip
                          exact absurd q149 (by decide)
                        · skip
                          refine lv_aload_n S.1 S.2.1 dL_isPath_152 rfl (lv_at hl 4 rfl) ?_
                          refine lv_iload_n S.1 S.2.1 dL_isPath_153 rfl (lv_at hl 5 rfl) ?_
                          refine g_iconst S dL_isPath_154 ?_
                          refine g_invV (As := [.int (iI y), .int (iI 4)]) (rest := []) (gs' := (fun u : RU × (Int → Int) => [gRLC K ad, gScn K (ad 3) (ad 14) (ad 15) (ad 16) (ad 17) ou mi bo ln LF sn SF, gRayU K (ad 7) (ad 23) (ad 24) (ad 25) (ad 26) (ad 3) u.1 u.2, gPthV K (ad 8) (ad 27) (ad 35) (ad 28) (ad 29) (ad 30) (ad 31) (ad 32) (ad 33) (ad 34) pv, gRayU K (ad 35) (ad 36) (ad 37) (ad 38) (ad 39) ps pr pX])) S C hG [0, 1, 2] (c_X8_path l K ad ou mi bo ln LF sn SF N (ad 3) rv2_144 X2_144 y 4 hS hN (by omega) hy (by omega)) rfl rfl 0 rfl rfl (cwV 2 S.2.2.2.2 gL_isPath_X8_path rfl rfl rfl (by decide +kernel) ⟨Nat.le_of_ble_eq_true rfl, Nat.le_of_ble_eq_true rfl⟩) rfl hl.1 rfl (Nat.le_of_ble_eq_true rfl) dL_isPath_155 ⟨Nat.le_of_ble_eq_true rfl, Nat.le_of_ble_eq_true rfl⟩ (fun _ => Nat.le_of_ble_eq_true rfl) (fun _ => rfl) (fun v u H locs hp hG => ?_)
                          obtain ⟨rv2_155, X2_155⟩ := u
                          obtain ⟨rfl, hr_155⟩ := hp
                          have hr_155 : ResU N (sP N y) (sY N y) (sD N y) rv2_155 := hr_155
                          have hG : gW K A s.heap [gRLC K ad, gScn K (ad 3) (ad 14) (ad 15) (ad 16) (ad 17) ou mi bo ln LF sn SF, gRayU K (ad 7) (ad 23) (ad 24) (ad 25) (ad 26) (ad 3) rv2_155 X2_155, gPthV K (ad 8) (ad 27) (ad 35) (ad 28) (ad 29) (ad 30) (ad 31) (ad 32) (ad 33) (ad 34) pv, gRayU K (ad 35) (ad 36) (ad 37) (ad 38) (ad 39) ps pr pX] _ _ := hG
                          refine g_top (w := .int (iI (tS N y))) (congrArg (fun z : Int => Value.int (iI z)) (by first | rfl | exact if_neg (by decide))) ?_
                          refine g_if_ne (tgt := 165) S dL_isPath_158 (by decide) (by omega) (fun q158 => ?_) (fun q158 => ?_)
                          · skip
                            omega
                          · skip
                            refine g_iconst S dL_isPath_161 ?_
                            refine lv_goto (tgt := 166) S.1 S.2.1 dL_isPath_162 (by decide) ?_
                            have hG : gW K A s.heap [gRLC K ad, gScn K (ad 3) (ad 14) (ad 15) (ad 16) (ad 17) ou mi bo ln LF sn SF, gRayU K (ad 7) (ad 23) (ad 24) (ad 25) (ad 26) (ad 3) rv2_155 X2_155, gPthV K (ad 8) (ad 27) (ad 35) (ad 28) (ad 29) (ad 30) (ad 31) (ad 32) (ad 33) (ad 34) pv, gRayU K (ad 35) (ad 36) (ad 37) (ad 38) (ad 39) ps pr pX] _ _ := hG
                            exact g_zret S hr hlk hQ (Or.inr rfl) dL_isPath_166 (Nat.le_of_ble_eq_true rfl) (Nat.le_of_ble_eq_true rfl) (((ad 3), rv2_155, X2_155, pv, ps, pr, pX) : Nat × RU × (Int → Int) × PV × Nat × RU × (Int → Int)) rfl hG
                · skip
                  omega
          · skip
            omega
      · skip
        omega
    · skip
      exact absurd ⟨by omega, by omega⟩ hb9

set_option maxHeartbeats 20000000 in
set_option maxRecDepth 100000 in
theorem c_L_isPath_y (l : Launch) (K : KC) (ad : Nat → Nat) (ou : Int) (mi : Int) (bo : Int) (ln : Int) (LF : Int → Int) (sn : Int) (SF : Int → Int) (N : Int → Int) (rs : Nat) (rv : RU) (XF : Int → Int) (pv : PV) (ps : Nat) (pr : RU) (pX : Int → Int) (y : Int) (hS : ScOk N ou mi bo ln LF sn SF) (hN : NOk0 N) (hy : 0 ≤ y ∧ y < N 4) (hb : begS N y) : mG l yL_isPath wsL_isPath 6 143 K [.ref (ad 0), .int (iI y)] [gRLC K ad, gScn K (ad 3) (ad 14) (ad 15) (ad 16) (ad 17) ou mi bo ln LF sn SF, gRayU K (ad 7) (ad 23) (ad 24) (ad 25) (ad 26) rs rv XF, gPthV K (ad 8) (ad 27) (ad 35) (ad 28) (ad 29) (ad 30) (ad 31) (ad 32) (ad 33) (ad 34) pv, gRayU K (ad 35) (ad 36) (ad 37) (ad 38) (ad 39) ps pr pX] (fun (v : Value) (u : Nat × RU × (Int → Int) × PV × Nat × RU × (Int → Int)) => (v = .int (iI 1))) (fun (u : Nat × RU × (Int → Int) × PV × Nat × RU × (Int → Int)) => [gRLC K ad, gScn K (ad 3) (ad 14) (ad 15) (ad 16) (ad 17) ou mi bo ln LF sn SF, gRayU K (ad 7) (ad 23) (ad 24) (ad 25) (ad 26) u.1 u.2.1 u.2.2.1, gPthV K (ad 8) (ad 27) (ad 35) (ad 28) (ad 29) (ad 30) (ad 31) (ad 32) (ad 33) (ad 34) u.2.2.2.1, gRayU K (ad 35) (ad 36) (ad 37) (ad 38) (ad 39) u.2.2.2.2.1 u.2.2.2.2.2.1 u.2.2.2.2.2.2]) 2 10 := by
  refine mG_of cL_isPath 15 (by decide) rfl (Nat.le_of_ble_eq_true rfl) ?_
  intro p e s m below meth c A ls Q S C hG hl hr hlk hin hQ
  have S : CallFix p m c cL_isPath 15 s ([.ref (ad 0), .int (iI y)] : List Value).toArray wsL_isPath RL := S
  have iX80 : ∀ w ∈ wsX80, w ∈ wsL_isPath := fun _ h => List.mem_cons_of_mem _ (List.mem_append_left _ (List.mem_append_left _ (List.mem_append_left _ (List.mem_append_left _ (List.mem_append_left _ (List.mem_append_left _ (List.mem_append_right _ (h))))))))
  have iX40 : ∀ w ∈ wsX40, w ∈ wsL_isPath := fun _ h => List.mem_cons_of_mem _ (List.mem_append_left _ (List.mem_append_left _ (List.mem_append_left _ (List.mem_append_left _ (List.mem_append_left _ (List.mem_append_right _ (h)))))))
  have iX50 : ∀ w ∈ wsX50, w ∈ wsL_isPath := fun _ h => List.mem_cons_of_mem _ (List.mem_append_left _ (List.mem_append_left _ (List.mem_append_left _ (List.mem_append_left _ (List.mem_append_right _ (h))))))
  have iX70 : ∀ w ∈ wsX70, w ∈ wsL_isPath := fun _ h => List.mem_cons_of_mem _ (List.mem_append_left _ (List.mem_append_left _ (List.mem_append_left _ (List.mem_append_right _ (h)))))
  have iX30 : ∀ w ∈ wsX30, w ∈ wsL_isPath := fun _ h => List.mem_cons_of_mem _ (List.mem_append_left _ (List.mem_append_left _ (List.mem_append_right _ (h))))
  have hl : lv_has ls 15 [(0, .ref (ad 0)), (1, .int (iI y))] := hl
  have hG : gW K A s.heap [gRLC K ad, gScn K (ad 3) (ad 14) (ad 15) (ad 16) (ad 17) ou mi bo ln LF sn SF, gRayU K (ad 7) (ad 23) (ad 24) (ad 25) (ad 26) rs rv XF, gPthV K (ad 8) (ad 27) (ad 35) (ad 28) (ad 29) (ad 30) (ad 31) (ad 32) (ad 33) (ad 34) pv, gRayU K (ad 35) (ad 36) (ad 37) (ad 38) (ad 39) ps pr pX] s.heap [] := hG
  obtain ⟨e0, e1, e2, e3, e4, e5, e6⟩ := id hS
  have n0 := hN.1
  have n1 := hN.2.1
  have n2 := hN.2.2.1
  have n3 := hN.2.2.2.1
  have sh9 := sho_bd hN hy.1 hy.2
  have g60 : gS N y ≤ 60 := lgF_bd N (sP N y) (sY N y) (sD N y)
  have es9 := eS_bd N y
  have hb9 : 0 ≤ sY N y ∧ sY N y < N 0 ∧ sP N y < nX N (sY N y) := hb
  have g1 : 1 ≤ gS N y := by obtain ⟨j, e, -⟩ := gS_pos hb; omega
  have es4 := eS_4 hb
  have z9 := pthZ hb
  have nx9 : sY N y < N 0 → 1000 ≤ nX N (sY N y) ∧ nX N (sY N y) ≤ 4000 := fun z => (lay_bd hN sh9.1.1 z).1
  refine lv_aload_n S.1 S.2.1 dL_isPath_0 rfl (lv_at hl 0 rfl) ?_
  refine lv_iload_n S.1 S.2.1 dL_isPath_1 rfl (lv_at hl 1 rfl) ?_
  refine g_iconst S dL_isPath_2 ?_
  refine g_invV (As := [.int (iI y), .int (iI 0)]) (rest := []) (gs' := (fun u : RU × (Int → Int) => [gRLC K ad, gScn K (ad 3) (ad 14) (ad 15) (ad 16) (ad 17) ou mi bo ln LF sn SF, gRayU K (ad 7) (ad 23) (ad 24) (ad 25) (ad 26) (ad 3) u.1 u.2, gPthV K (ad 8) (ad 27) (ad 35) (ad 28) (ad 29) (ad 30) (ad 31) (ad 32) (ad 33) (ad 34) pv, gRayU K (ad 35) (ad 36) (ad 37) (ad 38) (ad 39) ps pr pX])) S C hG [0, 1, 2] (c_X8_path l K ad ou mi bo ln LF sn SF N rs rv XF y 0 hS hN (by omega) hy (by omega)) rfl rfl 0 rfl rfl (cwV 2 S.2.2.2.2 gL_isPath_X8_path rfl rfl rfl (by decide +kernel) ⟨Nat.le_of_ble_eq_true rfl, Nat.le_of_ble_eq_true rfl⟩) rfl hl.1 rfl (Nat.le_of_ble_eq_true rfl) dL_isPath_3 ⟨Nat.le_of_ble_eq_true rfl, Nat.le_of_ble_eq_true rfl⟩ (fun _ => Nat.le_of_ble_eq_true rfl) (fun _ => rfl) (fun v u H locs hp hG => ?_)
  obtain ⟨rv2_3, X2_3⟩ := u
  obtain ⟨rfl, hr_3⟩ := hp
  have hr_3 : ResU N (sP N y) (sY N y) (sD N y) rv2_3 := hr_3
  have hG : gW K A s.heap [gRLC K ad, gScn K (ad 3) (ad 14) (ad 15) (ad 16) (ad 17) ou mi bo ln LF sn SF, gRayU K (ad 7) (ad 23) (ad 24) (ad 25) (ad 26) (ad 3) rv2_3 X2_3, gPthV K (ad 8) (ad 27) (ad 35) (ad 28) (ad 29) (ad 30) (ad 31) (ad 32) (ad 33) (ad 34) pv, gRayU K (ad 35) (ad 36) (ad 37) (ad 38) (ad 39) ps pr pX] _ _ := hG
  refine g_top (w := .int (iI ((gS N y : Int)))) (congrArg (fun z : Int => Value.int (iI z)) (by first | rfl | exact if_neg (by decide))) ?_
  refine lv_istore_n (lv' := [(2, .int (iI (gS N y : Int))), (0, .ref (ad 0)), (1, .int (iI y))]) S.1 S.2.1 dL_isPath_6 rfl hl (by decide) rfl (fun ls hl => ?_)
  refine lv_aload_n S.1 S.2.1 dL_isPath_7 rfl (lv_at hl 1 rfl) ?_
  refine lv_iload_n S.1 S.2.1 dL_isPath_8 rfl (lv_at hl 2 rfl) ?_
  refine g_iconst S dL_isPath_9 ?_
  refine g_invV (As := [.int (iI y), .int (iI 1)]) (rest := []) (gs' := (fun u : RU × (Int → Int) => [gRLC K ad, gScn K (ad 3) (ad 14) (ad 15) (ad 16) (ad 17) ou mi bo ln LF sn SF, gRayU K (ad 7) (ad 23) (ad 24) (ad 25) (ad 26) (ad 3) u.1 u.2, gPthV K (ad 8) (ad 27) (ad 35) (ad 28) (ad 29) (ad 30) (ad 31) (ad 32) (ad 33) (ad 34) pv, gRayU K (ad 35) (ad 36) (ad 37) (ad 38) (ad 39) ps pr pX])) S C hG [0, 1, 2] (c_X8_path l K ad ou mi bo ln LF sn SF N (ad 3) rv2_3 X2_3 y 1 hS hN (by omega) hy (by omega)) rfl rfl 0 rfl rfl (cwV 2 S.2.2.2.2 gL_isPath_X8_path rfl rfl rfl (by decide +kernel) ⟨Nat.le_of_ble_eq_true rfl, Nat.le_of_ble_eq_true rfl⟩) rfl hl.1 rfl (Nat.le_of_ble_eq_true rfl) dL_isPath_10 ⟨Nat.le_of_ble_eq_true rfl, Nat.le_of_ble_eq_true rfl⟩ (fun _ => Nat.le_of_ble_eq_true rfl) (fun _ => rfl) (fun v u H locs hp hG => ?_)
  obtain ⟨rv2_10, X2_10⟩ := u
  obtain ⟨rfl, hr_10⟩ := hp
  have hr_10 : ResU N (sP N y) (sY N y) (sD N y) rv2_10 := hr_10
  have hG : gW K A s.heap [gRLC K ad, gScn K (ad 3) (ad 14) (ad 15) (ad 16) (ad 17) ou mi bo ln LF sn SF, gRayU K (ad 7) (ad 23) (ad 24) (ad 25) (ad 26) (ad 3) rv2_10 X2_10, gPthV K (ad 8) (ad 27) (ad 35) (ad 28) (ad 29) (ad 30) (ad 31) (ad 32) (ad 33) (ad 34) pv, gRayU K (ad 35) (ad 36) (ad 37) (ad 38) (ad 39) ps pr pX] _ _ := hG
  refine g_top (w := .int (iI (eS N y))) (congrArg (fun z : Int => Value.int (iI z)) (by first | rfl | exact if_neg (by decide))) ?_
  refine lv_istore_n (lv' := [(3, .int (iI (eS N y))), (2, .int (iI (gS N y : Int))), (0, .ref (ad 0)), (1, .int (iI y))]) S.1 S.2.1 dL_isPath_13 rfl hl (by decide) rfl (fun ls hl => ?_)
  refine lv_aload_n S.1 S.2.1 dL_isPath_14 rfl (lv_at hl 2 rfl) ?_
  refine lv_iload_n S.1 S.2.1 dL_isPath_15 rfl (lv_at hl 3 rfl) ?_
  refine g_iconst S dL_isPath_16 ?_
  refine g_invV (As := [.int (iI y), .int (iI 2)]) (rest := []) (gs' := (fun u : Unit => [gRLC K ad, gScn K (ad 3) (ad 14) (ad 15) (ad 16) (ad 17) ou mi bo ln LF sn SF, gRayU K (ad 7) (ad 23) (ad 24) (ad 25) (ad 26) (ad 3) rv2_10 X2_10, gPthV K (ad 8) (ad 27) (ad 35) (ad 28) (ad 29) (ad 30) (ad 31) (ad 32) (ad 33) (ad 34) pv, gRayU K (ad 35) (ad 36) (ad 37) (ad 38) (ad 39) ps pr pX])) S C hG [0, 1] (c_X8_shot l K ad ou mi bo ln LF sn SF N y 2 hS hN (by omega) (by omega) hy (by omega)) rfl rfl 0 rfl rfl (cwV 2 S.2.2.2.2 gL_isPath_X8_shot rfl rfl rfl (by decide +kernel) ⟨Nat.le_of_ble_eq_true rfl, Nat.le_of_ble_eq_true rfl⟩) rfl hl.1 rfl (Nat.le_of_ble_eq_true rfl) dL_isPath_17 ⟨Nat.le_of_ble_eq_true rfl, Nat.le_of_ble_eq_true rfl⟩ (fun _ => Nat.le_of_ble_eq_true rfl) (fun _ => rfl) (fun v u H locs hp hG => ?_)
  subst hp
  refine g_top (w := .int (iI (sP N y))) (congrArg (fun z : Int => Value.int (iI z)) (by first | rfl | exact if_neg (by decide))) ?_
  refine lv_istore (lv' := [(4, .int (iI (sP N y))), (3, .int (iI (eS N y))), (2, .int (iI (gS N y : Int))), (0, .ref (ad 0)), (1, .int (iI y))]) S.1 S.2.1 dL_isPath_20 hl (by decide) rfl (fun ls hl => ?_)
  refine lv_aload_n S.1 S.2.1 dL_isPath_22 rfl (lv_at hl 3 rfl) ?_
  refine lv_iload_n S.1 S.2.1 dL_isPath_23 rfl (lv_at hl 4 rfl) ?_
  refine g_iconst S dL_isPath_24 ?_
  refine g_invV (As := [.int (iI y), .int (iI 0)]) (rest := []) (gs' := (fun u : Unit => [gRLC K ad, gScn K (ad 3) (ad 14) (ad 15) (ad 16) (ad 17) ou mi bo ln LF sn SF, gRayU K (ad 7) (ad 23) (ad 24) (ad 25) (ad 26) (ad 3) rv2_10 X2_10, gPthV K (ad 8) (ad 27) (ad 35) (ad 28) (ad 29) (ad 30) (ad 31) (ad 32) (ad 33) (ad 34) pv, gRayU K (ad 35) (ad 36) (ad 37) (ad 38) (ad 39) ps pr pX])) S C hG [0, 1] (c_X8_shot l K ad ou mi bo ln LF sn SF N y 0 hS hN (by omega) (by omega) hy (by omega)) rfl rfl 0 rfl rfl (cwV 2 S.2.2.2.2 gL_isPath_X8_shot rfl rfl rfl (by decide +kernel) ⟨Nat.le_of_ble_eq_true rfl, Nat.le_of_ble_eq_true rfl⟩) rfl hl.1 rfl (Nat.le_of_ble_eq_true rfl) dL_isPath_25 ⟨Nat.le_of_ble_eq_true rfl, Nat.le_of_ble_eq_true rfl⟩ (fun _ => Nat.le_of_ble_eq_true rfl) (fun _ => rfl) (fun v u H locs hp hG => ?_)
  subst hp
  refine g_top (w := .int (iI (sY N y))) (congrArg (fun z : Int => Value.int (iI z)) (by first | rfl | exact if_neg (by decide))) ?_
  refine lv_aload_n S.1 S.2.1 dL_isPath_28 rfl (lv_at hl 3 rfl) ?_
  refine g_iconst S dL_isPath_29 ?_
  refine g_invV (As := [.int (iI 0)]) (rest := [.int (iI (sY N y))]) (gs' := (fun u : Unit => [gRLC K ad, gScn K (ad 3) (ad 14) (ad 15) (ad 16) (ad 17) ou mi bo ln LF sn SF, gRayU K (ad 7) (ad 23) (ad 24) (ad 25) (ad 26) (ad 3) rv2_10 X2_10, gPthV K (ad 8) (ad 27) (ad 35) (ad 28) (ad 29) (ad 30) (ad 31) (ad 32) (ad 33) (ad 34) pv, gRayU K (ad 35) (ad 36) (ad 37) (ad 38) (ad 39) ps pr pX])) S C hG [0, 1] (c_X8_property l K ad ou mi bo ln LF sn SF N 0 hS hN (by omega)) rfl rfl 0 rfl rfl (cwV 1 S.2.2.2.2 gL_isPath_X8_property rfl rfl rfl (by decide +kernel) ⟨Nat.le_of_ble_eq_true rfl, Nat.le_of_ble_eq_true rfl⟩) rfl hl.1 rfl (Nat.le_of_ble_eq_true rfl) dL_isPath_30 ⟨Nat.le_of_ble_eq_true rfl, Nat.le_of_ble_eq_true rfl⟩ (fun _ => Nat.le_of_ble_eq_true rfl) (fun _ => rfl) (fun v u H locs hp hG => ?_)
  subst hp
  refine g_top (w := .int (iI (N 0))) (congrArg (fun z : Int => Value.int (iI z)) (by first | rfl | exact if_neg (by decide))) ?_
  refine g_icmp_ge (tgt := 66) S dL_isPath_33 (by decide) (by omega) (by omega) (fun q33 => ?_) (fun q33 => ?_)
  · skip
    omega
  · skip
    refine lv_iload S.1 S.2.1 dL_isPath_36 (lv_at hl 0 rfl) ?_
    refine lv_aload_n S.1 S.2.1 dL_isPath_38 rfl (lv_at hl 3 rfl) ?_
    refine lv_aload_n S.1 S.2.1 dL_isPath_39 rfl (lv_at hl 3 rfl) ?_
    refine g_iconst S dL_isPath_40 ?_
    refine g_invV (As := [.int (iI 0)]) (rest := [.ref (ad 0), .int (iI (sP N y))]) (gs' := (fun u : Unit => [gRLC K ad, gScn K (ad 3) (ad 14) (ad 15) (ad 16) (ad 17) ou mi bo ln LF sn SF, gRayU K (ad 7) (ad 23) (ad 24) (ad 25) (ad 26) (ad 3) rv2_10 X2_10, gPthV K (ad 8) (ad 27) (ad 35) (ad 28) (ad 29) (ad 30) (ad 31) (ad 32) (ad 33) (ad 34) pv, gRayU K (ad 35) (ad 36) (ad 37) (ad 38) (ad 39) ps pr pX])) S C hG [0, 1] (c_X8_property l K ad ou mi bo ln LF sn SF N 0 hS hN (by omega)) rfl rfl 0 rfl rfl (cwV 1 S.2.2.2.2 gL_isPath_X8_property rfl rfl rfl (by decide +kernel) ⟨Nat.le_of_ble_eq_true rfl, Nat.le_of_ble_eq_true rfl⟩) rfl hl.1 rfl (Nat.le_of_ble_eq_true rfl) dL_isPath_41 ⟨Nat.le_of_ble_eq_true rfl, Nat.le_of_ble_eq_true rfl⟩ (fun _ => Nat.le_of_ble_eq_true rfl) (fun _ => rfl) (fun v u H locs hp hG => ?_)
    subst hp
    refine g_top (w := .int (iI (N 0))) (congrArg (fun z : Int => Value.int (iI z)) (by first | rfl | exact if_neg (by decide))) ?_
    refine g_iconst S dL_isPath_44 ?_
    refine g_isub S dL_isPath_45 rfl ?_
    refine lv_aload_n S.1 S.2.1 dL_isPath_46 rfl (lv_at hl 3 rfl) ?_
    refine lv_iload_n S.1 S.2.1 dL_isPath_47 rfl (lv_at hl 4 rfl) ?_
    refine g_iconst S dL_isPath_48 ?_
    refine g_invV (As := [.int (iI y), .int (iI 0)]) (rest := [.int (iI ((N 0) - 1)), .ref (ad 0), .int (iI (sP N y))]) (gs' := (fun u : Unit => [gRLC K ad, gScn K (ad 3) (ad 14) (ad 15) (ad 16) (ad 17) ou mi bo ln LF sn SF, gRayU K (ad 7) (ad 23) (ad 24) (ad 25) (ad 26) (ad 3) rv2_10 X2_10, gPthV K (ad 8) (ad 27) (ad 35) (ad 28) (ad 29) (ad 30) (ad 31) (ad 32) (ad 33) (ad 34) pv, gRayU K (ad 35) (ad 36) (ad 37) (ad 38) (ad 39) ps pr pX])) S C hG [0, 1] (c_X8_shot l K ad ou mi bo ln LF sn SF N y 0 hS hN (by omega) (by omega) hy (by omega)) rfl rfl 0 rfl rfl (cwV 2 S.2.2.2.2 gL_isPath_X8_shot rfl rfl rfl (by decide +kernel) ⟨Nat.le_of_ble_eq_true rfl, Nat.le_of_ble_eq_true rfl⟩) rfl hl.1 rfl (Nat.le_of_ble_eq_true rfl) dL_isPath_49 ⟨Nat.le_of_ble_eq_true rfl, Nat.le_of_ble_eq_true rfl⟩ (fun _ => Nat.le_of_ble_eq_true rfl) (fun _ => rfl) (fun v u H locs hp hG => ?_)
    subst hp
    refine g_top (w := .int (iI (sY N y))) (congrArg (fun z : Int => Value.int (iI z)) (by first | rfl | exact if_neg (by decide))) ?_
    refine va_mmin S.1 S.2.1 (by rw [S.2.2.1]; exact hl.1.symm) S.2.2.2.1 (S.2.2.2.2 _ (List.mem_of_getElem? (i := 1) rfl)) (S.2.2.2.2 _ (List.mem_of_getElem? (i := 2) rfl)) (S.2.2.2.2 _ (List.mem_of_getElem? (i := 3) rfl)) (S.2.2.2.2 _ (List.mem_of_getElem? (i := 4) rfl)) (Nat.le_of_ble_eq_true rfl) (Nat.le_of_ble_eq_true rfl) (Nat.le_of_ble_eq_true rfl) (Nat.le_of_ble_eq_true rfl) dL_isPath_52 ?_
    refine g_top (w := .int (iI (min ((N 0) - 1) (sY N y)))) (imin_eq (by omega) (by omega)) ?_
    refine g_top (w := .int (iI (sY N y))) (congrArg (fun z : Int => Value.int (iI z)) (by omega)) ?_
    refine g_iconst S dL_isPath_55 ?_
    refine g_invV (As := [.int (iI (sY N y)), .int (iI 0)]) (rest := [.int (iI (sP N y))]) (gs' := (fun u : Unit => [gRLC K ad, gScn K (ad 3) (ad 14) (ad 15) (ad 16) (ad 17) ou mi bo ln LF sn SF, gRayU K (ad 7) (ad 23) (ad 24) (ad 25) (ad 26) (ad 3) rv2_10 X2_10, gPthV K (ad 8) (ad 27) (ad 35) (ad 28) (ad 29) (ad 30) (ad 31) (ad 32) (ad 33) (ad 34) pv, gRayU K (ad 35) (ad 36) (ad 37) (ad 38) (ad 39) ps pr pX])) S C hG [0, 1] (c_X8_layer l K ad ou mi bo ln LF sn SF N (sY N y) 0 hS hN (by omega) (by omega) (by omega) (by omega)) rfl rfl 0 rfl rfl (cwV 2 S.2.2.2.2 gL_isPath_X8_layer rfl rfl rfl (by decide +kernel) ⟨Nat.le_of_ble_eq_true rfl, Nat.le_of_ble_eq_true rfl⟩) rfl hl.1 rfl (Nat.le_of_ble_eq_true rfl) dL_isPath_56 ⟨Nat.le_of_ble_eq_true rfl, Nat.le_of_ble_eq_true rfl⟩ (fun _ => Nat.le_of_ble_eq_true rfl) (fun _ => rfl) (fun v u H locs hp hG => ?_)
    subst hp
    refine g_top (w := .int (iI (nX N (sY N y)))) (congrArg (fun z : Int => Value.int (iI z)) (by first | rfl | exact if_neg (by decide))) ?_
    refine g_icmp_ge (tgt := 66) S dL_isPath_59 (by decide) (by omega) (by omega) (fun q59 => ?_) (fun q59 => ?_)
    · skip
      omega
    · skip
      refine g_iconst S dL_isPath_62 ?_
      refine lv_goto (tgt := 67) S.1 S.2.1 dL_isPath_63 (by decide) ?_
      refine lv_istore (lv' := [(5, .int (iI 1)), (4, .int (iI (sP N y))), (3, .int (iI (eS N y))), (2, .int (iI (gS N y : Int))), (0, .ref (ad 0)), (1, .int (iI y))]) S.1 S.2.1 dL_isPath_67 hl (by decide) rfl (fun ls hl => ?_)
      refine lv_iload S.1 S.2.1 dL_isPath_69 (lv_at hl 0 rfl) ?_
      refine lv_iload_n S.1 S.2.1 dL_isPath_71 rfl (lv_at hl 3 rfl) ?_
      refine g_if_le (tgt := 79) S dL_isPath_72 (by decide) (by omega) (fun q72 => ?_) (fun q72 => ?_)
      · skip
        omega
      · skip
        refine g_iconst S dL_isPath_75 ?_
        refine lv_goto (tgt := 80) S.1 S.2.1 dL_isPath_76 (by decide) ?_
        refine g_icmp_ne (tgt := 115) S dL_isPath_80 (by decide) (by omega) (by omega) (fun q80 => ?_) (fun q80 => ?_)
        · skip
          exact absurd q80 (by decide)
        · skip
          refine lv_iload S.1 S.2.1 dL_isPath_83 (lv_at hl 0 rfl) ?_
          refine lv_iload_n S.1 S.2.1 dL_isPath_85 rfl (lv_at hl 2 rfl) ?_
          refine g_iconst S dL_isPath_86 ?_
          refine g_icmp_eq (tgt := 94) S dL_isPath_87 (by decide) (by omega) (by omega) (fun q87 => ?_) (fun q87 => ?_)
          · skip
            omega
          · skip
            refine g_iconst S dL_isPath_90 ?_
            refine lv_goto (tgt := 95) S.1 S.2.1 dL_isPath_91 (by decide) ?_
            refine g_icmp_ne (tgt := 115) S dL_isPath_95 (by decide) (by omega) (by omega) (fun q95 => ?_) (fun q95 => ?_)
            · skip
              exact absurd q95 (by decide)
            · skip
              refine lv_iload_n S.1 S.2.1 dL_isPath_98 rfl (lv_at hl 3 rfl) ?_
              refine g_bipush S dL_isPath_99 (by decide) ?_
              refine g_icmp_gt (tgt := 115) S dL_isPath_101 (by decide) (by omega) (by omega) (fun q101 => ?_) (fun q101 => ?_)
              · skip
                omega
              · skip
                refine lv_iload_n S.1 S.2.1 dL_isPath_104 rfl (lv_at hl 2 rfl) ?_
                refine g_iconst S dL_isPath_105 ?_
                have J117 : ∀ (H : Heap) (locs : List Loc) (ls : Array Slot), lv_has ls 15 [(0, .ref (ad 0)), (1, .int (iI y)), (2, .int (iI (gS N y : Int))), (3, .int (iI (eS N y))), (4, .int (iI (sP N y))), (5, .int (iI 1))] → gW K A s.heap [gRLC K ad, gScn K (ad 3) (ad 14) (ad 15) (ad 16) (ad 17) ou mi bo ln LF sn SF, gRayU K (ad 7) (ad 23) (ad 24) (ad 25) (ad 26) (ad 3) rv2_10 X2_10, gPthV K (ad 8) (ad 27) (ad 35) (ad 28) (ad 29) (ad 30) (ad 31) (ad 32) (ad 33) (ad 34) pv, gRayU K (ad 35) (ad 36) (ad 37) (ad 38) (ad 39) ps pr pX] H locs → W p l e { frames := 6, cells := 2, slots := 10, locals := 143 } s m ([.ref (ad 0), .int (iI y)] : List Value).toArray below meth c H locs 0 0 Q (F0 m 117 ls []) := by
                  intro  H locs ls  hl hG
                  refine lv_iload S.1 S.2.1 dL_isPath_117 (lv_at hl 5 rfl) ?_
                  refine g_if_ne (tgt := 167) S dL_isPath_119 (by decide) (by omega) (fun q119 => ?_) (fun q119 => ?_)
                  · skip
                    refine g_iconst S dL_isPath_167 ?_
                    refine g_newa (gs' := fun nw168 => [gRLC K ad, gScn K (ad 3) (ad 14) (ad 15) (ad 16) (ad 17) ou mi bo ln LF sn SF, gRayU K (ad 7) (ad 23) (ad 24) (ad 25) (ad 26) (ad 3) rv2_10 X2_10, gPthV K (ad 8) (ad 27) (ad 35) (ad 28) (ad 29) (ad 30) (ad 31) (ad 32) (ad 33) (ad 34) pv, gRayU K (ad 35) (ad 36) (ad 37) (ad 38) (ad 39) ps pr pX, gArr K 3 nw168 (fun _ => 0)]) (a0 := (3, .inl (fun j : Nat => iI ((fun _ : Int => 0) (j : Int))))) S C hG (ty := .int) rfl (List.mem_of_getElem? (i := 5) rfl) 0 rfl 3 rfl (ha_i 3) (Nat.le_of_ble_eq_true rfl) (Nat.le_of_ble_eq_true rfl) (Nat.le_of_ble_eq_true rfl) (Nat.le_of_ble_eq_true rfl) (fun _ => rfl) dL_isPath_168 (fun nw168 H hG => ?_)
                    refine lv_astore (lv' := [(6, .ref nw168), (0, .ref (ad 0)), (1, .int (iI y)), (2, .int (iI (gS N y : Int))), (3, .int (iI (eS N y))), (4, .int (iI (sP N y))), (5, .int (iI 1))]) S.1 S.2.1 dL_isPath_170 hl (by decide) rfl (fun ls hl => ?_)
                    refine g_bipush S dL_isPath_172 (by decide) ?_
                    refine g_newa (gs' := fun nw174 => [gRLC K ad, gScn K (ad 3) (ad 14) (ad 15) (ad 16) (ad 17) ou mi bo ln LF sn SF, gRayU K (ad 7) (ad 23) (ad 24) (ad 25) (ad 26) (ad 3) rv2_10 X2_10, gPthV K (ad 8) (ad 27) (ad 35) (ad 28) (ad 29) (ad 30) (ad 31) (ad 32) (ad 33) (ad 34) pv, gRayU K (ad 35) (ad 36) (ad 37) (ad 38) (ad 39) ps pr pX, gArr K 3 nw168 (fun _ => 0), gArr K 7 nw174 (fun _ => 0)]) (a0 := (7, .inl (fun j : Nat => iI ((fun _ : Int => 0) (j : Int))))) S C hG (ty := .int) rfl (List.mem_of_getElem? (i := 5) rfl) 0 rfl 7 rfl (ha_i 7) (Nat.le_of_ble_eq_true rfl) (Nat.le_of_ble_eq_true rfl) (Nat.le_of_ble_eq_true rfl) (Nat.le_of_ble_eq_true rfl) (fun _ => rfl) dL_isPath_174 (fun nw174 H hG => ?_)
                    refine lv_astore (lv' := [(7, .ref nw174), (6, .ref nw168), (0, .ref (ad 0)), (1, .int (iI y)), (2, .int (iI (gS N y : Int))), (3, .int (iI (eS N y))), (4, .int (iI (sP N y))), (5, .int (iI 1))]) S.1 S.2.1 dL_isPath_176 hl (by decide) rfl (fun ls hl => ?_)
                    refine g_iconst S dL_isPath_178 ?_
                    refine lv_istore (lv' := [(8, .int (iI 0)), (7, .ref nw174), (6, .ref nw168), (0, .ref (ad 0)), (1, .int (iI y)), (2, .int (iI (gS N y : Int))), (3, .int (iI (eS N y))), (4, .int (iI (sP N y))), (5, .int (iI 1))]) S.1 S.2.1 dL_isPath_179 hl (by decide) rfl (fun ls hl => ?_)
                    refine g_ldc (z := 1000000) S dL_isPath_181 (List.mem_of_getElem? (i := 6) rfl) rfl ?_
                    refine lv_istore (lv' := [(9, .int (iI 1000000)), (8, .int (iI 0)), (7, .ref nw174), (6, .ref nw168), (0, .ref (ad 0)), (1, .int (iI y)), (2, .int (iI (gS N y : Int))), (3, .int (iI (eS N y))), (4, .int (iI (sP N y))), (5, .int (iI 1))]) S.1 S.2.1 dL_isPath_183 hl (by decide) rfl (fun ls hl => ?_)
                    refine lv_aload_n S.1 S.2.1 dL_isPath_185 rfl (lv_at hl 4 rfl) ?_
                    refine lv_iload_n S.1 S.2.1 dL_isPath_186 rfl (lv_at hl 5 rfl) ?_
                    refine g_iconst S dL_isPath_187 ?_
                    refine g_invV (As := [.int (iI y), .int (iI 0)]) (rest := []) (gs' := (fun u : Unit => [gRLC K ad, gScn K (ad 3) (ad 14) (ad 15) (ad 16) (ad 17) ou mi bo ln LF sn SF, gRayU K (ad 7) (ad 23) (ad 24) (ad 25) (ad 26) (ad 3) rv2_10 X2_10, gPthV K (ad 8) (ad 27) (ad 35) (ad 28) (ad 29) (ad 30) (ad 31) (ad 32) (ad 33) (ad 34) pv, gRayU K (ad 35) (ad 36) (ad 37) (ad 38) (ad 39) ps pr pX, gArr K 3 nw168 (fun _ => 0), gArr K 7 nw174 (fun _ => 0)])) S C hG [0, 1] (c_X8_shot l K ad ou mi bo ln LF sn SF N y 0 hS hN (by omega) (by omega) hy (by omega)) rfl rfl 0 rfl rfl (cwV 2 S.2.2.2.2 gL_isPath_X8_shot rfl rfl rfl (by decide +kernel) ⟨Nat.le_of_ble_eq_true rfl, Nat.le_of_ble_eq_true rfl⟩) rfl hl.1 rfl (Nat.le_of_ble_eq_true rfl) dL_isPath_188 ⟨Nat.le_of_ble_eq_true rfl, Nat.le_of_ble_eq_true rfl⟩ (fun _ => Nat.le_of_ble_eq_true rfl) (fun _ => rfl) (fun v u H locs hp hG => ?_)
                    subst hp
                    refine g_top (w := .int (iI (sY N y))) (congrArg (fun z : Int => Value.int (iI z)) (by first | rfl | exact if_neg (by decide))) ?_
                    refine lv_istore (lv' := [(10, .int (iI (sY N y))), (9, .int (iI 1000000)), (8, .int (iI 0)), (7, .ref nw174), (6, .ref nw168), (0, .ref (ad 0)), (1, .int (iI y)), (2, .int (iI (gS N y : Int))), (3, .int (iI (eS N y))), (4, .int (iI (sP N y))), (5, .int (iI 1))]) S.1 S.2.1 dL_isPath_191 hl (by decide) rfl (fun ls hl => ?_)
                    refine lv_aload_n S.1 S.2.1 dL_isPath_193 rfl (lv_at hl 5 rfl) ?_
                    refine lv_iload_n S.1 S.2.1 dL_isPath_194 rfl (lv_at hl 6 rfl) ?_
                    refine g_iconst S dL_isPath_195 ?_
                    refine g_invV (As := [.int (iI y), .int (iI 1)]) (rest := []) (gs' := (fun u : Unit => [gRLC K ad, gScn K (ad 3) (ad 14) (ad 15) (ad 16) (ad 17) ou mi bo ln LF sn SF, gRayU K (ad 7) (ad 23) (ad 24) (ad 25) (ad 26) (ad 3) rv2_10 X2_10, gPthV K (ad 8) (ad 27) (ad 35) (ad 28) (ad 29) (ad 30) (ad 31) (ad 32) (ad 33) (ad 34) pv, gRayU K (ad 35) (ad 36) (ad 37) (ad 38) (ad 39) ps pr pX, gArr K 3 nw168 (fun _ => 0), gArr K 7 nw174 (fun _ => 0)])) S C hG [0, 1] (c_X8_shot l K ad ou mi bo ln LF sn SF N y 1 hS hN (by omega) (by omega) hy (by omega)) rfl rfl 0 rfl rfl (cwV 2 S.2.2.2.2 gL_isPath_X8_shot rfl rfl rfl (by decide +kernel) ⟨Nat.le_of_ble_eq_true rfl, Nat.le_of_ble_eq_true rfl⟩) rfl hl.1 rfl (Nat.le_of_ble_eq_true rfl) dL_isPath_196 ⟨Nat.le_of_ble_eq_true rfl, Nat.le_of_ble_eq_true rfl⟩ (fun _ => Nat.le_of_ble_eq_true rfl) (fun _ => rfl) (fun v u H locs hp hG => ?_)
                    subst hp
                    refine g_top (w := .int (iI (sD N y))) (congrArg (fun z : Int => Value.int (iI z)) (by first | rfl | exact if_neg (by decide))) ?_
                    refine lv_istore (lv' := [(11, .int (iI (sD N y))), (10, .int (iI (sY N y))), (9, .int (iI 1000000)), (8, .int (iI 0)), (7, .ref nw174), (6, .ref nw168), (0, .ref (ad 0)), (1, .int (iI y)), (2, .int (iI (gS N y : Int))), (3, .int (iI (eS N y))), (4, .int (iI (sP N y))), (5, .int (iI 1))]) S.1 S.2.1 dL_isPath_199 hl (by decide) rfl (fun ls hl => ?_)
                    refine g_iconst S dL_isPath_201 ?_
                    refine lv_istore (lv' := [(12, .int (iI 0)), (11, .int (iI (sD N y))), (10, .int (iI (sY N y))), (9, .int (iI 1000000)), (8, .int (iI 0)), (7, .ref nw174), (6, .ref nw168), (0, .ref (ad 0)), (1, .int (iI y)), (2, .int (iI (gS N y : Int))), (3, .int (iI (eS N y))), (4, .int (iI (sP N y))), (5, .int (iI 1))]) S.1 S.2.1 dL_isPath_202 hl (by decide) rfl (fun ls hl => ?_)
                    have L204 : ∀ (fu : Nat) (kk : Nat) (pw : Int) (dp : Int) (ly : Int) (dn : Int) (SQ : Int → Int) (EQ : Int → Int) (pvk : PV) (psk : Nat) (prk : RU) (pXk : Int → Int) (H : Heap) (locs : List Loc) (ls : Array Slot), (gS N y - kk) < fu → (kk ≤ gS N y) → (kk < gS N y → ly = ykS N y kk ∧ dn = ekS N y kk) → (wS N y kk ≤ pw ∧ pw ≤ 1000000 ∧ 0 ≤ pw) → (dp = max 0 (dpN (ykS N y) kk) ∧ dp ≤ 9) → (SQ 0 = smN (skS N y) kk ∧ SQ 1 = smN (lkS N y) kk ∧ SQ 2 = smN (tqS N y) kk) → (EQ 0 = smN (crK N (sP N y) (sY N y) (sD N y)) kk ∧ EQ 1 = smN (trK N (sP N y) (sY N y) (sD N y)) kk ∧ EQ 2 = e2S N y kk) → lv_has ls 15 [(0, .ref (ad 0)), (1, .int (iI y)), (2, .int (iI (gS N y : Int))), (3, .int (iI (eS N y))), (4, .int (iI (sP N y))), (5, .int (iI 1)), (6, .ref nw168), (7, .ref nw174), (8, .int (iI dp)), (9, .int (iI pw)), (10, .int (iI ly)), (11, .int (iI dn)), (12, .int (iI (kk : Int)))] → gW K A s.heap [gRLC K ad, gScn K (ad 3) (ad 14) (ad 15) (ad 16) (ad 17) ou mi bo ln LF sn SF, gRayU K (ad 7) (ad 23) (ad 24) (ad 25) (ad 26) (ad 3) rv2_10 X2_10, gPthV K (ad 8) (ad 27) (ad 35) (ad 28) (ad 29) (ad 30) (ad 31) (ad 32) (ad 33) (ad 34) pvk, gRayU K (ad 35) (ad 36) (ad 37) (ad 38) (ad 39) psk prk pXk, gArr K 3 nw168 SQ, gArr K 7 nw174 EQ] H locs → W p l e { frames := 6, cells := 2, slots := 10, locals := 143 } s m ([.ref (ad 0), .int (iI y)] : List Value).toArray below meth c H locs ((0 + 1) + 1) ((0 + 3) + 7) Q (F0 m 204 ls []) := by
                      intro fu
                      induction fu with
                      | zero => intro kk pw dp ly dn SQ EQ pvk psk prk pXk H locs ls hfu; exact absurd hfu (Nat.not_lt_zero _)
                      | succ fu ih =>
                        intro kk pw dp ly dn SQ EQ pvk psk prk pXk H locs ls hfu hkk hlay hpw hdp hs he hl hG
                        refine lv_iload S.1 S.2.1 dL_isPath_204 (lv_at hl 12 rfl) ?_
                        refine lv_iload_n S.1 S.2.1 dL_isPath_206 rfl (lv_at hl 2 rfl) ?_
                        refine g_icmp_ge (tgt := 526) S dL_isPath_207 (by decide) (by omega) (by omega) (fun q207 => ?_) (fun q207 => ?_)
                        · skip
                          have e9 : kk = gS N y := by omega
                          rw [e9] at hs he hpw hdp
                          have p9 := pthS hN hy hb
                          have m9 := pthM hb
                          have t9 := pthZ hb
                          have y9 := pthY hb
                          have b9 := pthL hb (k := gS N y - 1) (by omega)
                          have w9 := wS_next hN hy hb (k := gS N y - 1) (by omega)
                          rw [show gS N y - 1 + 1 = gS N y by omega] at w9
                          have z0 : SQ 0 = hS_ N y := hs.1
                          have z1 : SQ 1 = leS N y := hs.2.1
                          have z2 : SQ 2 = tS N y := hs.2.2
                          have z3 : EQ 0 = crS N y := he.1
                          have z4 : EQ 1 = trS N y := he.2.1
                          have z5 : EQ 2 = e2S N y (gS N y) := he.2.2
                          have z6 : dp = max 0 (deS N y) := hdp.1
                          refine lv_aload_n S.1 S.2.1 dL_isPath_526 rfl (lv_at hl 0 rfl) ?_
                          refine lv_iload_n S.1 S.2.1 dL_isPath_527 rfl (lv_at hl 1 rfl) ?_
                          refine g_iconst S dL_isPath_528 ?_
                          refine g_invV (As := [.int (iI y), .int (iI 2)]) (rest := []) (gs' := (fun u : RU × (Int → Int) => [gRLC K ad, gScn K (ad 3) (ad 14) (ad 15) (ad 16) (ad 17) ou mi bo ln LF sn SF, gRayU K (ad 7) (ad 23) (ad 24) (ad 25) (ad 26) (ad 3) u.1 u.2, gPthV K (ad 8) (ad 27) (ad 35) (ad 28) (ad 29) (ad 30) (ad 31) (ad 32) (ad 33) (ad 34) pvk, gRayU K (ad 35) (ad 36) (ad 37) (ad 38) (ad 39) psk prk pXk, gArr K 3 nw168 SQ, gArr K 7 nw174 EQ])) S C hG [0, 1, 2] (c_X8_path l K ad ou mi bo ln LF sn SF N (ad 3) rv2_10 X2_10 y 2 hS hN (by omega) hy (by omega)) rfl rfl 0 rfl rfl (cwV 2 S.2.2.2.2 gL_isPath_X8_path rfl rfl rfl (by decide +kernel) ⟨Nat.le_of_ble_eq_true rfl, Nat.le_of_ble_eq_true rfl⟩) rfl hl.1 rfl (Nat.le_of_ble_eq_true rfl) dL_isPath_529 ⟨Nat.le_of_ble_eq_true rfl, Nat.le_of_ble_eq_true rfl⟩ (fun _ => Nat.le_of_ble_eq_true rfl) (fun _ => rfl) (fun v u H locs hp hG => ?_)
                          obtain ⟨rv2_529, X2_529⟩ := u
                          obtain ⟨rfl, hr_529⟩ := hp
                          have hr_529 : ResU N (sP N y) (sY N y) (sD N y) rv2_529 := hr_529
                          have hG : gW K A s.heap [gRLC K ad, gScn K (ad 3) (ad 14) (ad 15) (ad 16) (ad 17) ou mi bo ln LF sn SF, gRayU K (ad 7) (ad 23) (ad 24) (ad 25) (ad 26) (ad 3) rv2_529 X2_529, gPthV K (ad 8) (ad 27) (ad 35) (ad 28) (ad 29) (ad 30) (ad 31) (ad 32) (ad 33) (ad 34) pvk, gRayU K (ad 35) (ad 36) (ad 37) (ad 38) (ad 39) psk prk pXk, gArr K 3 nw168 SQ, gArr K 7 nw174 EQ] _ _ := hG
                          refine g_top (w := .int (iI (hS_ N y))) (congrArg (fun z : Int => Value.int (iI z)) (by first | rfl | exact if_neg (by decide))) ?_
                          refine lv_aload S.1 S.2.1 dL_isPath_532 (lv_at hl 6 rfl) ?_
                          refine g_iconst S dL_isPath_534 ?_
                          refine g_iald S C hG 25 rfl (by omega) (by omega) (by omega) dL_isPath_535 ?_
                          refine g_icmp_ne (tgt := 616) S dL_isPath_536 (by decide) (by omega) (by omega) (fun q536 => ?_) (fun q536 => ?_)
                          · skip
                            omega
                          · skip
                            refine lv_aload_n S.1 S.2.1 dL_isPath_539 rfl (lv_at hl 0 rfl) ?_
                            refine lv_iload_n S.1 S.2.1 dL_isPath_540 rfl (lv_at hl 1 rfl) ?_
                            refine g_iconst S dL_isPath_541 ?_
                            refine g_invV (As := [.int (iI y), .int (iI 3)]) (rest := []) (gs' := (fun u : RU × (Int → Int) => [gRLC K ad, gScn K (ad 3) (ad 14) (ad 15) (ad 16) (ad 17) ou mi bo ln LF sn SF, gRayU K (ad 7) (ad 23) (ad 24) (ad 25) (ad 26) (ad 3) u.1 u.2, gPthV K (ad 8) (ad 27) (ad 35) (ad 28) (ad 29) (ad 30) (ad 31) (ad 32) (ad 33) (ad 34) pvk, gRayU K (ad 35) (ad 36) (ad 37) (ad 38) (ad 39) psk prk pXk, gArr K 3 nw168 SQ, gArr K 7 nw174 EQ])) S C hG [0, 1, 2] (c_X8_path l K ad ou mi bo ln LF sn SF N (ad 3) rv2_529 X2_529 y 3 hS hN (by omega) hy (by omega)) rfl rfl 0 rfl rfl (cwV 2 S.2.2.2.2 gL_isPath_X8_path rfl rfl rfl (by decide +kernel) ⟨Nat.le_of_ble_eq_true rfl, Nat.le_of_ble_eq_true rfl⟩) rfl hl.1 rfl (Nat.le_of_ble_eq_true rfl) dL_isPath_542 ⟨Nat.le_of_ble_eq_true rfl, Nat.le_of_ble_eq_true rfl⟩ (fun _ => Nat.le_of_ble_eq_true rfl) (fun _ => rfl) (fun v u H locs hp hG => ?_)
                            obtain ⟨rv2_542, X2_542⟩ := u
                            obtain ⟨rfl, hr_542⟩ := hp
                            have hr_542 : ResU N (sP N y) (sY N y) (sD N y) rv2_542 := hr_542
                            have hG : gW K A s.heap [gRLC K ad, gScn K (ad 3) (ad 14) (ad 15) (ad 16) (ad 17) ou mi bo ln LF sn SF, gRayU K (ad 7) (ad 23) (ad 24) (ad 25) (ad 26) (ad 3) rv2_542 X2_542, gPthV K (ad 8) (ad 27) (ad 35) (ad 28) (ad 29) (ad 30) (ad 31) (ad 32) (ad 33) (ad 34) pvk, gRayU K (ad 35) (ad 36) (ad 37) (ad 38) (ad 39) psk prk pXk, gArr K 3 nw168 SQ, gArr K 7 nw174 EQ] _ _ := hG
                            refine g_top (w := .int (iI (leS N y))) (congrArg (fun z : Int => Value.int (iI z)) (by first | rfl | exact if_neg (by decide))) ?_
                            refine lv_aload S.1 S.2.1 dL_isPath_545 (lv_at hl 6 rfl) ?_
                            refine g_iconst S dL_isPath_547 ?_
                            refine g_iald S C hG 25 rfl (by omega) (by omega) (by omega) dL_isPath_548 ?_
                            refine g_icmp_ne (tgt := 616) S dL_isPath_549 (by decide) (by omega) (by omega) (fun q549 => ?_) (fun q549 => ?_)
                            · skip
                              omega
                            · skip
                              refine lv_aload_n S.1 S.2.1 dL_isPath_552 rfl (lv_at hl 0 rfl) ?_
                              refine lv_iload_n S.1 S.2.1 dL_isPath_553 rfl (lv_at hl 1 rfl) ?_
                              refine g_iconst S dL_isPath_554 ?_
                              refine g_invV (As := [.int (iI y), .int (iI 4)]) (rest := []) (gs' := (fun u : RU × (Int → Int) => [gRLC K ad, gScn K (ad 3) (ad 14) (ad 15) (ad 16) (ad 17) ou mi bo ln LF sn SF, gRayU K (ad 7) (ad 23) (ad 24) (ad 25) (ad 26) (ad 3) u.1 u.2, gPthV K (ad 8) (ad 27) (ad 35) (ad 28) (ad 29) (ad 30) (ad 31) (ad 32) (ad 33) (ad 34) pvk, gRayU K (ad 35) (ad 36) (ad 37) (ad 38) (ad 39) psk prk pXk, gArr K 3 nw168 SQ, gArr K 7 nw174 EQ])) S C hG [0, 1, 2] (c_X8_path l K ad ou mi bo ln LF sn SF N (ad 3) rv2_542 X2_542 y 4 hS hN (by omega) hy (by omega)) rfl rfl 0 rfl rfl (cwV 2 S.2.2.2.2 gL_isPath_X8_path rfl rfl rfl (by decide +kernel) ⟨Nat.le_of_ble_eq_true rfl, Nat.le_of_ble_eq_true rfl⟩) rfl hl.1 rfl (Nat.le_of_ble_eq_true rfl) dL_isPath_555 ⟨Nat.le_of_ble_eq_true rfl, Nat.le_of_ble_eq_true rfl⟩ (fun _ => Nat.le_of_ble_eq_true rfl) (fun _ => rfl) (fun v u H locs hp hG => ?_)
                              obtain ⟨rv2_555, X2_555⟩ := u
                              obtain ⟨rfl, hr_555⟩ := hp
                              have hr_555 : ResU N (sP N y) (sY N y) (sD N y) rv2_555 := hr_555
                              have hG : gW K A s.heap [gRLC K ad, gScn K (ad 3) (ad 14) (ad 15) (ad 16) (ad 17) ou mi bo ln LF sn SF, gRayU K (ad 7) (ad 23) (ad 24) (ad 25) (ad 26) (ad 3) rv2_555 X2_555, gPthV K (ad 8) (ad 27) (ad 35) (ad 28) (ad 29) (ad 30) (ad 31) (ad 32) (ad 33) (ad 34) pvk, gRayU K (ad 35) (ad 36) (ad 37) (ad 38) (ad 39) psk prk pXk, gArr K 3 nw168 SQ, gArr K 7 nw174 EQ] _ _ := hG
                              refine g_top (w := .int (iI (tS N y))) (congrArg (fun z : Int => Value.int (iI z)) (by first | rfl | exact if_neg (by decide))) ?_
                              refine lv_aload S.1 S.2.1 dL_isPath_558 (lv_at hl 6 rfl) ?_
                              refine g_iconst S dL_isPath_560 ?_
                              refine g_iald S C hG 25 rfl (by omega) (by omega) (by omega) dL_isPath_561 ?_
                              refine g_icmp_ne (tgt := 616) S dL_isPath_562 (by decide) (by omega) (by omega) (fun q562 => ?_) (fun q562 => ?_)
                              · skip
                                omega
                              · skip
                                refine lv_aload_n S.1 S.2.1 dL_isPath_565 rfl (lv_at hl 0 rfl) ?_
                                refine lv_iload_n S.1 S.2.1 dL_isPath_566 rfl (lv_at hl 1 rfl) ?_
                                refine g_bipush S dL_isPath_567 (by decide) ?_
                                refine g_invV (As := [.int (iI y), .int (iI 9)]) (rest := []) (gs' := (fun u : RU × (Int → Int) => [gRLC K ad, gScn K (ad 3) (ad 14) (ad 15) (ad 16) (ad 17) ou mi bo ln LF sn SF, gRayU K (ad 7) (ad 23) (ad 24) (ad 25) (ad 26) (ad 3) u.1 u.2, gPthV K (ad 8) (ad 27) (ad 35) (ad 28) (ad 29) (ad 30) (ad 31) (ad 32) (ad 33) (ad 34) pvk, gRayU K (ad 35) (ad 36) (ad 37) (ad 38) (ad 39) psk prk pXk, gArr K 3 nw168 SQ, gArr K 7 nw174 EQ])) S C hG [0, 1, 2] (c_X8_path l K ad ou mi bo ln LF sn SF N (ad 3) rv2_555 X2_555 y 9 hS hN (by omega) hy (by omega)) rfl rfl 0 rfl rfl (cwV 2 S.2.2.2.2 gL_isPath_X8_path rfl rfl rfl (by decide +kernel) ⟨Nat.le_of_ble_eq_true rfl, Nat.le_of_ble_eq_true rfl⟩) rfl hl.1 rfl (Nat.le_of_ble_eq_true rfl) dL_isPath_569 ⟨Nat.le_of_ble_eq_true rfl, Nat.le_of_ble_eq_true rfl⟩ (fun _ => Nat.le_of_ble_eq_true rfl) (fun _ => rfl) (fun v u H locs hp hG => ?_)
                                obtain ⟨rv2_569, X2_569⟩ := u
                                obtain ⟨rfl, hr_569⟩ := hp
                                have hr_569 : ResU N (sP N y) (sY N y) (sD N y) rv2_569 := hr_569
                                have hG : gW K A s.heap [gRLC K ad, gScn K (ad 3) (ad 14) (ad 15) (ad 16) (ad 17) ou mi bo ln LF sn SF, gRayU K (ad 7) (ad 23) (ad 24) (ad 25) (ad 26) (ad 3) rv2_569 X2_569, gPthV K (ad 8) (ad 27) (ad 35) (ad 28) (ad 29) (ad 30) (ad 31) (ad 32) (ad 33) (ad 34) pvk, gRayU K (ad 35) (ad 36) (ad 37) (ad 38) (ad 39) psk prk pXk, gArr K 3 nw168 SQ, gArr K 7 nw174 EQ] _ _ := hG
                                refine g_top (w := .int (iI (deS N y))) (congrArg (fun z : Int => Value.int (iI z)) (by first | rfl | exact if_neg (by decide))) ?_
                                refine lv_iload S.1 S.2.1 dL_isPath_572 (lv_at hl 8 rfl) ?_
                                refine g_icmp_ne (tgt := 616) S dL_isPath_574 (by decide) (by omega) (by omega) (fun q574 => ?_) (fun q574 => ?_)
                                · skip
                                  omega
                                · skip
                                  refine lv_aload_n S.1 S.2.1 dL_isPath_577 rfl (lv_at hl 0 rfl) ?_
                                  refine lv_iload_n S.1 S.2.1 dL_isPath_578 rfl (lv_at hl 1 rfl) ?_
                                  refine g_bipush S dL_isPath_579 (by decide) ?_
                                  refine g_invV (As := [.int (iI y), .int (iI 6)]) (rest := []) (gs' := (fun u : RU × (Int → Int) => [gRLC K ad, gScn K (ad 3) (ad 14) (ad 15) (ad 16) (ad 17) ou mi bo ln LF sn SF, gRayU K (ad 7) (ad 23) (ad 24) (ad 25) (ad 26) (ad 3) u.1 u.2, gPthV K (ad 8) (ad 27) (ad 35) (ad 28) (ad 29) (ad 30) (ad 31) (ad 32) (ad 33) (ad 34) pvk, gRayU K (ad 35) (ad 36) (ad 37) (ad 38) (ad 39) psk prk pXk, gArr K 3 nw168 SQ, gArr K 7 nw174 EQ])) S C hG [0, 1, 2] (c_X8_path l K ad ou mi bo ln LF sn SF N (ad 3) rv2_569 X2_569 y 6 hS hN (by omega) hy (by omega)) rfl rfl 0 rfl rfl (cwV 2 S.2.2.2.2 gL_isPath_X8_path rfl rfl rfl (by decide +kernel) ⟨Nat.le_of_ble_eq_true rfl, Nat.le_of_ble_eq_true rfl⟩) rfl hl.1 rfl (Nat.le_of_ble_eq_true rfl) dL_isPath_581 ⟨Nat.le_of_ble_eq_true rfl, Nat.le_of_ble_eq_true rfl⟩ (fun _ => Nat.le_of_ble_eq_true rfl) (fun _ => rfl) (fun v u H locs hp hG => ?_)
                                  obtain ⟨rv2_581, X2_581⟩ := u
                                  obtain ⟨rfl, hr_581⟩ := hp
                                  have hr_581 : ResU N (sP N y) (sY N y) (sD N y) rv2_581 := hr_581
                                  have hG : gW K A s.heap [gRLC K ad, gScn K (ad 3) (ad 14) (ad 15) (ad 16) (ad 17) ou mi bo ln LF sn SF, gRayU K (ad 7) (ad 23) (ad 24) (ad 25) (ad 26) (ad 3) rv2_581 X2_581, gPthV K (ad 8) (ad 27) (ad 35) (ad 28) (ad 29) (ad 30) (ad 31) (ad 32) (ad 33) (ad 34) pvk, gRayU K (ad 35) (ad 36) (ad 37) (ad 38) (ad 39) psk prk pXk, gArr K 3 nw168 SQ, gArr K 7 nw174 EQ] _ _ := hG
                                  refine g_top (w := .int (iI (trS N y))) (congrArg (fun z : Int => Value.int (iI z)) (by first | rfl | exact if_neg (by decide))) ?_
                                  refine lv_aload S.1 S.2.1 dL_isPath_584 (lv_at hl 7 rfl) ?_
                                  refine g_iconst S dL_isPath_586 ?_
                                  refine g_iald S C hG 26 rfl (by omega) (by omega) (by omega) dL_isPath_587 ?_
                                  refine g_icmp_ne (tgt := 616) S dL_isPath_588 (by decide) (by omega) (by omega) (fun q588 => ?_) (fun q588 => ?_)
                                  · skip
                                    omega
                                  · skip
                                    refine lv_aload_n S.1 S.2.1 dL_isPath_591 rfl (lv_at hl 0 rfl) ?_
                                    refine lv_iload_n S.1 S.2.1 dL_isPath_592 rfl (lv_at hl 1 rfl) ?_
                                    refine g_bipush S dL_isPath_593 (by decide) ?_
                                    refine g_invV (As := [.int (iI y), .int (iI 8)]) (rest := []) (gs' := (fun u : RU × (Int → Int) => [gRLC K ad, gScn K (ad 3) (ad 14) (ad 15) (ad 16) (ad 17) ou mi bo ln LF sn SF, gRayU K (ad 7) (ad 23) (ad 24) (ad 25) (ad 26) (ad 3) u.1 u.2, gPthV K (ad 8) (ad 27) (ad 35) (ad 28) (ad 29) (ad 30) (ad 31) (ad 32) (ad 33) (ad 34) pvk, gRayU K (ad 35) (ad 36) (ad 37) (ad 38) (ad 39) psk prk pXk, gArr K 3 nw168 SQ, gArr K 7 nw174 EQ])) S C hG [0, 1, 2] (c_X8_path l K ad ou mi bo ln LF sn SF N (ad 3) rv2_581 X2_581 y 8 hS hN (by omega) hy (by omega)) rfl rfl 0 rfl rfl (cwV 2 S.2.2.2.2 gL_isPath_X8_path rfl rfl rfl (by decide +kernel) ⟨Nat.le_of_ble_eq_true rfl, Nat.le_of_ble_eq_true rfl⟩) rfl hl.1 rfl (Nat.le_of_ble_eq_true rfl) dL_isPath_595 ⟨Nat.le_of_ble_eq_true rfl, Nat.le_of_ble_eq_true rfl⟩ (fun _ => Nat.le_of_ble_eq_true rfl) (fun _ => rfl) (fun v u H locs hp hG => ?_)
                                    obtain ⟨rv2_595, X2_595⟩ := u
                                    obtain ⟨rfl, hr_595⟩ := hp
                                    have hr_595 : ResU N (sP N y) (sY N y) (sD N y) rv2_595 := hr_595
                                    have hG : gW K A s.heap [gRLC K ad, gScn K (ad 3) (ad 14) (ad 15) (ad 16) (ad 17) ou mi bo ln LF sn SF, gRayU K (ad 7) (ad 23) (ad 24) (ad 25) (ad 26) (ad 3) rv2_595 X2_595, gPthV K (ad 8) (ad 27) (ad 35) (ad 28) (ad 29) (ad 30) (ad 31) (ad 32) (ad 33) (ad 34) pvk, gRayU K (ad 35) (ad 36) (ad 37) (ad 38) (ad 39) psk prk pXk, gArr K 3 nw168 SQ, gArr K 7 nw174 EQ] _ _ := hG
                                    refine g_top (w := .int (iI (crS N y))) (congrArg (fun z : Int => Value.int (iI z)) (by first | rfl | exact if_neg (by decide))) ?_
                                    refine lv_aload S.1 S.2.1 dL_isPath_598 (lv_at hl 7 rfl) ?_
                                    refine g_iconst S dL_isPath_600 ?_
                                    refine g_iald S C hG 26 rfl (by omega) (by omega) (by omega) dL_isPath_601 ?_
                                    refine g_icmp_ne (tgt := 616) S dL_isPath_602 (by decide) (by omega) (by omega) (fun q602 => ?_) (fun q602 => ?_)
                                    · skip
                                      omega
                                    · skip
                                      refine lv_aload_n S.1 S.2.1 dL_isPath_605 rfl (lv_at hl 0 rfl) ?_
                                      refine lv_iload_n S.1 S.2.1 dL_isPath_606 rfl (lv_at hl 1 rfl) ?_
                                      refine g_iconst S dL_isPath_607 ?_
                                      refine g_invV (As := [.int (iI y), .int (iI 5)]) (rest := []) (gs' := (fun u : RU × (Int → Int) => [gRLC K ad, gScn K (ad 3) (ad 14) (ad 15) (ad 16) (ad 17) ou mi bo ln LF sn SF, gRayU K (ad 7) (ad 23) (ad 24) (ad 25) (ad 26) (ad 3) u.1 u.2, gPthV K (ad 8) (ad 27) (ad 35) (ad 28) (ad 29) (ad 30) (ad 31) (ad 32) (ad 33) (ad 34) pvk, gRayU K (ad 35) (ad 36) (ad 37) (ad 38) (ad 39) psk prk pXk, gArr K 3 nw168 SQ, gArr K 7 nw174 EQ])) S C hG [0, 1, 2] (c_X8_path l K ad ou mi bo ln LF sn SF N (ad 3) rv2_595 X2_595 y 5 hS hN (by omega) hy (by omega)) rfl rfl 0 rfl rfl (cwV 2 S.2.2.2.2 gL_isPath_X8_path rfl rfl rfl (by decide +kernel) ⟨Nat.le_of_ble_eq_true rfl, Nat.le_of_ble_eq_true rfl⟩) rfl hl.1 rfl (Nat.le_of_ble_eq_true rfl) dL_isPath_608 ⟨Nat.le_of_ble_eq_true rfl, Nat.le_of_ble_eq_true rfl⟩ (fun _ => Nat.le_of_ble_eq_true rfl) (fun _ => rfl) (fun v u H locs hp hG => ?_)
                                      obtain ⟨rv2_608, X2_608⟩ := u
                                      obtain ⟨rfl, hr_608⟩ := hp
                                      have hr_608 : ResU N (sP N y) (sY N y) (sD N y) rv2_608 := hr_608
                                      have hG : gW K A s.heap [gRLC K ad, gScn K (ad 3) (ad 14) (ad 15) (ad 16) (ad 17) ou mi bo ln LF sn SF, gRayU K (ad 7) (ad 23) (ad 24) (ad 25) (ad 26) (ad 3) rv2_608 X2_608, gPthV K (ad 8) (ad 27) (ad 35) (ad 28) (ad 29) (ad 30) (ad 31) (ad 32) (ad 33) (ad 34) pvk, gRayU K (ad 35) (ad 36) (ad 37) (ad 38) (ad 39) psk prk pXk, gArr K 3 nw168 SQ, gArr K 7 nw174 EQ] _ _ := hG
                                      refine g_top (w := .int (iI (pS N y))) (congrArg (fun z : Int => Value.int (iI z)) (by first | rfl | exact if_neg (by decide))) ?_
                                      refine lv_iload S.1 S.2.1 dL_isPath_611 (lv_at hl 9 rfl) ?_
                                      refine g_icmp_le (tgt := 618) S dL_isPath_613 (by decide) (by omega) (by omega) (fun q613 => ?_) (fun q613 => ?_)
                                      · skip
                                        refine lv_aload_n S.1 S.2.1 dL_isPath_618 rfl (lv_at hl 0 rfl) ?_
                                        refine lv_iload_n S.1 S.2.1 dL_isPath_619 rfl (lv_at hl 1 rfl) ?_
                                        refine lv_iload_n S.1 S.2.1 dL_isPath_620 rfl (lv_at hl 2 rfl) ?_
                                        refine g_iconst S dL_isPath_621 ?_
                                        refine g_isub S dL_isPath_622 rfl ?_
                                        refine g_bipush S dL_isPath_623 (by decide) ?_
                                        refine g_invV (As := [.int (iI y), .int (iI ((gS N y : Int) - 1)), .int (iI 6)]) (rest := []) (gs' := (fun u : Int × PV × RU × (Int → Int) => [gRLC K ad, gScn K (ad 3) (ad 14) (ad 15) (ad 16) (ad 17) ou mi bo ln LF sn SF, gRayU K (ad 7) (ad 23) (ad 24) (ad 25) (ad 26) (ad 3) rv2_608 X2_608, gPthV K (ad 8) (ad 27) (ad 35) (ad 28) (ad 29) (ad 30) (ad 31) (ad 32) (ad 33) (ad 34) u.2.1, gRayU K (ad 35) (ad 36) (ad 37) (ad 38) (ad 39) (ad 3) u.2.2.1 u.2.2.2, gArr K 3 nw168 SQ, gArr K 7 nw174 EQ])) S C hG [0, 3, 4, 1] (c_X8_leg l K ad ou mi bo ln LF sn SF N pvk psk prk pXk y ((gS N y : Int) - 1) 6 hS hN (by omega) hy (by omega) (by omega) (by omega) (by omega)) rfl rfl 0 rfl rfl (cwV 3 S.2.2.2.2 gL_isPath_X8_leg rfl rfl rfl (by decide +kernel) ⟨Nat.le_of_ble_eq_true rfl, Nat.le_of_ble_eq_true rfl⟩) rfl hl.1 rfl (Nat.le_of_ble_eq_true rfl) dL_isPath_625 ⟨Nat.le_of_ble_eq_true rfl, Nat.le_of_ble_eq_true rfl⟩ (fun _ => Nat.le_of_ble_eq_true rfl) (fun _ => rfl) (fun v u H locs hp hG => ?_)
                                        obtain ⟨v9_625, pv2_625, pr2_625, pX2_625⟩ := u
                                        obtain ⟨rfl, hp_625, hw_625⟩ := hp
                                        have hp_625 : PthR N (sP N y) (sY N y) (sD N y) pv2_625 := hp_625
                                        have hw_625 : v9_625 = pick7 6 (pv2_625.2.2.1 ((gS N y : Int) - 1)) (pv2_625.2.2.2.1 ((gS N y : Int) - 1)) (pv2_625.2.2.2.2.1 ((gS N y : Int) - 1)) (pv2_625.2.2.2.2.2.1 ((gS N y : Int) - 1)) (pv2_625.2.2.2.2.2.2.1 ((gS N y : Int) - 1)) (pv2_625.2.2.2.2.2.2.2.1 ((gS N y : Int) - 1)) (pv2_625.2.2.2.2.2.2.2.2 ((gS N y : Int) - 1)) := hw_625
                                        have hG : gW K A s.heap [gRLC K ad, gScn K (ad 3) (ad 14) (ad 15) (ad 16) (ad 17) ou mi bo ln LF sn SF, gRayU K (ad 7) (ad 23) (ad 24) (ad 25) (ad 26) (ad 3) rv2_608 X2_608, gPthV K (ad 8) (ad 27) (ad 35) (ad 28) (ad 29) (ad 30) (ad 31) (ad 32) (ad 33) (ad 34) pv2_625, gRayU K (ad 35) (ad 36) (ad 37) (ad 38) (ad 39) (ad 3) pr2_625 pX2_625, gArr K 3 nw168 SQ, gArr K 7 nw174 EQ] _ _ := hG
                                        refine g_top (w := .int (iI (evS N y (gS N y - 1)))) (congrArg (fun z : Int => Value.int (iI z)) ((legW hp_625 hw_625 (by omega)).trans (by show evS N y ((gS N y : Int) - 1).toNat = _; congr 1; omega))) ?_
                                        refine lv_istore (lv' := [(12, .int (iI (evS N y (gS N y - 1)))), (0, .ref (ad 0)), (1, .int (iI y)), (2, .int (iI (gS N y : Int))), (3, .int (iI (eS N y))), (4, .int (iI (sP N y))), (5, .int (iI 1)), (6, .ref nw168), (7, .ref nw174), (8, .int (iI dp)), (9, .int (iI pw)), (10, .int (iI ly)), (11, .int (iI dn))]) S.1 S.2.1 dL_isPath_628 hl (by decide) rfl (fun ls hl => ?_)
                                        have J665 : ∀ (H : Heap) (locs : List Loc) (ls : Array Slot), lv_has ls 15 [(0, .ref (ad 0)), (1, .int (iI y)), (2, .int (iI (gS N y : Int))), (3, .int (iI (eS N y))), (4, .int (iI (sP N y))), (5, .int (iI 1)), (6, .ref nw168), (7, .ref nw174), (8, .int (iI dp)), (9, .int (iI pw)), (10, .int (iI ly)), (11, .int (iI dn)), (12, .int (iI (evS N y (gS N y - 1))))] → gW K A s.heap [gRLC K ad, gScn K (ad 3) (ad 14) (ad 15) (ad 16) (ad 17) ou mi bo ln LF sn SF, gRayU K (ad 7) (ad 23) (ad 24) (ad 25) (ad 26) (ad 3) rv2_608 X2_608, gPthV K (ad 8) (ad 27) (ad 35) (ad 28) (ad 29) (ad 30) (ad 31) (ad 32) (ad 33) (ad 34) pv2_625, gRayU K (ad 35) (ad 36) (ad 37) (ad 38) (ad 39) (ad 3) pr2_625 pX2_625, gArr K 3 nw168 SQ, gArr K 7 nw174 EQ] H locs → W p l e { frames := 6, cells := 2, slots := 10, locals := 143 } s m ([.ref (ad 0), .int (iI y)] : List Value).toArray below meth c H locs ((0 + 1) + 1) ((0 + 3) + 7) Q (F0 m 665 ls []) := by
                                          intro  H locs ls  hl hG
                                          refine lv_aload_n S.1 S.2.1 dL_isPath_665 rfl (lv_at hl 0 rfl) ?_
                                          refine lv_iload_n S.1 S.2.1 dL_isPath_666 rfl (lv_at hl 1 rfl) ?_
                                          refine g_bipush S dL_isPath_667 (by decide) ?_
                                          refine g_invV (As := [.int (iI y), .int (iI 7)]) (rest := []) (gs' := (fun u : RU × (Int → Int) => [gRLC K ad, gScn K (ad 3) (ad 14) (ad 15) (ad 16) (ad 17) ou mi bo ln LF sn SF, gRayU K (ad 7) (ad 23) (ad 24) (ad 25) (ad 26) (ad 3) u.1 u.2, gPthV K (ad 8) (ad 27) (ad 35) (ad 28) (ad 29) (ad 30) (ad 31) (ad 32) (ad 33) (ad 34) pv2_625, gRayU K (ad 35) (ad 36) (ad 37) (ad 38) (ad 39) (ad 3) pr2_625 pX2_625, gArr K 3 nw168 SQ, gArr K 7 nw174 EQ])) S C hG [0, 1, 2] (c_X8_path l K ad ou mi bo ln LF sn SF N (ad 3) rv2_608 X2_608 y 7 hS hN (by omega) hy (by omega)) rfl rfl 0 rfl rfl (cwV 2 S.2.2.2.2 gL_isPath_X8_path rfl rfl rfl (by decide +kernel) ⟨Nat.le_of_ble_eq_true rfl, Nat.le_of_ble_eq_true rfl⟩) rfl hl.1 rfl (Nat.le_of_ble_eq_true rfl) dL_isPath_669 ⟨Nat.le_of_ble_eq_true rfl, Nat.le_of_ble_eq_true rfl⟩ (fun _ => Nat.le_of_ble_eq_true rfl) (fun _ => rfl) (fun v u H locs hp hG => ?_)
                                          obtain ⟨rv2_669, X2_669⟩ := u
                                          obtain ⟨rfl, hr_669⟩ := hp
                                          have hr_669 : ResU N (sP N y) (sY N y) (sD N y) rv2_669 := hr_669
                                          have hG : gW K A s.heap [gRLC K ad, gScn K (ad 3) (ad 14) (ad 15) (ad 16) (ad 17) ou mi bo ln LF sn SF, gRayU K (ad 7) (ad 23) (ad 24) (ad 25) (ad 26) (ad 3) rv2_669 X2_669, gPthV K (ad 8) (ad 27) (ad 35) (ad 28) (ad 29) (ad 30) (ad 31) (ad 32) (ad 33) (ad 34) pv2_625, gRayU K (ad 35) (ad 36) (ad 37) (ad 38) (ad 39) (ad 3) pr2_625 pX2_625, gArr K 3 nw168 SQ, gArr K 7 nw174 EQ] _ _ := hG
                                          refine g_top (w := .int (iI (mrS N y))) (congrArg (fun z : Int => Value.int (iI z)) (by first | rfl | exact if_neg (by decide))) ?_
                                          refine lv_aload S.1 S.2.1 dL_isPath_672 (lv_at hl 7 rfl) ?_
                                          refine g_iconst S dL_isPath_674 ?_
                                          refine g_iald S C hG 26 rfl (by omega) (by omega) (by omega) dL_isPath_675 ?_
                                          refine g_isub S dL_isPath_676 rfl ?_
                                          refine g_iconst S dL_isPath_677 ?_
                                          refine g_icmp_gt (tgt := 695) S dL_isPath_678 (by decide) (by omega) (by omega) (fun q678 => ?_) (fun q678 => ?_)
                                          · skip
                                            omega
                                          · skip
                                            refine lv_aload_n S.1 S.2.1 dL_isPath_681 rfl (lv_at hl 0 rfl) ?_
                                            refine lv_iload_n S.1 S.2.1 dL_isPath_682 rfl (lv_at hl 1 rfl) ?_
                                            refine g_bipush S dL_isPath_683 (by decide) ?_
                                            refine g_invV (As := [.int (iI y), .int (iI 7)]) (rest := []) (gs' := (fun u : RU × (Int → Int) => [gRLC K ad, gScn K (ad 3) (ad 14) (ad 15) (ad 16) (ad 17) ou mi bo ln LF sn SF, gRayU K (ad 7) (ad 23) (ad 24) (ad 25) (ad 26) (ad 3) u.1 u.2, gPthV K (ad 8) (ad 27) (ad 35) (ad 28) (ad 29) (ad 30) (ad 31) (ad 32) (ad 33) (ad 34) pv2_625, gRayU K (ad 35) (ad 36) (ad 37) (ad 38) (ad 39) (ad 3) pr2_625 pX2_625, gArr K 3 nw168 SQ, gArr K 7 nw174 EQ])) S C hG [0, 1, 2] (c_X8_path l K ad ou mi bo ln LF sn SF N (ad 3) rv2_669 X2_669 y 7 hS hN (by omega) hy (by omega)) rfl rfl 0 rfl rfl (cwV 2 S.2.2.2.2 gL_isPath_X8_path rfl rfl rfl (by decide +kernel) ⟨Nat.le_of_ble_eq_true rfl, Nat.le_of_ble_eq_true rfl⟩) rfl hl.1 rfl (Nat.le_of_ble_eq_true rfl) dL_isPath_685 ⟨Nat.le_of_ble_eq_true rfl, Nat.le_of_ble_eq_true rfl⟩ (fun _ => Nat.le_of_ble_eq_true rfl) (fun _ => rfl) (fun v u H locs hp hG => ?_)
                                            obtain ⟨rv2_685, X2_685⟩ := u
                                            obtain ⟨rfl, hr_685⟩ := hp
                                            have hr_685 : ResU N (sP N y) (sY N y) (sD N y) rv2_685 := hr_685
                                            have hG : gW K A s.heap [gRLC K ad, gScn K (ad 3) (ad 14) (ad 15) (ad 16) (ad 17) ou mi bo ln LF sn SF, gRayU K (ad 7) (ad 23) (ad 24) (ad 25) (ad 26) (ad 3) rv2_685 X2_685, gPthV K (ad 8) (ad 27) (ad 35) (ad 28) (ad 29) (ad 30) (ad 31) (ad 32) (ad 33) (ad 34) pv2_625, gRayU K (ad 35) (ad 36) (ad 37) (ad 38) (ad 39) (ad 3) pr2_625 pX2_625, gArr K 3 nw168 SQ, gArr K 7 nw174 EQ] _ _ := hG
                                            refine g_top (w := .int (iI (mrS N y))) (congrArg (fun z : Int => Value.int (iI z)) (by first | rfl | exact if_neg (by decide))) ?_
                                            refine lv_aload S.1 S.2.1 dL_isPath_688 (lv_at hl 7 rfl) ?_
                                            refine g_iconst S dL_isPath_690 ?_
                                            refine g_iald S C hG 26 rfl (by omega) (by omega) (by omega) dL_isPath_691 ?_
                                            refine g_icmp_ge (tgt := 697) S dL_isPath_692 (by decide) (by omega) (by omega) (fun q692 => ?_) (fun q692 => ?_)
                                            · skip
                                              refine lv_aload_n S.1 S.2.1 dL_isPath_697 rfl (lv_at hl 0 rfl) ?_
                                              refine lv_iload_n S.1 S.2.1 dL_isPath_698 rfl (lv_at hl 1 rfl) ?_
                                              refine g_invV (As := [.int (iI y)]) (rest := []) (gs' := (fun u : RU × (Int → Int) => [gRLC K ad, gScn K (ad 3) (ad 14) (ad 15) (ad 16) (ad 17) ou mi bo ln LF sn SF, gRayU K (ad 7) (ad 23) (ad 24) (ad 25) (ad 26) (ad 3) u.1 u.2, gPthV K (ad 8) (ad 27) (ad 35) (ad 28) (ad 29) (ad 30) (ad 31) (ad 32) (ad 33) (ad 34) pv2_625, gRayU K (ad 35) (ad 36) (ad 37) (ad 38) (ad 39) (ad 3) pr2_625 pX2_625, gArr K 3 nw168 SQ, gArr K 7 nw174 EQ])) S C hG [0, 1, 2] (c_X8_share l K ad ou mi bo ln LF sn SF N (ad 3) rv2_685 X2_685 y hS hN (by omega) hy) rfl rfl 0 rfl rfl (cwV 1 S.2.2.2.2 gL_isPath_X8_share rfl rfl rfl (by decide +kernel) ⟨Nat.le_of_ble_eq_true rfl, Nat.le_of_ble_eq_true rfl⟩) rfl hl.1 rfl (Nat.le_of_ble_eq_true rfl) dL_isPath_699 ⟨Nat.le_of_ble_eq_true rfl, Nat.le_of_ble_eq_true rfl⟩ (fun _ => Nat.le_of_ble_eq_true rfl) (fun _ => rfl) (fun v u H locs hp hG => ?_)
                                              obtain ⟨rv2_699, X2_699⟩ := u
                                              subst hp
                                              have hG : gW K A s.heap [gRLC K ad, gScn K (ad 3) (ad 14) (ad 15) (ad 16) (ad 17) ou mi bo ln LF sn SF, gRayU K (ad 7) (ad 23) (ad 24) (ad 25) (ad 26) (ad 3) rv2_699 X2_699, gPthV K (ad 8) (ad 27) (ad 35) (ad 28) (ad 29) (ad 30) (ad 31) (ad 32) (ad 33) (ad 34) pv2_625, gRayU K (ad 35) (ad 36) (ad 37) (ad 38) (ad 39) (ad 3) pr2_625 pX2_625, gArr K 3 nw168 SQ, gArr K 7 nw174 EQ] _ _ := hG
                                              refine lv_aload_n S.1 S.2.1 dL_isPath_702 rfl (lv_at hl 0 rfl) ?_
                                              refine lv_iload_n S.1 S.2.1 dL_isPath_703 rfl (lv_at hl 1 rfl) ?_
                                              refine g_iconst S dL_isPath_704 ?_
                                              refine g_invV (As := [.int (iI y), .int (iI 5)]) (rest := [.float (FP.fdiv (FP.i2f (iI (pS N y))) 1232348160)]) (gs' := (fun u : RU × (Int → Int) => [gRLC K ad, gScn K (ad 3) (ad 14) (ad 15) (ad 16) (ad 17) ou mi bo ln LF sn SF, gRayU K (ad 7) (ad 23) (ad 24) (ad 25) (ad 26) (ad 3) u.1 u.2, gPthV K (ad 8) (ad 27) (ad 35) (ad 28) (ad 29) (ad 30) (ad 31) (ad 32) (ad 33) (ad 34) pv2_625, gRayU K (ad 35) (ad 36) (ad 37) (ad 38) (ad 39) (ad 3) pr2_625 pX2_625, gArr K 3 nw168 SQ, gArr K 7 nw174 EQ])) S C hG [0, 1, 2] (c_X8_path l K ad ou mi bo ln LF sn SF N (ad 3) rv2_699 X2_699 y 5 hS hN (by omega) hy (by omega)) rfl rfl 0 rfl rfl (cwV 2 S.2.2.2.2 gL_isPath_X8_path rfl rfl rfl (by decide +kernel) ⟨Nat.le_of_ble_eq_true rfl, Nat.le_of_ble_eq_true rfl⟩) rfl hl.1 rfl (Nat.le_of_ble_eq_true rfl) dL_isPath_705 ⟨Nat.le_of_ble_eq_true rfl, Nat.le_of_ble_eq_true rfl⟩ (fun _ => Nat.le_of_ble_eq_true rfl) (fun _ => rfl) (fun v u H locs hp hG => ?_)
                                              obtain ⟨rv2_705, X2_705⟩ := u
                                              obtain ⟨rfl, hr_705⟩ := hp
                                              have hr_705 : ResU N (sP N y) (sY N y) (sD N y) rv2_705 := hr_705
                                              have hG : gW K A s.heap [gRLC K ad, gScn K (ad 3) (ad 14) (ad 15) (ad 16) (ad 17) ou mi bo ln LF sn SF, gRayU K (ad 7) (ad 23) (ad 24) (ad 25) (ad 26) (ad 3) rv2_705 X2_705, gPthV K (ad 8) (ad 27) (ad 35) (ad 28) (ad 29) (ad 30) (ad 31) (ad 32) (ad 33) (ad 34) pv2_625, gRayU K (ad 35) (ad 36) (ad 37) (ad 38) (ad 39) (ad 3) pr2_625 pX2_625, gArr K 3 nw168 SQ, gArr K 7 nw174 EQ] _ _ := hG
                                              refine g_top (w := .int (iI (pS N y))) (congrArg (fun z : Int => Value.int (iI z)) (by first | rfl | exact if_neg (by decide))) ?_
                                              refine lv_i2f S.1 S.2.1 dL_isPath_708 ?_
                                              refine lv_ldcf (v := 1232348160) S.1 S.2.1 S.2.2.2.1 (S.2.2.2.2 _ (List.mem_of_getElem? (i := 10) rfl)) dL_isPath_709 ?_
                                              refine lv_fdiv S.1 S.2.1 dL_isPath_711 (nn32 (shr_nn _)) ?_
                                              refine lv_fcmp S.1 S.2.1 dL_isPath_712 ?_
                                              refine g_top (w := .int (iI 0)) (fc_self _ _) ?_
                                              refine g_if_ne (tgt := 785) S dL_isPath_713 (by decide) (by omega) (fun q713 => ?_) (fun q713 => ?_)
                                              · skip
                                                exact absurd q713 (by decide)
                                              · skip
                                                refine lv_aload_n S.1 S.2.1 dL_isPath_716 rfl (lv_at hl 0 rfl) ?_
                                                refine lv_aload_n S.1 S.2.1 dL_isPath_717 rfl (lv_at hl 0 rfl) ?_
                                                refine lv_iload_n S.1 S.2.1 dL_isPath_718 rfl (lv_at hl 1 rfl) ?_
                                                refine g_iconst S dL_isPath_719 ?_
                                                refine g_invV (As := [.int (iI y), .int (iI 0)]) (rest := [.ref (ad 0)]) (gs' := (fun u : Unit => [gRLC K ad, gScn K (ad 3) (ad 14) (ad 15) (ad 16) (ad 17) ou mi bo ln LF sn SF, gRayU K (ad 7) (ad 23) (ad 24) (ad 25) (ad 26) (ad 3) rv2_705 X2_705, gPthV K (ad 8) (ad 27) (ad 35) (ad 28) (ad 29) (ad 30) (ad 31) (ad 32) (ad 33) (ad 34) pv2_625, gRayU K (ad 35) (ad 36) (ad 37) (ad 38) (ad 39) (ad 3) pr2_625 pX2_625, gArr K 3 nw168 SQ, gArr K 7 nw174 EQ])) S C hG [0, 1] (c_X8_shot l K ad ou mi bo ln LF sn SF N y 0 hS hN (by omega) (by omega) hy (by omega)) rfl rfl 0 rfl rfl (cwV 2 S.2.2.2.2 gL_isPath_X8_shot rfl rfl rfl (by decide +kernel) ⟨Nat.le_of_ble_eq_true rfl, Nat.le_of_ble_eq_true rfl⟩) rfl hl.1 rfl (Nat.le_of_ble_eq_true rfl) dL_isPath_720 ⟨Nat.le_of_ble_eq_true rfl, Nat.le_of_ble_eq_true rfl⟩ (fun _ => Nat.le_of_ble_eq_true rfl) (fun _ => rfl) (fun v u H locs hp hG => ?_)
                                                subst hp
                                                refine g_top (w := .int (iI (sY N y))) (congrArg (fun z : Int => Value.int (iI z)) (by first | rfl | exact if_neg (by decide))) ?_
                                                refine lv_aload_n S.1 S.2.1 dL_isPath_723 rfl (lv_at hl 0 rfl) ?_
                                                refine lv_iload_n S.1 S.2.1 dL_isPath_724 rfl (lv_at hl 1 rfl) ?_
                                                refine g_iconst S dL_isPath_725 ?_
                                                refine g_invV (As := [.int (iI y), .int (iI 1)]) (rest := [.int (iI (sY N y)), .ref (ad 0)]) (gs' := (fun u : Unit => [gRLC K ad, gScn K (ad 3) (ad 14) (ad 15) (ad 16) (ad 17) ou mi bo ln LF sn SF, gRayU K (ad 7) (ad 23) (ad 24) (ad 25) (ad 26) (ad 3) rv2_705 X2_705, gPthV K (ad 8) (ad 27) (ad 35) (ad 28) (ad 29) (ad 30) (ad 31) (ad 32) (ad 33) (ad 34) pv2_625, gRayU K (ad 35) (ad 36) (ad 37) (ad 38) (ad 39) (ad 3) pr2_625 pX2_625, gArr K 3 nw168 SQ, gArr K 7 nw174 EQ])) S C hG [0, 1] (c_X8_shot l K ad ou mi bo ln LF sn SF N y 1 hS hN (by omega) (by omega) hy (by omega)) rfl rfl 0 rfl rfl (cwV 2 S.2.2.2.2 gL_isPath_X8_shot rfl rfl rfl (by decide +kernel) ⟨Nat.le_of_ble_eq_true rfl, Nat.le_of_ble_eq_true rfl⟩) rfl hl.1 rfl (Nat.le_of_ble_eq_true rfl) dL_isPath_726 ⟨Nat.le_of_ble_eq_true rfl, Nat.le_of_ble_eq_true rfl⟩ (fun _ => Nat.le_of_ble_eq_true rfl) (fun _ => rfl) (fun v u H locs hp hG => ?_)
                                                subst hp
                                                refine g_top (w := .int (iI (sD N y))) (congrArg (fun z : Int => Value.int (iI z)) (by first | rfl | exact if_neg (by decide))) ?_
                                                refine g_iconst S dL_isPath_729 ?_
                                                refine g_icmp_ne (tgt := 737) S dL_isPath_730 (by decide) (by omega) (by omega) (fun q730 => ?_) (fun q730 => ?_)
                                                · skip
                                                  have d9 : sD N y = 0 := by omega
                                                  refine g_iconst S dL_isPath_737 ?_
                                                  refine lv_iload S.1 S.2.1 dL_isPath_738 (lv_at hl 4 rfl) ?_
                                                  refine g_invV (As := [.int (iI (sY N y)), .int (iI 0), .int (iI (sP N y))]) (rest := []) (gs' := (fun u : RU × (Int → Int) => [gRLC K ad, gScn K (ad 3) (ad 14) (ad 15) (ad 16) (ad 17) ou mi bo ln LF sn SF, gRayU K (ad 7) (ad 23) (ad 24) (ad 25) (ad 26) (ad 3) u.1 u.2, gPthV K (ad 8) (ad 27) (ad 35) (ad 28) (ad 29) (ad 30) (ad 31) (ad 32) (ad 33) (ad 34) pv2_625, gRayU K (ad 35) (ad 36) (ad 37) (ad 38) (ad 39) (ad 3) pr2_625 pX2_625, gArr K 3 nw168 SQ, gArr K 7 nw174 EQ])) S C hG [0, 1, 2] (c_X8_endOf l K ad ou mi bo ln LF sn SF N (ad 3) rv2_705 X2_705 (sY N y) 0 (sP N y) hS hN (by omega) (by omega) (by omega) (by omega) (by omega)) rfl rfl 0 rfl rfl (cwV 3 S.2.2.2.2 gL_isPath_X8_endOf rfl rfl rfl (by decide +kernel) ⟨Nat.le_of_ble_eq_true rfl, Nat.le_of_ble_eq_true rfl⟩) rfl hl.1 rfl (Nat.le_of_ble_eq_true rfl) dL_isPath_740 ⟨Nat.le_of_ble_eq_true rfl, Nat.le_of_ble_eq_true rfl⟩ (fun _ => Nat.le_of_ble_eq_true rfl) (fun _ => rfl) (fun v u H locs hp hG => ?_)
                                                  obtain ⟨rv2_740, X2_740⟩ := u
                                                  subst hp
                                                  have hG : gW K A s.heap [gRLC K ad, gScn K (ad 3) (ad 14) (ad 15) (ad 16) (ad 17) ou mi bo ln LF sn SF, gRayU K (ad 7) (ad 23) (ad 24) (ad 25) (ad 26) (ad 3) rv2_740 X2_740, gPthV K (ad 8) (ad 27) (ad 35) (ad 28) (ad 29) (ad 30) (ad 31) (ad 32) (ad 33) (ad 34) pv2_625, gRayU K (ad 35) (ad 36) (ad 37) (ad 38) (ad 39) (ad 3) pr2_625 pX2_625, gArr K 3 nw168 SQ, gArr K 7 nw174 EQ] _ _ := hG
                                                  refine g_top (w := .int (iI (eS N y))) (congrArg (fun z : Int => Value.int (iI z)) (by have h9 : enF N (sP N y) (sY N y) (sD N y) = eS N y := rfl; rw [d9] at h9; exact h9)) ?_
                                                  refine lv_iload_n S.1 S.2.1 dL_isPath_743 rfl (lv_at hl 3 rfl) ?_
                                                  refine g_icmp_ne (tgt := 785) S dL_isPath_744 (by decide) (by omega) (by omega) (fun q744 => ?_) (fun q744 => ?_)
                                                  · skip
                                                    omega
                                                  · skip
                                                    refine lv_aload_n S.1 S.2.1 dL_isPath_747 rfl (lv_at hl 0 rfl) ?_
                                                    refine lv_aload_n S.1 S.2.1 dL_isPath_748 rfl (lv_at hl 0 rfl) ?_
                                                    refine lv_iload_n S.1 S.2.1 dL_isPath_749 rfl (lv_at hl 1 rfl) ?_
                                                    refine g_iconst S dL_isPath_750 ?_
                                                    refine g_invV (As := [.int (iI y), .int (iI 0)]) (rest := [.ref (ad 0)]) (gs' := (fun u : Unit => [gRLC K ad, gScn K (ad 3) (ad 14) (ad 15) (ad 16) (ad 17) ou mi bo ln LF sn SF, gRayU K (ad 7) (ad 23) (ad 24) (ad 25) (ad 26) (ad 3) rv2_740 X2_740, gPthV K (ad 8) (ad 27) (ad 35) (ad 28) (ad 29) (ad 30) (ad 31) (ad 32) (ad 33) (ad 34) pv2_625, gRayU K (ad 35) (ad 36) (ad 37) (ad 38) (ad 39) (ad 3) pr2_625 pX2_625, gArr K 3 nw168 SQ, gArr K 7 nw174 EQ])) S C hG [0, 1] (c_X8_shot l K ad ou mi bo ln LF sn SF N y 0 hS hN (by omega) (by omega) hy (by omega)) rfl rfl 0 rfl rfl (cwV 2 S.2.2.2.2 gL_isPath_X8_shot rfl rfl rfl (by decide +kernel) ⟨Nat.le_of_ble_eq_true rfl, Nat.le_of_ble_eq_true rfl⟩) rfl hl.1 rfl (Nat.le_of_ble_eq_true rfl) dL_isPath_751 ⟨Nat.le_of_ble_eq_true rfl, Nat.le_of_ble_eq_true rfl⟩ (fun _ => Nat.le_of_ble_eq_true rfl) (fun _ => rfl) (fun v u H locs hp hG => ?_)
                                                    subst hp
                                                    refine g_top (w := .int (iI (sY N y))) (congrArg (fun z : Int => Value.int (iI z)) (by first | rfl | exact if_neg (by decide))) ?_
                                                    refine lv_aload_n S.1 S.2.1 dL_isPath_754 rfl (lv_at hl 0 rfl) ?_
                                                    refine lv_iload_n S.1 S.2.1 dL_isPath_755 rfl (lv_at hl 1 rfl) ?_
                                                    refine g_iconst S dL_isPath_756 ?_
                                                    refine g_invV (As := [.int (iI y), .int (iI 1)]) (rest := [.int (iI (sY N y)), .ref (ad 0)]) (gs' := (fun u : Unit => [gRLC K ad, gScn K (ad 3) (ad 14) (ad 15) (ad 16) (ad 17) ou mi bo ln LF sn SF, gRayU K (ad 7) (ad 23) (ad 24) (ad 25) (ad 26) (ad 3) rv2_740 X2_740, gPthV K (ad 8) (ad 27) (ad 35) (ad 28) (ad 29) (ad 30) (ad 31) (ad 32) (ad 33) (ad 34) pv2_625, gRayU K (ad 35) (ad 36) (ad 37) (ad 38) (ad 39) (ad 3) pr2_625 pX2_625, gArr K 3 nw168 SQ, gArr K 7 nw174 EQ])) S C hG [0, 1] (c_X8_shot l K ad ou mi bo ln LF sn SF N y 1 hS hN (by omega) (by omega) hy (by omega)) rfl rfl 0 rfl rfl (cwV 2 S.2.2.2.2 gL_isPath_X8_shot rfl rfl rfl (by decide +kernel) ⟨Nat.le_of_ble_eq_true rfl, Nat.le_of_ble_eq_true rfl⟩) rfl hl.1 rfl (Nat.le_of_ble_eq_true rfl) dL_isPath_757 ⟨Nat.le_of_ble_eq_true rfl, Nat.le_of_ble_eq_true rfl⟩ (fun _ => Nat.le_of_ble_eq_true rfl) (fun _ => rfl) (fun v u H locs hp hG => ?_)
                                                    subst hp
                                                    refine g_top (w := .int (iI (sD N y))) (congrArg (fun z : Int => Value.int (iI z)) (by first | rfl | exact if_neg (by decide))) ?_
                                                    refine g_iconst S dL_isPath_760 ?_
                                                    refine g_icmp_ne (tgt := 768) S dL_isPath_761 (by decide) (by omega) (by omega) (fun q761 => ?_) (fun q761 => ?_)
                                                    · skip
                                                      refine g_iconst S dL_isPath_768 ?_
                                                      refine lv_iload S.1 S.2.1 dL_isPath_769 (lv_at hl 4 rfl) ?_
                                                      refine g_invV (As := [.int (iI (sY N y)), .int (iI 0), .int (iI (sP N y))]) (rest := []) (gs' := (fun u : RU × (Int → Int) => [gRLC K ad, gScn K (ad 3) (ad 14) (ad 15) (ad 16) (ad 17) ou mi bo ln LF sn SF, gRayU K (ad 7) (ad 23) (ad 24) (ad 25) (ad 26) (ad 3) u.1 u.2, gPthV K (ad 8) (ad 27) (ad 35) (ad 28) (ad 29) (ad 30) (ad 31) (ad 32) (ad 33) (ad 34) pv2_625, gRayU K (ad 35) (ad 36) (ad 37) (ad 38) (ad 39) (ad 3) pr2_625 pX2_625, gArr K 3 nw168 SQ, gArr K 7 nw174 EQ])) S C hG [0, 1, 2] (c_X8_shiftOf l K ad ou mi bo ln LF sn SF N (ad 3) rv2_740 X2_740 (sY N y) 0 (sP N y) hS hN (by omega) (by omega) (by omega) (by omega) (by omega)) rfl rfl 0 rfl rfl (cwV 3 S.2.2.2.2 gL_isPath_X8_shiftOf rfl rfl rfl (by decide +kernel) ⟨Nat.le_of_ble_eq_true rfl, Nat.le_of_ble_eq_true rfl⟩) rfl hl.1 rfl (Nat.le_of_ble_eq_true rfl) dL_isPath_771 ⟨Nat.le_of_ble_eq_true rfl, Nat.le_of_ble_eq_true rfl⟩ (fun _ => Nat.le_of_ble_eq_true rfl) (fun _ => rfl) (fun v u H locs hp hG => ?_)
                                                      obtain ⟨rv2_771, X2_771⟩ := u
                                                      subst hp
                                                      have hG : gW K A s.heap [gRLC K ad, gScn K (ad 3) (ad 14) (ad 15) (ad 16) (ad 17) ou mi bo ln LF sn SF, gRayU K (ad 7) (ad 23) (ad 24) (ad 25) (ad 26) (ad 3) rv2_771 X2_771, gPthV K (ad 8) (ad 27) (ad 35) (ad 28) (ad 29) (ad 30) (ad 31) (ad 32) (ad 33) (ad 34) pv2_625, gRayU K (ad 35) (ad 36) (ad 37) (ad 38) (ad 39) (ad 3) pr2_625 pX2_625, gArr K 3 nw168 SQ, gArr K 7 nw174 EQ] _ _ := hG
                                                      refine g_top (w := .int (iI (hS_ N y))) (congrArg (fun z : Int => Value.int (iI z)) (by have h9 : shiA N (sY N y) (sD N y) (sP N y) = hS_ N y := if_neg (eS_4 hb); rw [d9] at h9; exact h9)) ?_
                                                      refine lv_aload S.1 S.2.1 dL_isPath_774 (lv_at hl 6 rfl) ?_
                                                      refine g_iconst S dL_isPath_776 ?_
                                                      refine g_iald S C hG 25 rfl (by omega) (by omega) (by omega) dL_isPath_777 ?_
                                                      refine g_icmp_ne (tgt := 785) S dL_isPath_778 (by decide) (by omega) (by omega) (fun q778 => ?_) (fun q778 => ?_)
                                                      · skip
                                                        omega
                                                      · skip
                                                        refine g_iconst S dL_isPath_781 ?_
                                                        refine lv_goto (tgt := 786) S.1 S.2.1 dL_isPath_782 (by decide) ?_
                                                        have hG : gW K A s.heap [gRLC K ad, gScn K (ad 3) (ad 14) (ad 15) (ad 16) (ad 17) ou mi bo ln LF sn SF, gRayU K (ad 7) (ad 23) (ad 24) (ad 25) (ad 26) (ad 3) rv2_771 X2_771, gPthV K (ad 8) (ad 27) (ad 35) (ad 28) (ad 29) (ad 30) (ad 31) (ad 32) (ad 33) (ad 34) pv2_625, gRayU K (ad 35) (ad 36) (ad 37) (ad 38) (ad 39) (ad 3) pr2_625 pX2_625] _ _ := gW_pick [0, 1, 2, 3, 4] rfl rfl hG
                                                        have hG : gW K A s.heap [gRLC K ad, gScn K (ad 3) (ad 14) (ad 15) (ad 16) (ad 17) ou mi bo ln LF sn SF, gRayU K (ad 7) (ad 23) (ad 24) (ad 25) (ad 26) (ad 3) rv2_771 X2_771, gPthV K (ad 8) (ad 27) (ad 35) (ad 28) (ad 29) (ad 30) (ad 31) (ad 32) (ad 33) (ad 34) pv2_625, gRayU K (ad 35) (ad 36) (ad 37) (ad 38) (ad 39) (ad 3) pr2_625 pX2_625] _ _ := hG
                                                        exact g_zret S hr hlk hQ (Or.inr rfl) dL_isPath_786 (Nat.le_of_ble_eq_true rfl) (Nat.le_of_ble_eq_true rfl) (((ad 3), rv2_771, X2_771, pv2_625, (ad 3), pr2_625, pX2_625) : Nat × RU × (Int → Int) × PV × Nat × RU × (Int → Int)) rfl hG
                                                    · skip
                                                      omega
                                                · skip
                                                  have d9 : sD N y = 1 := by omega
                                                  refine g_iconst S dL_isPath_733 ?_
                                                  refine lv_goto (tgt := 738) S.1 S.2.1 dL_isPath_734 (by decide) ?_
                                                  refine lv_iload S.1 S.2.1 dL_isPath_738 (lv_at hl 4 rfl) ?_
                                                  refine g_invV (As := [.int (iI (sY N y)), .int (iI 1), .int (iI (sP N y))]) (rest := []) (gs' := (fun u : RU × (Int → Int) => [gRLC K ad, gScn K (ad 3) (ad 14) (ad 15) (ad 16) (ad 17) ou mi bo ln LF sn SF, gRayU K (ad 7) (ad 23) (ad 24) (ad 25) (ad 26) (ad 3) u.1 u.2, gPthV K (ad 8) (ad 27) (ad 35) (ad 28) (ad 29) (ad 30) (ad 31) (ad 32) (ad 33) (ad 34) pv2_625, gRayU K (ad 35) (ad 36) (ad 37) (ad 38) (ad 39) (ad 3) pr2_625 pX2_625, gArr K 3 nw168 SQ, gArr K 7 nw174 EQ])) S C hG [0, 1, 2] (c_X8_endOf l K ad ou mi bo ln LF sn SF N (ad 3) rv2_705 X2_705 (sY N y) 1 (sP N y) hS hN (by omega) (by omega) (by omega) (by omega) (by omega)) rfl rfl 0 rfl rfl (cwV 3 S.2.2.2.2 gL_isPath_X8_endOf rfl rfl rfl (by decide +kernel) ⟨Nat.le_of_ble_eq_true rfl, Nat.le_of_ble_eq_true rfl⟩) rfl hl.1 rfl (Nat.le_of_ble_eq_true rfl) dL_isPath_740 ⟨Nat.le_of_ble_eq_true rfl, Nat.le_of_ble_eq_true rfl⟩ (fun _ => Nat.le_of_ble_eq_true rfl) (fun _ => rfl) (fun v u H locs hp hG => ?_)
                                                  obtain ⟨rv2_740, X2_740⟩ := u
                                                  subst hp
                                                  have hG : gW K A s.heap [gRLC K ad, gScn K (ad 3) (ad 14) (ad 15) (ad 16) (ad 17) ou mi bo ln LF sn SF, gRayU K (ad 7) (ad 23) (ad 24) (ad 25) (ad 26) (ad 3) rv2_740 X2_740, gPthV K (ad 8) (ad 27) (ad 35) (ad 28) (ad 29) (ad 30) (ad 31) (ad 32) (ad 33) (ad 34) pv2_625, gRayU K (ad 35) (ad 36) (ad 37) (ad 38) (ad 39) (ad 3) pr2_625 pX2_625, gArr K 3 nw168 SQ, gArr K 7 nw174 EQ] _ _ := hG
                                                  refine g_top (w := .int (iI (eS N y))) (congrArg (fun z : Int => Value.int (iI z)) (by have h9 : enF N (sP N y) (sY N y) (sD N y) = eS N y := rfl; rw [d9] at h9; exact h9)) ?_
                                                  refine lv_iload_n S.1 S.2.1 dL_isPath_743 rfl (lv_at hl 3 rfl) ?_
                                                  refine g_icmp_ne (tgt := 785) S dL_isPath_744 (by decide) (by omega) (by omega) (fun q744 => ?_) (fun q744 => ?_)
                                                  · skip
                                                    omega
                                                  · skip
                                                    refine lv_aload_n S.1 S.2.1 dL_isPath_747 rfl (lv_at hl 0 rfl) ?_
                                                    refine lv_aload_n S.1 S.2.1 dL_isPath_748 rfl (lv_at hl 0 rfl) ?_
                                                    refine lv_iload_n S.1 S.2.1 dL_isPath_749 rfl (lv_at hl 1 rfl) ?_
                                                    refine g_iconst S dL_isPath_750 ?_
                                                    refine g_invV (As := [.int (iI y), .int (iI 0)]) (rest := [.ref (ad 0)]) (gs' := (fun u : Unit => [gRLC K ad, gScn K (ad 3) (ad 14) (ad 15) (ad 16) (ad 17) ou mi bo ln LF sn SF, gRayU K (ad 7) (ad 23) (ad 24) (ad 25) (ad 26) (ad 3) rv2_740 X2_740, gPthV K (ad 8) (ad 27) (ad 35) (ad 28) (ad 29) (ad 30) (ad 31) (ad 32) (ad 33) (ad 34) pv2_625, gRayU K (ad 35) (ad 36) (ad 37) (ad 38) (ad 39) (ad 3) pr2_625 pX2_625, gArr K 3 nw168 SQ, gArr K 7 nw174 EQ])) S C hG [0, 1] (c_X8_shot l K ad ou mi bo ln LF sn SF N y 0 hS hN (by omega) (by omega) hy (by omega)) rfl rfl 0 rfl rfl (cwV 2 S.2.2.2.2 gL_isPath_X8_shot rfl rfl rfl (by decide +kernel) ⟨Nat.le_of_ble_eq_true rfl, Nat.le_of_ble_eq_true rfl⟩) rfl hl.1 rfl (Nat.le_of_ble_eq_true rfl) dL_isPath_751 ⟨Nat.le_of_ble_eq_true rfl, Nat.le_of_ble_eq_true rfl⟩ (fun _ => Nat.le_of_ble_eq_true rfl) (fun _ => rfl) (fun v u H locs hp hG => ?_)
                                                    subst hp
                                                    refine g_top (w := .int (iI (sY N y))) (congrArg (fun z : Int => Value.int (iI z)) (by first | rfl | exact if_neg (by decide))) ?_
                                                    refine lv_aload_n S.1 S.2.1 dL_isPath_754 rfl (lv_at hl 0 rfl) ?_
                                                    refine lv_iload_n S.1 S.2.1 dL_isPath_755 rfl (lv_at hl 1 rfl) ?_
                                                    refine g_iconst S dL_isPath_756 ?_
                                                    refine g_invV (As := [.int (iI y), .int (iI 1)]) (rest := [.int (iI (sY N y)), .ref (ad 0)]) (gs' := (fun u : Unit => [gRLC K ad, gScn K (ad 3) (ad 14) (ad 15) (ad 16) (ad 17) ou mi bo ln LF sn SF, gRayU K (ad 7) (ad 23) (ad 24) (ad 25) (ad 26) (ad 3) rv2_740 X2_740, gPthV K (ad 8) (ad 27) (ad 35) (ad 28) (ad 29) (ad 30) (ad 31) (ad 32) (ad 33) (ad 34) pv2_625, gRayU K (ad 35) (ad 36) (ad 37) (ad 38) (ad 39) (ad 3) pr2_625 pX2_625, gArr K 3 nw168 SQ, gArr K 7 nw174 EQ])) S C hG [0, 1] (c_X8_shot l K ad ou mi bo ln LF sn SF N y 1 hS hN (by omega) (by omega) hy (by omega)) rfl rfl 0 rfl rfl (cwV 2 S.2.2.2.2 gL_isPath_X8_shot rfl rfl rfl (by decide +kernel) ⟨Nat.le_of_ble_eq_true rfl, Nat.le_of_ble_eq_true rfl⟩) rfl hl.1 rfl (Nat.le_of_ble_eq_true rfl) dL_isPath_757 ⟨Nat.le_of_ble_eq_true rfl, Nat.le_of_ble_eq_true rfl⟩ (fun _ => Nat.le_of_ble_eq_true rfl) (fun _ => rfl) (fun v u H locs hp hG => ?_)
                                                    subst hp
                                                    refine g_top (w := .int (iI (sD N y))) (congrArg (fun z : Int => Value.int (iI z)) (by first | rfl | exact if_neg (by decide))) ?_
                                                    refine g_iconst S dL_isPath_760 ?_
                                                    refine g_icmp_ne (tgt := 768) S dL_isPath_761 (by decide) (by omega) (by omega) (fun q761 => ?_) (fun q761 => ?_)
                                                    · skip
                                                      omega
                                                    · skip
                                                      refine g_iconst S dL_isPath_764 ?_
                                                      refine lv_goto (tgt := 769) S.1 S.2.1 dL_isPath_765 (by decide) ?_
                                                      refine lv_iload S.1 S.2.1 dL_isPath_769 (lv_at hl 4 rfl) ?_
                                                      refine g_invV (As := [.int (iI (sY N y)), .int (iI 1), .int (iI (sP N y))]) (rest := []) (gs' := (fun u : RU × (Int → Int) => [gRLC K ad, gScn K (ad 3) (ad 14) (ad 15) (ad 16) (ad 17) ou mi bo ln LF sn SF, gRayU K (ad 7) (ad 23) (ad 24) (ad 25) (ad 26) (ad 3) u.1 u.2, gPthV K (ad 8) (ad 27) (ad 35) (ad 28) (ad 29) (ad 30) (ad 31) (ad 32) (ad 33) (ad 34) pv2_625, gRayU K (ad 35) (ad 36) (ad 37) (ad 38) (ad 39) (ad 3) pr2_625 pX2_625, gArr K 3 nw168 SQ, gArr K 7 nw174 EQ])) S C hG [0, 1, 2] (c_X8_shiftOf l K ad ou mi bo ln LF sn SF N (ad 3) rv2_740 X2_740 (sY N y) 1 (sP N y) hS hN (by omega) (by omega) (by omega) (by omega) (by omega)) rfl rfl 0 rfl rfl (cwV 3 S.2.2.2.2 gL_isPath_X8_shiftOf rfl rfl rfl (by decide +kernel) ⟨Nat.le_of_ble_eq_true rfl, Nat.le_of_ble_eq_true rfl⟩) rfl hl.1 rfl (Nat.le_of_ble_eq_true rfl) dL_isPath_771 ⟨Nat.le_of_ble_eq_true rfl, Nat.le_of_ble_eq_true rfl⟩ (fun _ => Nat.le_of_ble_eq_true rfl) (fun _ => rfl) (fun v u H locs hp hG => ?_)
                                                      obtain ⟨rv2_771, X2_771⟩ := u
                                                      subst hp
                                                      have hG : gW K A s.heap [gRLC K ad, gScn K (ad 3) (ad 14) (ad 15) (ad 16) (ad 17) ou mi bo ln LF sn SF, gRayU K (ad 7) (ad 23) (ad 24) (ad 25) (ad 26) (ad 3) rv2_771 X2_771, gPthV K (ad 8) (ad 27) (ad 35) (ad 28) (ad 29) (ad 30) (ad 31) (ad 32) (ad 33) (ad 34) pv2_625, gRayU K (ad 35) (ad 36) (ad 37) (ad 38) (ad 39) (ad 3) pr2_625 pX2_625, gArr K 3 nw168 SQ, gArr K 7 nw174 EQ] _ _ := hG
                                                      refine g_top (w := .int (iI (hS_ N y))) (congrArg (fun z : Int => Value.int (iI z)) (by have h9 : shiA N (sY N y) (sD N y) (sP N y) = hS_ N y := if_neg (eS_4 hb); rw [d9] at h9; exact h9)) ?_
                                                      refine lv_aload S.1 S.2.1 dL_isPath_774 (lv_at hl 6 rfl) ?_
                                                      refine g_iconst S dL_isPath_776 ?_
                                                      refine g_iald S C hG 25 rfl (by omega) (by omega) (by omega) dL_isPath_777 ?_
                                                      refine g_icmp_ne (tgt := 785) S dL_isPath_778 (by decide) (by omega) (by omega) (fun q778 => ?_) (fun q778 => ?_)
                                                      · skip
                                                        omega
                                                      · skip
                                                        refine g_iconst S dL_isPath_781 ?_
                                                        refine lv_goto (tgt := 786) S.1 S.2.1 dL_isPath_782 (by decide) ?_
                                                        have hG : gW K A s.heap [gRLC K ad, gScn K (ad 3) (ad 14) (ad 15) (ad 16) (ad 17) ou mi bo ln LF sn SF, gRayU K (ad 7) (ad 23) (ad 24) (ad 25) (ad 26) (ad 3) rv2_771 X2_771, gPthV K (ad 8) (ad 27) (ad 35) (ad 28) (ad 29) (ad 30) (ad 31) (ad 32) (ad 33) (ad 34) pv2_625, gRayU K (ad 35) (ad 36) (ad 37) (ad 38) (ad 39) (ad 3) pr2_625 pX2_625] _ _ := gW_pick [0, 1, 2, 3, 4] rfl rfl hG
                                                        have hG : gW K A s.heap [gRLC K ad, gScn K (ad 3) (ad 14) (ad 15) (ad 16) (ad 17) ou mi bo ln LF sn SF, gRayU K (ad 7) (ad 23) (ad 24) (ad 25) (ad 26) (ad 3) rv2_771 X2_771, gPthV K (ad 8) (ad 27) (ad 35) (ad 28) (ad 29) (ad 30) (ad 31) (ad 32) (ad 33) (ad 34) pv2_625, gRayU K (ad 35) (ad 36) (ad 37) (ad 38) (ad 39) (ad 3) pr2_625 pX2_625] _ _ := hG
                                                        exact g_zret S hr hlk hQ (Or.inr rfl) dL_isPath_786 (Nat.le_of_ble_eq_true rfl) (Nat.le_of_ble_eq_true rfl) (((ad 3), rv2_771, X2_771, pv2_625, (ad 3), pr2_625, pX2_625) : Nat × RU × (Int → Int) × PV × Nat × RU × (Int → Int)) rfl hG
                                            · skip
                                              omega
                                        refine lv_iload_n S.1 S.2.1 dL_isPath_630 rfl (lv_at hl 4 rfl) ?_
                                        refine lv_iload S.1 S.2.1 dL_isPath_631 (lv_at hl 0 rfl) ?_
                                        refine g_iconst S dL_isPath_633 ?_
                                        refine g_icmp_ne (tgt := 641) S dL_isPath_634 (by decide) (by omega) (by omega) (fun q634 => ?_) (fun q634 => ?_)
                                        · skip
                                          refine lv_iload S.1 S.2.1 dL_isPath_641 (lv_at hl 0 rfl) ?_
                                          refine g_iconst S dL_isPath_643 ?_
                                          refine g_icmp_ne (tgt := 651) S dL_isPath_644 (by decide) (by omega) (by omega) (fun q644 => ?_) (fun q644 => ?_)
                                          · skip
                                            refine lv_iload S.1 S.2.1 dL_isPath_651 (lv_at hl 0 rfl) ?_
                                            refine g_iconst S dL_isPath_653 ?_
                                            refine g_icmp_ne (tgt := 661) S dL_isPath_654 (by decide) (by omega) (by omega) (fun q654 => ?_) (fun q654 => ?_)
                                            · skip
                                              refine g_iconst S dL_isPath_661 ?_
                                              refine g_icmp_ne (tgt := 695) S dL_isPath_662 (by decide) (by omega) (by omega) (fun q662 => ?_) (fun q662 => ?_)
                                              · skip
                                                omega
                                              · skip
                                                exact J665 _ _ _ (lv_sub hl [1, 2, 3, 4, 5, 6, 7, 8, 9, 10, 11, 12, 0] rfl) hG
                                            · skip
                                              refine g_iconst S dL_isPath_657 ?_
                                              refine lv_goto (tgt := 662) S.1 S.2.1 dL_isPath_658 (by decide) ?_
                                              refine g_icmp_ne (tgt := 695) S dL_isPath_662 (by decide) (by omega) (by omega) (fun q662 => ?_) (fun q662 => ?_)
                                              · skip
                                                omega
                                              · skip
                                                exact J665 _ _ _ (lv_sub hl [1, 2, 3, 4, 5, 6, 7, 8, 9, 10, 11, 12, 0] rfl) hG
                                          · skip
                                            refine g_iconst S dL_isPath_647 ?_
                                            refine lv_goto (tgt := 662) S.1 S.2.1 dL_isPath_648 (by decide) ?_
                                            refine g_icmp_ne (tgt := 695) S dL_isPath_662 (by decide) (by omega) (by omega) (fun q662 => ?_) (fun q662 => ?_)
                                            · skip
                                              omega
                                            · skip
                                              exact J665 _ _ _ (lv_sub hl [1, 2, 3, 4, 5, 6, 7, 8, 9, 10, 11, 12, 0] rfl) hG
                                        · skip
                                          refine g_iconst S dL_isPath_637 ?_
                                          refine lv_goto (tgt := 662) S.1 S.2.1 dL_isPath_638 (by decide) ?_
                                          refine g_icmp_ne (tgt := 695) S dL_isPath_662 (by decide) (by omega) (by omega) (fun q662 => ?_) (fun q662 => ?_)
                                          · skip
                                            omega
                                          · skip
                                            exact J665 _ _ _ (lv_sub hl [1, 2, 3, 4, 5, 6, 7, 8, 9, 10, 11, 12, 0] rfl) hG
                                      · skip
                                        omega
                        · skip
                          have hk9 : kk < gS N y := by omega
                          have hb8 := pthB hN hy hb hk9
                          obtain ⟨hl8, hd8⟩ := hlay hk9
                          have hn8 := wS_next hN hy hb hk9
                          have he8 := pthE hN hy hb hk9
                          have hv8 := pthL hb hk9
                          have ly8 := (lay_bd hN hb8.1.1 hb8.1.2).1
                          have hs8 : upI (upI (upI SQ 0 (SQ 0 + skS N y kk)) 1 (SQ 1 + lkS N y kk)) 2 (SQ 2 + tqS N y kk) 0 = smN (skS N y) (kk + 1) ∧ upI (upI (upI SQ 0 (SQ 0 + skS N y kk)) 1 (SQ 1 + lkS N y kk)) 2 (SQ 2 + tqS N y kk) 1 = smN (lkS N y) (kk + 1) ∧ upI (upI (upI SQ 0 (SQ 0 + skS N y kk)) 1 (SQ 1 + lkS N y kk)) 2 (SQ 2 + tqS N y kk) 2 = smN (tqS N y) (kk + 1) := by
                            have u9 := up3 SQ (SQ 0 + skS N y kk) (SQ 1 + lkS N y kk) (SQ 2 + tqS N y kk)
                            simp only [smN]
                            rw [u9.1, u9.2.1, u9.2.2]
                            omega
                          have he8x : upI EQ (evS N y kk) (EQ (evS N y kk) + 1) 0 = smN (crK N (sP N y) (sY N y) (sD N y)) (kk + 1) ∧ upI EQ (evS N y kk) (EQ (evS N y kk) + 1) 1 = smN (trK N (sP N y) (sY N y) (sD N y)) (kk + 1) ∧ upI EQ (evS N y kk) (EQ (evS N y kk) + 1) 2 = e2S N y (kk + 1) := by
                            simp only [smN]
                            rw [upE, upE, upE, crK_e, trK_e, e2_e, he.1, he.2.1, he.2.2]
                            exact ⟨rfl, rfl, rfl⟩
                          refine lv_aload_n S.1 S.2.1 dL_isPath_210 rfl (lv_at hl 0 rfl) ?_
                          refine lv_iload_n S.1 S.2.1 dL_isPath_211 rfl (lv_at hl 1 rfl) ?_
                          refine lv_iload S.1 S.2.1 dL_isPath_212 (lv_at hl 12 rfl) ?_
                          refine g_iconst S dL_isPath_214 ?_
                          refine g_invV (As := [.int (iI y), .int (iI (kk : Int)), .int (iI 0)]) (rest := []) (gs' := (fun u : Int × PV × RU × (Int → Int) => [gRLC K ad, gScn K (ad 3) (ad 14) (ad 15) (ad 16) (ad 17) ou mi bo ln LF sn SF, gRayU K (ad 7) (ad 23) (ad 24) (ad 25) (ad 26) (ad 3) rv2_10 X2_10, gPthV K (ad 8) (ad 27) (ad 35) (ad 28) (ad 29) (ad 30) (ad 31) (ad 32) (ad 33) (ad 34) u.2.1, gRayU K (ad 35) (ad 36) (ad 37) (ad 38) (ad 39) (ad 3) u.2.2.1 u.2.2.2, gArr K 3 nw168 SQ, gArr K 7 nw174 EQ])) S C hG [0, 3, 4, 1] (c_X8_leg l K ad ou mi bo ln LF sn SF N pvk psk prk pXk y (kk : Int) 0 hS hN (by omega) hy (by omega) (by omega) (by omega) (by omega)) rfl rfl 0 rfl rfl (cwV 3 S.2.2.2.2 gL_isPath_X8_leg rfl rfl rfl (by decide +kernel) ⟨Nat.le_of_ble_eq_true rfl, Nat.le_of_ble_eq_true rfl⟩) rfl hl.1 rfl (Nat.le_of_ble_eq_true rfl) dL_isPath_215 ⟨Nat.le_of_ble_eq_true rfl, Nat.le_of_ble_eq_true rfl⟩ (fun _ => Nat.le_of_ble_eq_true rfl) (fun _ => rfl) (fun v u H locs hp hG => ?_)
                          obtain ⟨v9_215, pv2_215, pr2_215, pX2_215⟩ := u
                          obtain ⟨rfl, hp_215, hw_215⟩ := hp
                          have hp_215 : PthR N (sP N y) (sY N y) (sD N y) pv2_215 := hp_215
                          have hw_215 : v9_215 = pick7 0 (pv2_215.2.2.1 (kk : Int)) (pv2_215.2.2.2.1 (kk : Int)) (pv2_215.2.2.2.2.1 (kk : Int)) (pv2_215.2.2.2.2.2.1 (kk : Int)) (pv2_215.2.2.2.2.2.2.1 (kk : Int)) (pv2_215.2.2.2.2.2.2.2.1 (kk : Int)) (pv2_215.2.2.2.2.2.2.2.2 (kk : Int)) := hw_215
                          have hG : gW K A s.heap [gRLC K ad, gScn K (ad 3) (ad 14) (ad 15) (ad 16) (ad 17) ou mi bo ln LF sn SF, gRayU K (ad 7) (ad 23) (ad 24) (ad 25) (ad 26) (ad 3) rv2_10 X2_10, gPthV K (ad 8) (ad 27) (ad 35) (ad 28) (ad 29) (ad 30) (ad 31) (ad 32) (ad 33) (ad 34) pv2_215, gRayU K (ad 35) (ad 36) (ad 37) (ad 38) (ad 39) (ad 3) pr2_215 pX2_215, gArr K 3 nw168 SQ, gArr K 7 nw174 EQ] _ _ := hG
                          refine g_top (w := .int (iI (ykS N y kk))) (congrArg (fun z : Int => Value.int (iI z)) ((legW hp_215 hw_215 (by omega)).trans rfl)) ?_
                          refine lv_istore (lv' := [(13, .int (iI (ykS N y kk))), (0, .ref (ad 0)), (1, .int (iI y)), (2, .int (iI (gS N y : Int))), (3, .int (iI (eS N y))), (4, .int (iI (sP N y))), (5, .int (iI 1)), (6, .ref nw168), (7, .ref nw174), (8, .int (iI dp)), (9, .int (iI pw)), (10, .int (iI ly)), (11, .int (iI dn)), (12, .int (iI (kk : Int)))]) S.1 S.2.1 dL_isPath_218 hl (by decide) rfl (fun ls hl => ?_)
                          refine lv_iload S.1 S.2.1 dL_isPath_220 (lv_at hl 0 rfl) ?_
                          refine lv_iload S.1 S.2.1 dL_isPath_222 (lv_at hl 11 rfl) ?_
                          refine g_icmp_ne (tgt := 288) S dL_isPath_224 (by decide) (by omega) (by omega) (fun q224 => ?_) (fun q224 => ?_)
                          · skip
                            omega
                          · skip
                            refine lv_aload_n S.1 S.2.1 dL_isPath_227 rfl (lv_at hl 1 rfl) ?_
                            refine lv_iload_n S.1 S.2.1 dL_isPath_228 rfl (lv_at hl 2 rfl) ?_
                            refine lv_iload S.1 S.2.1 dL_isPath_229 (lv_at hl 13 rfl) ?_
                            refine g_iconst S dL_isPath_231 ?_
                            refine g_invV (As := [.int (iI y), .int (iI (kk : Int)), .int (iI 1)]) (rest := []) (gs' := (fun u : Int × PV × RU × (Int → Int) => [gRLC K ad, gScn K (ad 3) (ad 14) (ad 15) (ad 16) (ad 17) ou mi bo ln LF sn SF, gRayU K (ad 7) (ad 23) (ad 24) (ad 25) (ad 26) (ad 3) rv2_10 X2_10, gPthV K (ad 8) (ad 27) (ad 35) (ad 28) (ad 29) (ad 30) (ad 31) (ad 32) (ad 33) (ad 34) u.2.1, gRayU K (ad 35) (ad 36) (ad 37) (ad 38) (ad 39) (ad 3) u.2.2.1 u.2.2.2, gArr K 3 nw168 SQ, gArr K 7 nw174 EQ])) S C hG [0, 3, 4, 1] (c_X8_leg l K ad ou mi bo ln LF sn SF N pv2_215 (ad 3) pr2_215 pX2_215 y (kk : Int) 1 hS hN (by omega) hy (by omega) (by omega) (by omega) (by omega)) rfl rfl 0 rfl rfl (cwV 3 S.2.2.2.2 gL_isPath_X8_leg rfl rfl rfl (by decide +kernel) ⟨Nat.le_of_ble_eq_true rfl, Nat.le_of_ble_eq_true rfl⟩) rfl hl.1 rfl (Nat.le_of_ble_eq_true rfl) dL_isPath_232 ⟨Nat.le_of_ble_eq_true rfl, Nat.le_of_ble_eq_true rfl⟩ (fun _ => Nat.le_of_ble_eq_true rfl) (fun _ => rfl) (fun v u H locs hp hG => ?_)
                            obtain ⟨v9_232, pv2_232, pr2_232, pX2_232⟩ := u
                            obtain ⟨rfl, hp_232, hw_232⟩ := hp
                            have hp_232 : PthR N (sP N y) (sY N y) (sD N y) pv2_232 := hp_232
                            have hw_232 : v9_232 = pick7 1 (pv2_232.2.2.1 (kk : Int)) (pv2_232.2.2.2.1 (kk : Int)) (pv2_232.2.2.2.2.1 (kk : Int)) (pv2_232.2.2.2.2.2.1 (kk : Int)) (pv2_232.2.2.2.2.2.2.1 (kk : Int)) (pv2_232.2.2.2.2.2.2.2.1 (kk : Int)) (pv2_232.2.2.2.2.2.2.2.2 (kk : Int)) := hw_232
                            have hG : gW K A s.heap [gRLC K ad, gScn K (ad 3) (ad 14) (ad 15) (ad 16) (ad 17) ou mi bo ln LF sn SF, gRayU K (ad 7) (ad 23) (ad 24) (ad 25) (ad 26) (ad 3) rv2_10 X2_10, gPthV K (ad 8) (ad 27) (ad 35) (ad 28) (ad 29) (ad 30) (ad 31) (ad 32) (ad 33) (ad 34) pv2_232, gRayU K (ad 35) (ad 36) (ad 37) (ad 38) (ad 39) (ad 3) pr2_232 pX2_232, gArr K 3 nw168 SQ, gArr K 7 nw174 EQ] _ _ := hG
                            refine g_top (w := .int (iI (ekS N y kk))) (congrArg (fun z : Int => Value.int (iI z)) ((legW hp_232 hw_232 (by omega)).trans rfl)) ?_
                            refine lv_iload S.1 S.2.1 dL_isPath_235 (lv_at hl 12 rfl) ?_
                            refine g_icmp_ne (tgt := 288) S dL_isPath_237 (by decide) (by omega) (by omega) (fun q237 => ?_) (fun q237 => ?_)
                            · skip
                              omega
                            · skip
                              refine lv_iload S.1 S.2.1 dL_isPath_240 (lv_at hl 5 rfl) ?_
                              refine lv_aload_n S.1 S.2.1 dL_isPath_242 rfl (lv_at hl 1 rfl) ?_
                              refine lv_iload S.1 S.2.1 dL_isPath_243 (lv_at hl 0 rfl) ?_
                              refine g_iconst S dL_isPath_245 ?_
                              refine g_invV (As := [.int (iI (ykS N y kk)), .int (iI 0)]) (rest := [.int (iI (sP N y))]) (gs' := (fun u : Unit => [gRLC K ad, gScn K (ad 3) (ad 14) (ad 15) (ad 16) (ad 17) ou mi bo ln LF sn SF, gRayU K (ad 7) (ad 23) (ad 24) (ad 25) (ad 26) (ad 3) rv2_10 X2_10, gPthV K (ad 8) (ad 27) (ad 35) (ad 28) (ad 29) (ad 30) (ad 31) (ad 32) (ad 33) (ad 34) pv2_232, gRayU K (ad 35) (ad 36) (ad 37) (ad 38) (ad 39) (ad 3) pr2_232 pX2_232, gArr K 3 nw168 SQ, gArr K 7 nw174 EQ])) S C hG [0, 1] (c_X8_layer l K ad ou mi bo ln LF sn SF N (ykS N y kk) 0 hS hN (by omega) (by omega) (by omega) (by omega)) rfl rfl 0 rfl rfl (cwV 2 S.2.2.2.2 gL_isPath_X8_layer rfl rfl rfl (by decide +kernel) ⟨Nat.le_of_ble_eq_true rfl, Nat.le_of_ble_eq_true rfl⟩) rfl hl.1 rfl (Nat.le_of_ble_eq_true rfl) dL_isPath_246 ⟨Nat.le_of_ble_eq_true rfl, Nat.le_of_ble_eq_true rfl⟩ (fun _ => Nat.le_of_ble_eq_true rfl) (fun _ => rfl) (fun v u H locs hp hG => ?_)
                              subst hp
                              refine g_top (w := .int (iI (nX N (ykS N y kk)))) (congrArg (fun z : Int => Value.int (iI z)) (by first | rfl | exact if_neg (by decide))) ?_
                              refine g_icmp_ge (tgt := 288) S dL_isPath_249 (by decide) (by omega) (by omega) (fun q249 => ?_) (fun q249 => ?_)
                              · skip
                                omega
                              · skip
                                refine lv_aload_n S.1 S.2.1 dL_isPath_252 rfl (lv_at hl 1 rfl) ?_
                                refine lv_iload_n S.1 S.2.1 dL_isPath_253 rfl (lv_at hl 2 rfl) ?_
                                refine lv_iload S.1 S.2.1 dL_isPath_254 (lv_at hl 13 rfl) ?_
                                refine g_iconst S dL_isPath_256 ?_
                                refine g_invV (As := [.int (iI y), .int (iI (kk : Int)), .int (iI 5)]) (rest := []) (gs' := (fun u : Int × PV × RU × (Int → Int) => [gRLC K ad, gScn K (ad 3) (ad 14) (ad 15) (ad 16) (ad 17) ou mi bo ln LF sn SF, gRayU K (ad 7) (ad 23) (ad 24) (ad 25) (ad 26) (ad 3) rv2_10 X2_10, gPthV K (ad 8) (ad 27) (ad 35) (ad 28) (ad 29) (ad 30) (ad 31) (ad 32) (ad 33) (ad 34) u.2.1, gRayU K (ad 35) (ad 36) (ad 37) (ad 38) (ad 39) (ad 3) u.2.2.1 u.2.2.2, gArr K 3 nw168 SQ, gArr K 7 nw174 EQ])) S C hG [0, 3, 4, 1] (c_X8_leg l K ad ou mi bo ln LF sn SF N pv2_232 (ad 3) pr2_232 pX2_232 y (kk : Int) 5 hS hN (by omega) hy (by omega) (by omega) (by omega) (by omega)) rfl rfl 0 rfl rfl (cwV 3 S.2.2.2.2 gL_isPath_X8_leg rfl rfl rfl (by decide +kernel) ⟨Nat.le_of_ble_eq_true rfl, Nat.le_of_ble_eq_true rfl⟩) rfl hl.1 rfl (Nat.le_of_ble_eq_true rfl) dL_isPath_257 ⟨Nat.le_of_ble_eq_true rfl, Nat.le_of_ble_eq_true rfl⟩ (fun _ => Nat.le_of_ble_eq_true rfl) (fun _ => rfl) (fun v u H locs hp hG => ?_)
                                obtain ⟨v9_257, pv2_257, pr2_257, pX2_257⟩ := u
                                obtain ⟨rfl, hp_257, hw_257⟩ := hp
                                have hp_257 : PthR N (sP N y) (sY N y) (sD N y) pv2_257 := hp_257
                                have hw_257 : v9_257 = pick7 5 (pv2_257.2.2.1 (kk : Int)) (pv2_257.2.2.2.1 (kk : Int)) (pv2_257.2.2.2.2.1 (kk : Int)) (pv2_257.2.2.2.2.2.1 (kk : Int)) (pv2_257.2.2.2.2.2.2.1 (kk : Int)) (pv2_257.2.2.2.2.2.2.2.1 (kk : Int)) (pv2_257.2.2.2.2.2.2.2.2 (kk : Int)) := hw_257
                                have hG : gW K A s.heap [gRLC K ad, gScn K (ad 3) (ad 14) (ad 15) (ad 16) (ad 17) ou mi bo ln LF sn SF, gRayU K (ad 7) (ad 23) (ad 24) (ad 25) (ad 26) (ad 3) rv2_10 X2_10, gPthV K (ad 8) (ad 27) (ad 35) (ad 28) (ad 29) (ad 30) (ad 31) (ad 32) (ad 33) (ad 34) pv2_257, gRayU K (ad 35) (ad 36) (ad 37) (ad 38) (ad 39) (ad 3) pr2_257 pX2_257, gArr K 3 nw168 SQ, gArr K 7 nw174 EQ] _ _ := hG
                                refine g_top (w := .int (iI (kS N y kk))) (congrArg (fun z : Int => Value.int (iI z)) ((legW hp_257 hw_257 (by omega)).trans rfl)) ?_
                                refine lv_iload S.1 S.2.1 dL_isPath_260 (lv_at hl 10 rfl) ?_
                                refine g_icmp_gt (tgt := 288) S dL_isPath_262 (by decide) (by omega) (by omega) (fun q262 => ?_) (fun q262 => ?_)
                                · skip
                                  omega
                                · skip
                                  refine lv_aload_n S.1 S.2.1 dL_isPath_265 rfl (lv_at hl 1 rfl) ?_
                                  refine lv_iload_n S.1 S.2.1 dL_isPath_266 rfl (lv_at hl 2 rfl) ?_
                                  refine lv_iload S.1 S.2.1 dL_isPath_267 (lv_at hl 13 rfl) ?_
                                  refine g_iconst S dL_isPath_269 ?_
                                  refine g_invV (As := [.int (iI y), .int (iI (kk : Int)), .int (iI 5)]) (rest := []) (gs' := (fun u : Int × PV × RU × (Int → Int) => [gRLC K ad, gScn K (ad 3) (ad 14) (ad 15) (ad 16) (ad 17) ou mi bo ln LF sn SF, gRayU K (ad 7) (ad 23) (ad 24) (ad 25) (ad 26) (ad 3) rv2_10 X2_10, gPthV K (ad 8) (ad 27) (ad 35) (ad 28) (ad 29) (ad 30) (ad 31) (ad 32) (ad 33) (ad 34) u.2.1, gRayU K (ad 35) (ad 36) (ad 37) (ad 38) (ad 39) (ad 3) u.2.2.1 u.2.2.2, gArr K 3 nw168 SQ, gArr K 7 nw174 EQ])) S C hG [0, 3, 4, 1] (c_X8_leg l K ad ou mi bo ln LF sn SF N pv2_257 (ad 3) pr2_257 pX2_257 y (kk : Int) 5 hS hN (by omega) hy (by omega) (by omega) (by omega) (by omega)) rfl rfl 0 rfl rfl (cwV 3 S.2.2.2.2 gL_isPath_X8_leg rfl rfl rfl (by decide +kernel) ⟨Nat.le_of_ble_eq_true rfl, Nat.le_of_ble_eq_true rfl⟩) rfl hl.1 rfl (Nat.le_of_ble_eq_true rfl) dL_isPath_270 ⟨Nat.le_of_ble_eq_true rfl, Nat.le_of_ble_eq_true rfl⟩ (fun _ => Nat.le_of_ble_eq_true rfl) (fun _ => rfl) (fun v u H locs hp hG => ?_)
                                  obtain ⟨v9_270, pv2_270, pr2_270, pX2_270⟩ := u
                                  obtain ⟨rfl, hp_270, hw_270⟩ := hp
                                  have hp_270 : PthR N (sP N y) (sY N y) (sD N y) pv2_270 := hp_270
                                  have hw_270 : v9_270 = pick7 5 (pv2_270.2.2.1 (kk : Int)) (pv2_270.2.2.2.1 (kk : Int)) (pv2_270.2.2.2.2.1 (kk : Int)) (pv2_270.2.2.2.2.2.1 (kk : Int)) (pv2_270.2.2.2.2.2.2.1 (kk : Int)) (pv2_270.2.2.2.2.2.2.2.1 (kk : Int)) (pv2_270.2.2.2.2.2.2.2.2 (kk : Int)) := hw_270
                                  have hG : gW K A s.heap [gRLC K ad, gScn K (ad 3) (ad 14) (ad 15) (ad 16) (ad 17) ou mi bo ln LF sn SF, gRayU K (ad 7) (ad 23) (ad 24) (ad 25) (ad 26) (ad 3) rv2_10 X2_10, gPthV K (ad 8) (ad 27) (ad 35) (ad 28) (ad 29) (ad 30) (ad 31) (ad 32) (ad 33) (ad 34) pv2_270, gRayU K (ad 35) (ad 36) (ad 37) (ad 38) (ad 39) (ad 3) pr2_270 pX2_270, gArr K 3 nw168 SQ, gArr K 7 nw174 EQ] _ _ := hG
                                  refine g_top (w := .int (iI (kS N y kk))) (congrArg (fun z : Int => Value.int (iI z)) ((legW hp_270 hw_270 (by omega)).trans rfl)) ?_
                                  refine g_if_lt (tgt := 288) S dL_isPath_273 (by decide) (by omega) (fun q273 => ?_) (fun q273 => ?_)
                                  · skip
                                    omega
                                  · skip
                                    refine lv_aload_n S.1 S.2.1 dL_isPath_276 rfl (lv_at hl 1 rfl) ?_
                                    refine lv_iload_n S.1 S.2.1 dL_isPath_277 rfl (lv_at hl 2 rfl) ?_
                                    refine lv_iload S.1 S.2.1 dL_isPath_278 (lv_at hl 13 rfl) ?_
                                    refine g_iconst S dL_isPath_280 ?_
                                    refine g_invV (As := [.int (iI y), .int (iI (kk : Int)), .int (iI 4)]) (rest := []) (gs' := (fun u : Int × PV × RU × (Int → Int) => [gRLC K ad, gScn K (ad 3) (ad 14) (ad 15) (ad 16) (ad 17) ou mi bo ln LF sn SF, gRayU K (ad 7) (ad 23) (ad 24) (ad 25) (ad 26) (ad 3) rv2_10 X2_10, gPthV K (ad 8) (ad 27) (ad 35) (ad 28) (ad 29) (ad 30) (ad 31) (ad 32) (ad 33) (ad 34) u.2.1, gRayU K (ad 35) (ad 36) (ad 37) (ad 38) (ad 39) (ad 3) u.2.2.1 u.2.2.2, gArr K 3 nw168 SQ, gArr K 7 nw174 EQ])) S C hG [0, 3, 4, 1] (c_X8_leg l K ad ou mi bo ln LF sn SF N pv2_270 (ad 3) pr2_270 pX2_270 y (kk : Int) 4 hS hN (by omega) hy (by omega) (by omega) (by omega) (by omega)) rfl rfl 0 rfl rfl (cwV 3 S.2.2.2.2 gL_isPath_X8_leg rfl rfl rfl (by decide +kernel) ⟨Nat.le_of_ble_eq_true rfl, Nat.le_of_ble_eq_true rfl⟩) rfl hl.1 rfl (Nat.le_of_ble_eq_true rfl) dL_isPath_281 ⟨Nat.le_of_ble_eq_true rfl, Nat.le_of_ble_eq_true rfl⟩ (fun _ => Nat.le_of_ble_eq_true rfl) (fun _ => rfl) (fun v u H locs hp hG => ?_)
                                    obtain ⟨v9_281, pv2_281, pr2_281, pX2_281⟩ := u
                                    obtain ⟨rfl, hp_281, hw_281⟩ := hp
                                    have hp_281 : PthR N (sP N y) (sY N y) (sD N y) pv2_281 := hp_281
                                    have hw_281 : v9_281 = pick7 4 (pv2_281.2.2.1 (kk : Int)) (pv2_281.2.2.2.1 (kk : Int)) (pv2_281.2.2.2.2.1 (kk : Int)) (pv2_281.2.2.2.2.2.1 (kk : Int)) (pv2_281.2.2.2.2.2.2.1 (kk : Int)) (pv2_281.2.2.2.2.2.2.2.1 (kk : Int)) (pv2_281.2.2.2.2.2.2.2.2 (kk : Int)) := hw_281
                                    have hG : gW K A s.heap [gRLC K ad, gScn K (ad 3) (ad 14) (ad 15) (ad 16) (ad 17) ou mi bo ln LF sn SF, gRayU K (ad 7) (ad 23) (ad 24) (ad 25) (ad 26) (ad 3) rv2_10 X2_10, gPthV K (ad 8) (ad 27) (ad 35) (ad 28) (ad 29) (ad 30) (ad 31) (ad 32) (ad 33) (ad 34) pv2_281, gRayU K (ad 35) (ad 36) (ad 37) (ad 38) (ad 39) (ad 3) pr2_281 pX2_281, gArr K 3 nw168 SQ, gArr K 7 nw174 EQ] _ _ := hG
                                    refine g_top (w := .int (iI (tqS N y kk))) (congrArg (fun z : Int => Value.int (iI z)) ((legW hp_281 hw_281 (by omega)).trans rfl)) ?_
                                    refine g_iconst S dL_isPath_284 ?_
                                    refine g_icmp_ge (tgt := 290) S dL_isPath_285 (by decide) (by omega) (by omega) (fun q285 => ?_) (fun q285 => ?_)
                                    · skip
                                      refine g_iconst S dL_isPath_290 ?_
                                      refine lv_istore (lv' := [(14, .int (iI 0)), (13, .int (iI (ykS N y kk))), (0, .ref (ad 0)), (1, .int (iI y)), (2, .int (iI (gS N y : Int))), (3, .int (iI (eS N y))), (4, .int (iI (sP N y))), (5, .int (iI 1)), (6, .ref nw168), (7, .ref nw174), (8, .int (iI dp)), (9, .int (iI pw)), (10, .int (iI ly)), (11, .int (iI dn)), (12, .int (iI (kk : Int)))]) S.1 S.2.1 dL_isPath_291 hl (by decide) rfl (fun ls hl => ?_)
                                      refine lv_iload S.1 S.2.1 dL_isPath_293 (lv_at hl 0 rfl) ?_
                                      refine g_iconst S dL_isPath_295 ?_
                                      refine g_icmp_ge (tgt := 324) S dL_isPath_296 (by decide) (by omega) (by omega) (fun q296 => ?_) (fun q296 => ?_)
                                      · skip
                                        exact absurd q296 (by decide)
                                      · skip
                                        refine lv_aload S.1 S.2.1 dL_isPath_299 (lv_at hl 8 rfl) ?_
                                        refine lv_iload S.1 S.2.1 dL_isPath_301 (lv_at hl 0 rfl) ?_
                                        refine lv_dup2_11 S.1 S.2.1 dL_isPath_303 rfl rfl ?_
                                        refine g_iald S C hG 25 rfl (by omega) (by omega) (by omega) dL_isPath_304 ?_
                                        refine lv_aload_n S.1 S.2.1 dL_isPath_305 rfl (lv_at hl 2 rfl) ?_
                                        refine lv_iload_n S.1 S.2.1 dL_isPath_306 rfl (lv_at hl 3 rfl) ?_
                                        refine lv_iload S.1 S.2.1 dL_isPath_307 (lv_at hl 14 rfl) ?_
                                        refine g_iconst S dL_isPath_309 ?_
                                        refine lv_iload S.1 S.2.1 dL_isPath_310 (lv_at hl 0 rfl) ?_
                                        refine g_iadd (z := 2) S dL_isPath_312 (by decide) ?_
                                        refine g_invV (As := [.int (iI y), .int (iI (kk : Int)), .int (iI 2)]) (rest := [.int (iI (SQ 0)), .int (iI 0), .ref nw168]) (gs' := (fun u : Int × PV × RU × (Int → Int) => [gRLC K ad, gScn K (ad 3) (ad 14) (ad 15) (ad 16) (ad 17) ou mi bo ln LF sn SF, gRayU K (ad 7) (ad 23) (ad 24) (ad 25) (ad 26) (ad 3) rv2_10 X2_10, gPthV K (ad 8) (ad 27) (ad 35) (ad 28) (ad 29) (ad 30) (ad 31) (ad 32) (ad 33) (ad 34) u.2.1, gRayU K (ad 35) (ad 36) (ad 37) (ad 38) (ad 39) (ad 3) u.2.2.1 u.2.2.2, gArr K 3 nw168 SQ, gArr K 7 nw174 EQ])) S C hG [0, 3, 4, 1] (c_X8_leg l K ad ou mi bo ln LF sn SF N pv2_281 (ad 3) pr2_281 pX2_281 y (kk : Int) 2 hS hN (by omega) hy (by omega) (by omega) (by omega) (by omega)) rfl rfl 0 rfl rfl (cwV 3 S.2.2.2.2 gL_isPath_X8_leg rfl rfl rfl (by decide +kernel) ⟨Nat.le_of_ble_eq_true rfl, Nat.le_of_ble_eq_true rfl⟩) rfl hl.1 rfl (Nat.le_of_ble_eq_true rfl) dL_isPath_313 ⟨Nat.le_of_ble_eq_true rfl, Nat.le_of_ble_eq_true rfl⟩ (fun _ => Nat.le_of_ble_eq_true rfl) (fun _ => rfl) (fun v u H locs hp hG => ?_)
                                        obtain ⟨v9_313, pv2_313, pr2_313, pX2_313⟩ := u
                                        obtain ⟨rfl, hp_313, hw_313⟩ := hp
                                        have hp_313 : PthR N (sP N y) (sY N y) (sD N y) pv2_313 := hp_313
                                        have hw_313 : v9_313 = pick7 2 (pv2_313.2.2.1 (kk : Int)) (pv2_313.2.2.2.1 (kk : Int)) (pv2_313.2.2.2.2.1 (kk : Int)) (pv2_313.2.2.2.2.2.1 (kk : Int)) (pv2_313.2.2.2.2.2.2.1 (kk : Int)) (pv2_313.2.2.2.2.2.2.2.1 (kk : Int)) (pv2_313.2.2.2.2.2.2.2.2 (kk : Int)) := hw_313
                                        have hG : gW K A s.heap [gRLC K ad, gScn K (ad 3) (ad 14) (ad 15) (ad 16) (ad 17) ou mi bo ln LF sn SF, gRayU K (ad 7) (ad 23) (ad 24) (ad 25) (ad 26) (ad 3) rv2_10 X2_10, gPthV K (ad 8) (ad 27) (ad 35) (ad 28) (ad 29) (ad 30) (ad 31) (ad 32) (ad 33) (ad 34) pv2_313, gRayU K (ad 35) (ad 36) (ad 37) (ad 38) (ad 39) (ad 3) pr2_313 pX2_313, gArr K 3 nw168 SQ, gArr K 7 nw174 EQ] _ _ := hG
                                        refine g_top (w := .int (iI (skS N y kk))) (congrArg (fun z : Int => Value.int (iI z)) ((legW hp_313 hw_313 (by omega)).trans rfl)) ?_
                                        refine g_iadd S dL_isPath_316 rfl ?_
                                        refine g_iast (gs' := [gRLC K ad, gScn K (ad 3) (ad 14) (ad 15) (ad 16) (ad 17) ou mi bo ln LF sn SF, gRayU K (ad 7) (ad 23) (ad 24) (ad 25) (ad 26) (ad 3) rv2_10 X2_10, gPthV K (ad 8) (ad 27) (ad 35) (ad 28) (ad 29) (ad 30) (ad 31) (ad 32) (ad 33) (ad 34) pv2_313, gRayU K (ad 35) (ad 36) (ad 37) (ad 38) (ad 39) (ad 3) pr2_313 pX2_313, gArr K 3 nw168 (upI SQ 0 ((SQ 0) + (skS N y kk))), gArr K 7 nw174 EQ]) S C hG 25 rfl (by omega) (by omega) (by omega) rfl dL_isPath_317 (fun H locs hG => ?_)
                                        refine lv_iinc (v := iI 1) (lv' := [(14, .int (iI 1)), (13, .int (iI (ykS N y kk))), (0, .ref (ad 0)), (1, .int (iI y)), (2, .int (iI (gS N y : Int))), (3, .int (iI (eS N y))), (4, .int (iI (sP N y))), (5, .int (iI 1)), (6, .ref nw168), (7, .ref nw174), (8, .int (iI dp)), (9, .int (iI pw)), (10, .int (iI ly)), (11, .int (iI dn)), (12, .int (iI (kk : Int)))]) S.1 S.2.1 dL_isPath_318 hl (k := 0) rfl (g_iinc (by decide)) (by decide) rfl (fun ls hl => ?_)
                                        refine lv_goto (tgt := 293) S.1 S.2.1 dL_isPath_321 (by decide) ?_
                                        refine lv_iload S.1 S.2.1 dL_isPath_293 (lv_at hl 0 rfl) ?_
                                        refine g_iconst S dL_isPath_295 ?_
                                        refine g_icmp_ge (tgt := 324) S dL_isPath_296 (by decide) (by omega) (by omega) (fun q296 => ?_) (fun q296 => ?_)
                                        · skip
                                          exact absurd q296 (by decide)
                                        · skip
                                          refine lv_aload S.1 S.2.1 dL_isPath_299 (lv_at hl 8 rfl) ?_
                                          refine lv_iload S.1 S.2.1 dL_isPath_301 (lv_at hl 0 rfl) ?_
                                          refine lv_dup2_11 S.1 S.2.1 dL_isPath_303 rfl rfl ?_
                                          refine g_iald S C hG 25 rfl (by omega) (by omega) (by omega) dL_isPath_304 ?_
                                          refine lv_aload_n S.1 S.2.1 dL_isPath_305 rfl (lv_at hl 2 rfl) ?_
                                          refine lv_iload_n S.1 S.2.1 dL_isPath_306 rfl (lv_at hl 3 rfl) ?_
                                          refine lv_iload S.1 S.2.1 dL_isPath_307 (lv_at hl 14 rfl) ?_
                                          refine g_iconst S dL_isPath_309 ?_
                                          refine lv_iload S.1 S.2.1 dL_isPath_310 (lv_at hl 0 rfl) ?_
                                          refine g_iadd (z := 3) S dL_isPath_312 (by decide) ?_
                                          refine g_invV (As := [.int (iI y), .int (iI (kk : Int)), .int (iI 3)]) (rest := [.int (iI ((upI SQ 0 ((SQ 0) + (skS N y kk))) 1)), .int (iI 1), .ref nw168]) (gs' := (fun u : Int × PV × RU × (Int → Int) => [gRLC K ad, gScn K (ad 3) (ad 14) (ad 15) (ad 16) (ad 17) ou mi bo ln LF sn SF, gRayU K (ad 7) (ad 23) (ad 24) (ad 25) (ad 26) (ad 3) rv2_10 X2_10, gPthV K (ad 8) (ad 27) (ad 35) (ad 28) (ad 29) (ad 30) (ad 31) (ad 32) (ad 33) (ad 34) u.2.1, gRayU K (ad 35) (ad 36) (ad 37) (ad 38) (ad 39) (ad 3) u.2.2.1 u.2.2.2, gArr K 3 nw168 (upI SQ 0 ((SQ 0) + (skS N y kk))), gArr K 7 nw174 EQ])) S C hG [0, 3, 4, 1] (c_X8_leg l K ad ou mi bo ln LF sn SF N pv2_313 (ad 3) pr2_313 pX2_313 y (kk : Int) 3 hS hN (by omega) hy (by omega) (by omega) (by omega) (by omega)) rfl rfl 0 rfl rfl (cwV 3 S.2.2.2.2 gL_isPath_X8_leg rfl rfl rfl (by decide +kernel) ⟨Nat.le_of_ble_eq_true rfl, Nat.le_of_ble_eq_true rfl⟩) rfl hl.1 rfl (Nat.le_of_ble_eq_true rfl) dL_isPath_313 ⟨Nat.le_of_ble_eq_true rfl, Nat.le_of_ble_eq_true rfl⟩ (fun _ => Nat.le_of_ble_eq_true rfl) (fun _ => rfl) (fun v u H locs hp hG => ?_)
                                          obtain ⟨v9_313_2, pv2_313_2, pr2_313_2, pX2_313_2⟩ := u
                                          obtain ⟨rfl, hp_313_2, hw_313_2⟩ := hp
                                          have hp_313_2 : PthR N (sP N y) (sY N y) (sD N y) pv2_313_2 := hp_313_2
                                          have hw_313_2 : v9_313_2 = pick7 3 (pv2_313_2.2.2.1 (kk : Int)) (pv2_313_2.2.2.2.1 (kk : Int)) (pv2_313_2.2.2.2.2.1 (kk : Int)) (pv2_313_2.2.2.2.2.2.1 (kk : Int)) (pv2_313_2.2.2.2.2.2.2.1 (kk : Int)) (pv2_313_2.2.2.2.2.2.2.2.1 (kk : Int)) (pv2_313_2.2.2.2.2.2.2.2.2 (kk : Int)) := hw_313_2
                                          have hG : gW K A s.heap [gRLC K ad, gScn K (ad 3) (ad 14) (ad 15) (ad 16) (ad 17) ou mi bo ln LF sn SF, gRayU K (ad 7) (ad 23) (ad 24) (ad 25) (ad 26) (ad 3) rv2_10 X2_10, gPthV K (ad 8) (ad 27) (ad 35) (ad 28) (ad 29) (ad 30) (ad 31) (ad 32) (ad 33) (ad 34) pv2_313_2, gRayU K (ad 35) (ad 36) (ad 37) (ad 38) (ad 39) (ad 3) pr2_313_2 pX2_313_2, gArr K 3 nw168 (upI SQ 0 ((SQ 0) + (skS N y kk))), gArr K 7 nw174 EQ] _ _ := hG
                                          refine g_top (w := .int (iI (lkS N y kk))) (congrArg (fun z : Int => Value.int (iI z)) ((legW hp_313_2 hw_313_2 (by omega)).trans rfl)) ?_
                                          refine g_iadd S dL_isPath_316 rfl ?_
                                          refine g_iast (gs' := [gRLC K ad, gScn K (ad 3) (ad 14) (ad 15) (ad 16) (ad 17) ou mi bo ln LF sn SF, gRayU K (ad 7) (ad 23) (ad 24) (ad 25) (ad 26) (ad 3) rv2_10 X2_10, gPthV K (ad 8) (ad 27) (ad 35) (ad 28) (ad 29) (ad 30) (ad 31) (ad 32) (ad 33) (ad 34) pv2_313_2, gRayU K (ad 35) (ad 36) (ad 37) (ad 38) (ad 39) (ad 3) pr2_313_2 pX2_313_2, gArr K 3 nw168 (upI (upI SQ 0 ((SQ 0) + (skS N y kk))) 1 (((upI SQ 0 ((SQ 0) + (skS N y kk))) 1) + (lkS N y kk))), gArr K 7 nw174 EQ]) S C hG 25 rfl (by omega) (by omega) (by omega) rfl dL_isPath_317 (fun H locs hG => ?_)
                                          refine lv_iinc (v := iI 2) (lv' := [(14, .int (iI 2)), (13, .int (iI (ykS N y kk))), (0, .ref (ad 0)), (1, .int (iI y)), (2, .int (iI (gS N y : Int))), (3, .int (iI (eS N y))), (4, .int (iI (sP N y))), (5, .int (iI 1)), (6, .ref nw168), (7, .ref nw174), (8, .int (iI dp)), (9, .int (iI pw)), (10, .int (iI ly)), (11, .int (iI dn)), (12, .int (iI (kk : Int)))]) S.1 S.2.1 dL_isPath_318 hl (k := 0) rfl (g_iinc (by decide)) (by decide) rfl (fun ls hl => ?_)
                                          refine lv_goto (tgt := 293) S.1 S.2.1 dL_isPath_321 (by decide) ?_
                                          refine lv_iload S.1 S.2.1 dL_isPath_293 (lv_at hl 0 rfl) ?_
                                          refine g_iconst S dL_isPath_295 ?_
                                          refine g_icmp_ge (tgt := 324) S dL_isPath_296 (by decide) (by omega) (by omega) (fun q296 => ?_) (fun q296 => ?_)
                                          · skip
                                            exact absurd q296 (by decide)
                                          · skip
                                            refine lv_aload S.1 S.2.1 dL_isPath_299 (lv_at hl 8 rfl) ?_
                                            refine lv_iload S.1 S.2.1 dL_isPath_301 (lv_at hl 0 rfl) ?_
                                            refine lv_dup2_11 S.1 S.2.1 dL_isPath_303 rfl rfl ?_
                                            refine g_iald S C hG 25 rfl (by omega) (by omega) (by omega) dL_isPath_304 ?_
                                            refine lv_aload_n S.1 S.2.1 dL_isPath_305 rfl (lv_at hl 2 rfl) ?_
                                            refine lv_iload_n S.1 S.2.1 dL_isPath_306 rfl (lv_at hl 3 rfl) ?_
                                            refine lv_iload S.1 S.2.1 dL_isPath_307 (lv_at hl 14 rfl) ?_
                                            refine g_iconst S dL_isPath_309 ?_
                                            refine lv_iload S.1 S.2.1 dL_isPath_310 (lv_at hl 0 rfl) ?_
                                            refine g_iadd (z := 4) S dL_isPath_312 (by decide) ?_
                                            refine g_invV (As := [.int (iI y), .int (iI (kk : Int)), .int (iI 4)]) (rest := [.int (iI ((upI (upI SQ 0 ((SQ 0) + (skS N y kk))) 1 (((upI SQ 0 ((SQ 0) + (skS N y kk))) 1) + (lkS N y kk))) 2)), .int (iI 2), .ref nw168]) (gs' := (fun u : Int × PV × RU × (Int → Int) => [gRLC K ad, gScn K (ad 3) (ad 14) (ad 15) (ad 16) (ad 17) ou mi bo ln LF sn SF, gRayU K (ad 7) (ad 23) (ad 24) (ad 25) (ad 26) (ad 3) rv2_10 X2_10, gPthV K (ad 8) (ad 27) (ad 35) (ad 28) (ad 29) (ad 30) (ad 31) (ad 32) (ad 33) (ad 34) u.2.1, gRayU K (ad 35) (ad 36) (ad 37) (ad 38) (ad 39) (ad 3) u.2.2.1 u.2.2.2, gArr K 3 nw168 (upI (upI SQ 0 ((SQ 0) + (skS N y kk))) 1 (((upI SQ 0 ((SQ 0) + (skS N y kk))) 1) + (lkS N y kk))), gArr K 7 nw174 EQ])) S C hG [0, 3, 4, 1] (c_X8_leg l K ad ou mi bo ln LF sn SF N pv2_313_2 (ad 3) pr2_313_2 pX2_313_2 y (kk : Int) 4 hS hN (by omega) hy (by omega) (by omega) (by omega) (by omega)) rfl rfl 0 rfl rfl (cwV 3 S.2.2.2.2 gL_isPath_X8_leg rfl rfl rfl (by decide +kernel) ⟨Nat.le_of_ble_eq_true rfl, Nat.le_of_ble_eq_true rfl⟩) rfl hl.1 rfl (Nat.le_of_ble_eq_true rfl) dL_isPath_313 ⟨Nat.le_of_ble_eq_true rfl, Nat.le_of_ble_eq_true rfl⟩ (fun _ => Nat.le_of_ble_eq_true rfl) (fun _ => rfl) (fun v u H locs hp hG => ?_)
                                            obtain ⟨v9_313_3, pv2_313_3, pr2_313_3, pX2_313_3⟩ := u
                                            obtain ⟨rfl, hp_313_3, hw_313_3⟩ := hp
                                            have hp_313_3 : PthR N (sP N y) (sY N y) (sD N y) pv2_313_3 := hp_313_3
                                            have hw_313_3 : v9_313_3 = pick7 4 (pv2_313_3.2.2.1 (kk : Int)) (pv2_313_3.2.2.2.1 (kk : Int)) (pv2_313_3.2.2.2.2.1 (kk : Int)) (pv2_313_3.2.2.2.2.2.1 (kk : Int)) (pv2_313_3.2.2.2.2.2.2.1 (kk : Int)) (pv2_313_3.2.2.2.2.2.2.2.1 (kk : Int)) (pv2_313_3.2.2.2.2.2.2.2.2 (kk : Int)) := hw_313_3
                                            have hG : gW K A s.heap [gRLC K ad, gScn K (ad 3) (ad 14) (ad 15) (ad 16) (ad 17) ou mi bo ln LF sn SF, gRayU K (ad 7) (ad 23) (ad 24) (ad 25) (ad 26) (ad 3) rv2_10 X2_10, gPthV K (ad 8) (ad 27) (ad 35) (ad 28) (ad 29) (ad 30) (ad 31) (ad 32) (ad 33) (ad 34) pv2_313_3, gRayU K (ad 35) (ad 36) (ad 37) (ad 38) (ad 39) (ad 3) pr2_313_3 pX2_313_3, gArr K 3 nw168 (upI (upI SQ 0 ((SQ 0) + (skS N y kk))) 1 (((upI SQ 0 ((SQ 0) + (skS N y kk))) 1) + (lkS N y kk))), gArr K 7 nw174 EQ] _ _ := hG
                                            refine g_top (w := .int (iI (tqS N y kk))) (congrArg (fun z : Int => Value.int (iI z)) ((legW hp_313_3 hw_313_3 (by omega)).trans rfl)) ?_
                                            refine g_iadd S dL_isPath_316 rfl ?_
                                            refine g_iast (gs' := [gRLC K ad, gScn K (ad 3) (ad 14) (ad 15) (ad 16) (ad 17) ou mi bo ln LF sn SF, gRayU K (ad 7) (ad 23) (ad 24) (ad 25) (ad 26) (ad 3) rv2_10 X2_10, gPthV K (ad 8) (ad 27) (ad 35) (ad 28) (ad 29) (ad 30) (ad 31) (ad 32) (ad 33) (ad 34) pv2_313_3, gRayU K (ad 35) (ad 36) (ad 37) (ad 38) (ad 39) (ad 3) pr2_313_3 pX2_313_3, gArr K 3 nw168 (upI (upI (upI SQ 0 ((SQ 0) + (skS N y kk))) 1 (((upI SQ 0 ((SQ 0) + (skS N y kk))) 1) + (lkS N y kk))) 2 (((upI (upI SQ 0 ((SQ 0) + (skS N y kk))) 1 (((upI SQ 0 ((SQ 0) + (skS N y kk))) 1) + (lkS N y kk))) 2) + (tqS N y kk))), gArr K 7 nw174 EQ]) S C hG 25 rfl (by omega) (by omega) (by omega) rfl dL_isPath_317 (fun H locs hG => ?_)
                                            refine lv_iinc (v := iI 3) (lv' := [(14, .int (iI 3)), (13, .int (iI (ykS N y kk))), (0, .ref (ad 0)), (1, .int (iI y)), (2, .int (iI (gS N y : Int))), (3, .int (iI (eS N y))), (4, .int (iI (sP N y))), (5, .int (iI 1)), (6, .ref nw168), (7, .ref nw174), (8, .int (iI dp)), (9, .int (iI pw)), (10, .int (iI ly)), (11, .int (iI dn)), (12, .int (iI (kk : Int)))]) S.1 S.2.1 dL_isPath_318 hl (k := 0) rfl (g_iinc (by decide)) (by decide) rfl (fun ls hl => ?_)
                                            refine lv_goto (tgt := 293) S.1 S.2.1 dL_isPath_321 (by decide) ?_
                                            refine lv_iload S.1 S.2.1 dL_isPath_293 (lv_at hl 0 rfl) ?_
                                            refine g_iconst S dL_isPath_295 ?_
                                            refine g_icmp_ge (tgt := 324) S dL_isPath_296 (by decide) (by omega) (by omega) (fun q296 => ?_) (fun q296 => ?_)
                                            · skip
                                              refine lv_aload_n S.1 S.2.1 dL_isPath_324 rfl (lv_at hl 2 rfl) ?_
                                              refine lv_iload_n S.1 S.2.1 dL_isPath_325 rfl (lv_at hl 3 rfl) ?_
                                              refine lv_iload S.1 S.2.1 dL_isPath_326 (lv_at hl 14 rfl) ?_
                                              refine g_iconst S dL_isPath_328 ?_
                                              refine g_invV (As := [.int (iI y), .int (iI (kk : Int)), .int (iI 5)]) (rest := []) (gs' := (fun u : Int × PV × RU × (Int → Int) => [gRLC K ad, gScn K (ad 3) (ad 14) (ad 15) (ad 16) (ad 17) ou mi bo ln LF sn SF, gRayU K (ad 7) (ad 23) (ad 24) (ad 25) (ad 26) (ad 3) rv2_10 X2_10, gPthV K (ad 8) (ad 27) (ad 35) (ad 28) (ad 29) (ad 30) (ad 31) (ad 32) (ad 33) (ad 34) u.2.1, gRayU K (ad 35) (ad 36) (ad 37) (ad 38) (ad 39) (ad 3) u.2.2.1 u.2.2.2, gArr K 3 nw168 (upI (upI (upI SQ 0 ((SQ 0) + (skS N y kk))) 1 (((upI SQ 0 ((SQ 0) + (skS N y kk))) 1) + (lkS N y kk))) 2 (((upI (upI SQ 0 ((SQ 0) + (skS N y kk))) 1 (((upI SQ 0 ((SQ 0) + (skS N y kk))) 1) + (lkS N y kk))) 2) + (tqS N y kk))), gArr K 7 nw174 EQ])) S C hG [0, 3, 4, 1] (c_X8_leg l K ad ou mi bo ln LF sn SF N pv2_313_3 (ad 3) pr2_313_3 pX2_313_3 y (kk : Int) 5 hS hN (by omega) hy (by omega) (by omega) (by omega) (by omega)) rfl rfl 0 rfl rfl (cwV 3 S.2.2.2.2 gL_isPath_X8_leg rfl rfl rfl (by decide +kernel) ⟨Nat.le_of_ble_eq_true rfl, Nat.le_of_ble_eq_true rfl⟩) rfl hl.1 rfl (Nat.le_of_ble_eq_true rfl) dL_isPath_329 ⟨Nat.le_of_ble_eq_true rfl, Nat.le_of_ble_eq_true rfl⟩ (fun _ => Nat.le_of_ble_eq_true rfl) (fun _ => rfl) (fun v u H locs hp hG => ?_)
                                              obtain ⟨v9_329, pv2_329, pr2_329, pX2_329⟩ := u
                                              obtain ⟨rfl, hp_329, hw_329⟩ := hp
                                              have hp_329 : PthR N (sP N y) (sY N y) (sD N y) pv2_329 := hp_329
                                              have hw_329 : v9_329 = pick7 5 (pv2_329.2.2.1 (kk : Int)) (pv2_329.2.2.2.1 (kk : Int)) (pv2_329.2.2.2.2.1 (kk : Int)) (pv2_329.2.2.2.2.2.1 (kk : Int)) (pv2_329.2.2.2.2.2.2.1 (kk : Int)) (pv2_329.2.2.2.2.2.2.2.1 (kk : Int)) (pv2_329.2.2.2.2.2.2.2.2 (kk : Int)) := hw_329
                                              have hG : gW K A s.heap [gRLC K ad, gScn K (ad 3) (ad 14) (ad 15) (ad 16) (ad 17) ou mi bo ln LF sn SF, gRayU K (ad 7) (ad 23) (ad 24) (ad 25) (ad 26) (ad 3) rv2_10 X2_10, gPthV K (ad 8) (ad 27) (ad 35) (ad 28) (ad 29) (ad 30) (ad 31) (ad 32) (ad 33) (ad 34) pv2_329, gRayU K (ad 35) (ad 36) (ad 37) (ad 38) (ad 39) (ad 3) pr2_329 pX2_329, gArr K 3 nw168 (upI (upI (upI SQ 0 ((SQ 0) + (skS N y kk))) 1 (((upI SQ 0 ((SQ 0) + (skS N y kk))) 1) + (lkS N y kk))) 2 (((upI (upI SQ 0 ((SQ 0) + (skS N y kk))) 1 (((upI SQ 0 ((SQ 0) + (skS N y kk))) 1) + (lkS N y kk))) 2) + (tqS N y kk))), gArr K 7 nw174 EQ] _ _ := hG
                                              refine g_top (w := .int (iI (kS N y kk))) (congrArg (fun z : Int => Value.int (iI z)) ((legW hp_329 hw_329 (by omega)).trans rfl)) ?_
                                              refine lv_istore (lv' := [(9, .int (iI (kS N y kk))), (14, .int (iI 3)), (13, .int (iI (ykS N y kk))), (0, .ref (ad 0)), (1, .int (iI y)), (2, .int (iI (gS N y : Int))), (3, .int (iI (eS N y))), (4, .int (iI (sP N y))), (5, .int (iI 1)), (6, .ref nw168), (7, .ref nw174), (8, .int (iI dp)), (10, .int (iI ly)), (11, .int (iI dn)), (12, .int (iI (kk : Int)))]) S.1 S.2.1 dL_isPath_332 hl (by decide) rfl (fun ls hl => ?_)
                                              refine lv_aload_n S.1 S.2.1 dL_isPath_334 rfl (lv_at hl 3 rfl) ?_
                                              refine lv_iload_n S.1 S.2.1 dL_isPath_335 rfl (lv_at hl 4 rfl) ?_
                                              refine lv_iload S.1 S.2.1 dL_isPath_336 (lv_at hl 14 rfl) ?_
                                              refine g_bipush S dL_isPath_338 (by decide) ?_
                                              refine g_invV (As := [.int (iI y), .int (iI (kk : Int)), .int (iI 6)]) (rest := []) (gs' := (fun u : Int × PV × RU × (Int → Int) => [gRLC K ad, gScn K (ad 3) (ad 14) (ad 15) (ad 16) (ad 17) ou mi bo ln LF sn SF, gRayU K (ad 7) (ad 23) (ad 24) (ad 25) (ad 26) (ad 3) rv2_10 X2_10, gPthV K (ad 8) (ad 27) (ad 35) (ad 28) (ad 29) (ad 30) (ad 31) (ad 32) (ad 33) (ad 34) u.2.1, gRayU K (ad 35) (ad 36) (ad 37) (ad 38) (ad 39) (ad 3) u.2.2.1 u.2.2.2, gArr K 3 nw168 (upI (upI (upI SQ 0 ((SQ 0) + (skS N y kk))) 1 (((upI SQ 0 ((SQ 0) + (skS N y kk))) 1) + (lkS N y kk))) 2 (((upI (upI SQ 0 ((SQ 0) + (skS N y kk))) 1 (((upI SQ 0 ((SQ 0) + (skS N y kk))) 1) + (lkS N y kk))) 2) + (tqS N y kk))), gArr K 7 nw174 EQ])) S C hG [0, 3, 4, 1] (c_X8_leg l K ad ou mi bo ln LF sn SF N pv2_329 (ad 3) pr2_329 pX2_329 y (kk : Int) 6 hS hN (by omega) hy (by omega) (by omega) (by omega) (by omega)) rfl rfl 0 rfl rfl (cwV 3 S.2.2.2.2 gL_isPath_X8_leg rfl rfl rfl (by decide +kernel) ⟨Nat.le_of_ble_eq_true rfl, Nat.le_of_ble_eq_true rfl⟩) rfl hl.1 rfl (Nat.le_of_ble_eq_true rfl) dL_isPath_340 ⟨Nat.le_of_ble_eq_true rfl, Nat.le_of_ble_eq_true rfl⟩ (fun _ => Nat.le_of_ble_eq_true rfl) (fun _ => rfl) (fun v u H locs hp hG => ?_)
                                              obtain ⟨v9_340, pv2_340, pr2_340, pX2_340⟩ := u
                                              obtain ⟨rfl, hp_340, hw_340⟩ := hp
                                              have hp_340 : PthR N (sP N y) (sY N y) (sD N y) pv2_340 := hp_340
                                              have hw_340 : v9_340 = pick7 6 (pv2_340.2.2.1 (kk : Int)) (pv2_340.2.2.2.1 (kk : Int)) (pv2_340.2.2.2.2.1 (kk : Int)) (pv2_340.2.2.2.2.2.1 (kk : Int)) (pv2_340.2.2.2.2.2.2.1 (kk : Int)) (pv2_340.2.2.2.2.2.2.2.1 (kk : Int)) (pv2_340.2.2.2.2.2.2.2.2 (kk : Int)) := hw_340
                                              have hG : gW K A s.heap [gRLC K ad, gScn K (ad 3) (ad 14) (ad 15) (ad 16) (ad 17) ou mi bo ln LF sn SF, gRayU K (ad 7) (ad 23) (ad 24) (ad 25) (ad 26) (ad 3) rv2_10 X2_10, gPthV K (ad 8) (ad 27) (ad 35) (ad 28) (ad 29) (ad 30) (ad 31) (ad 32) (ad 33) (ad 34) pv2_340, gRayU K (ad 35) (ad 36) (ad 37) (ad 38) (ad 39) (ad 3) pr2_340 pX2_340, gArr K 3 nw168 (upI (upI (upI SQ 0 ((SQ 0) + (skS N y kk))) 1 (((upI SQ 0 ((SQ 0) + (skS N y kk))) 1) + (lkS N y kk))) 2 (((upI (upI SQ 0 ((SQ 0) + (skS N y kk))) 1 (((upI SQ 0 ((SQ 0) + (skS N y kk))) 1) + (lkS N y kk))) 2) + (tqS N y kk))), gArr K 7 nw174 EQ] _ _ := hG
                                              refine g_top (w := .int (iI (evS N y kk))) (congrArg (fun z : Int => Value.int (iI z)) ((legW hp_340 hw_340 (by omega)).trans rfl)) ?_
                                              refine lv_istore (lv' := [(14, .int (iI (evS N y kk))), (9, .int (iI (kS N y kk))), (13, .int (iI (ykS N y kk))), (0, .ref (ad 0)), (1, .int (iI y)), (2, .int (iI (gS N y : Int))), (3, .int (iI (eS N y))), (4, .int (iI (sP N y))), (5, .int (iI 1)), (6, .ref nw168), (7, .ref nw174), (8, .int (iI dp)), (10, .int (iI ly)), (11, .int (iI dn)), (12, .int (iI (kk : Int)))]) S.1 S.2.1 dL_isPath_343 hl (by decide) rfl (fun ls hl => ?_)
                                              refine lv_aload S.1 S.2.1 dL_isPath_345 (lv_at hl 10 rfl) ?_
                                              refine lv_iload S.1 S.2.1 dL_isPath_347 (lv_at hl 0 rfl) ?_
                                              refine lv_dup2_11 S.1 S.2.1 dL_isPath_349 rfl rfl ?_
                                              refine g_iald S C hG 26 rfl (by omega) (by omega) (by omega) dL_isPath_350 ?_
                                              refine g_iconst S dL_isPath_351 ?_
                                              refine g_iadd S dL_isPath_352 rfl ?_
                                              refine g_iast (gs' := [gRLC K ad, gScn K (ad 3) (ad 14) (ad 15) (ad 16) (ad 17) ou mi bo ln LF sn SF, gRayU K (ad 7) (ad 23) (ad 24) (ad 25) (ad 26) (ad 3) rv2_10 X2_10, gPthV K (ad 8) (ad 27) (ad 35) (ad 28) (ad 29) (ad 30) (ad 31) (ad 32) (ad 33) (ad 34) pv2_340, gRayU K (ad 35) (ad 36) (ad 37) (ad 38) (ad 39) (ad 3) pr2_340 pX2_340, gArr K 3 nw168 (upI (upI (upI SQ 0 ((SQ 0) + (skS N y kk))) 1 (((upI SQ 0 ((SQ 0) + (skS N y kk))) 1) + (lkS N y kk))) 2 (((upI (upI SQ 0 ((SQ 0) + (skS N y kk))) 1 (((upI SQ 0 ((SQ 0) + (skS N y kk))) 1) + (lkS N y kk))) 2) + (tqS N y kk))), gArr K 7 nw174 (upI EQ (evS N y kk) ((EQ (evS N y kk)) + 1))]) S C hG 26 rfl (by omega) (by omega) (by omega) rfl dL_isPath_353 (fun H locs hG => ?_)
                                              refine lv_iload S.1 S.2.1 dL_isPath_354 (lv_at hl 11 rfl) ?_
                                              refine lv_iload S.1 S.2.1 dL_isPath_356 (lv_at hl 2 rfl) ?_
                                              refine va_mmax S.1 S.2.1 (by rw [S.2.2.1]; exact hl.1.symm) S.2.2.2.1 (S.2.2.2.2 _ (List.mem_of_getElem? (i := 7) rfl)) (S.2.2.2.2 _ (List.mem_of_getElem? (i := 8) rfl)) (S.2.2.2.2 _ (List.mem_of_getElem? (i := 3) rfl)) (S.2.2.2.2 _ (List.mem_of_getElem? (i := 9) rfl)) (Nat.le_of_ble_eq_true rfl) (Nat.le_of_ble_eq_true rfl) (Nat.le_of_ble_eq_true rfl) (Nat.le_of_ble_eq_true rfl) dL_isPath_358 ?_
                                              refine g_top (w := .int (iI (max dp (ykS N y kk)))) (imax_eq (by omega) (by omega)) ?_
                                              refine g_top (w := .int (iI (max dp (ykS N y kk)))) (congrArg (fun z : Int => Value.int (iI z)) (rfl)) ?_
                                              refine lv_istore (lv' := [(8, .int (iI (max dp (ykS N y kk)))), (14, .int (iI (evS N y kk))), (9, .int (iI (kS N y kk))), (13, .int (iI (ykS N y kk))), (0, .ref (ad 0)), (1, .int (iI y)), (2, .int (iI (gS N y : Int))), (3, .int (iI (eS N y))), (4, .int (iI (sP N y))), (5, .int (iI 1)), (6, .ref nw168), (7, .ref nw174), (10, .int (iI ly)), (11, .int (iI dn)), (12, .int (iI (kk : Int)))]) S.1 S.2.1 dL_isPath_361 hl (by decide) rfl (fun ls hl => ?_)
                                              refine lv_iload S.1 S.2.1 dL_isPath_363 (lv_at hl 14 rfl) ?_
                                              refine g_iconst S dL_isPath_365 ?_
                                              refine g_iadd S dL_isPath_366 rfl ?_
                                              refine lv_iload_n S.1 S.2.1 dL_isPath_367 rfl (lv_at hl 6 rfl) ?_
                                              refine g_icmp_ge (tgt := 375) S dL_isPath_368 (by decide) (by omega) (by omega) (fun q368 => ?_) (fun q368 => ?_)
                                              · skip
                                                have hv7 := hv8.2.2 (by omega)
                                                refine g_iconst S dL_isPath_375 ?_
                                                refine lv_iload S.1 S.2.1 dL_isPath_376 (lv_at hl 1 rfl) ?_
                                                refine g_iconst S dL_isPath_378 ?_
                                                refine g_icmp_ge (tgt := 386) S dL_isPath_379 (by decide) (by omega) (by omega) (fun q379 => ?_) (fun q379 => ?_)
                                                · skip
                                                  refine g_iconst S dL_isPath_386 ?_
                                                  refine g_icmp_eq (tgt := 392) S dL_isPath_387 (by decide) (by omega) (by omega) (fun q387 => ?_) (fun q387 => ?_)
                                                  · skip
                                                    refine lv_iload S.1 S.2.1 dL_isPath_392 (lv_at hl 12 rfl) ?_
                                                    refine lv_iload S.1 S.2.1 dL_isPath_394 (lv_at hl 1 rfl) ?_
                                                    refine g_if_ne (tgt := 413) S dL_isPath_396 (by decide) (by omega) (fun q396 => ?_) (fun q396 => ?_)
                                                    · skip
                                                      refine g_iconst S dL_isPath_413 ?_
                                                      refine g_iadd S dL_isPath_414 rfl ?_
                                                      refine lv_istore (lv' := [(10, .int (iI (ly + 0))), (8, .int (iI (max dp (ykS N y kk)))), (14, .int (iI (evS N y kk))), (9, .int (iI (kS N y kk))), (13, .int (iI (ykS N y kk))), (0, .ref (ad 0)), (1, .int (iI y)), (2, .int (iI (gS N y : Int))), (3, .int (iI (eS N y))), (4, .int (iI (sP N y))), (5, .int (iI 1)), (6, .ref nw168), (7, .ref nw174), (11, .int (iI dn)), (12, .int (iI (kk : Int)))]) S.1 S.2.1 dL_isPath_415 hl (by decide) rfl (fun ls hl => ?_)
                                                      refine lv_iload S.1 S.2.1 dL_isPath_417 (lv_at hl 2 rfl) ?_
                                                      refine g_if_ne (tgt := 427) S dL_isPath_419 (by decide) (by omega) (fun q419 => ?_) (fun q419 => ?_)
                                                      · skip
                                                        refine lv_iload S.1 S.2.1 dL_isPath_427 (lv_at hl 2 rfl) ?_
                                                        refine g_iconst S dL_isPath_429 ?_
                                                        refine g_icmp_ne (tgt := 440) S dL_isPath_430 (by decide) (by omega) (by omega) (fun q430 => ?_) (fun q430 => ?_)
                                                        · skip
                                                          refine g_iconst S dL_isPath_440 ?_
                                                          refine lv_istore (lv' := [(11, .int (iI 0)), (10, .int (iI (ly + 0))), (8, .int (iI (max dp (ykS N y kk)))), (14, .int (iI (evS N y kk))), (9, .int (iI (kS N y kk))), (13, .int (iI (ykS N y kk))), (0, .ref (ad 0)), (1, .int (iI y)), (2, .int (iI (gS N y : Int))), (3, .int (iI (eS N y))), (4, .int (iI (sP N y))), (5, .int (iI 1)), (6, .ref nw168), (7, .ref nw174), (12, .int (iI (kk : Int)))]) S.1 S.2.1 dL_isPath_441 hl (by decide) rfl (fun ls hl => ?_)
                                                          refine lv_iload S.1 S.2.1 dL_isPath_443 (lv_at hl 3 rfl) ?_
                                                          refine g_iconst S dL_isPath_445 ?_
                                                          refine g_icmp_ne (tgt := 459) S dL_isPath_446 (by decide) (by omega) (by omega) (fun q446 => ?_) (fun q446 => ?_)
                                                          · skip
                                                            refine lv_iload S.1 S.2.1 dL_isPath_459 (lv_at hl 3 rfl) ?_
                                                            refine g_iconst S dL_isPath_461 ?_
                                                            refine g_icmp_ne (tgt := 484) S dL_isPath_462 (by decide) (by omega) (by omega) (fun q462 => ?_) (fun q462 => ?_)
                                                            · skip
                                                              refine lv_iload S.1 S.2.1 dL_isPath_484 (lv_at hl 3 rfl) ?_
                                                              refine g_iconst S dL_isPath_486 ?_
                                                              refine g_icmp_ne (tgt := 520) S dL_isPath_487 (by decide) (by omega) (by omega) (fun q487 => ?_) (fun q487 => ?_)
                                                              · skip
                                                                refine lv_iinc (v := iI ((kk : Int) + 1)) (lv' := [(12, .int (iI ((kk : Int) + 1))), (11, .int (iI 0)), (10, .int (iI (ly + 0))), (8, .int (iI (max dp (ykS N y kk)))), (14, .int (iI (evS N y kk))), (9, .int (iI (kS N y kk))), (13, .int (iI (ykS N y kk))), (0, .ref (ad 0)), (1, .int (iI y)), (2, .int (iI (gS N y : Int))), (3, .int (iI (eS N y))), (4, .int (iI (sP N y))), (5, .int (iI 1)), (6, .ref nw168), (7, .ref nw174)]) S.1 S.2.1 dL_isPath_520 hl (k := 14) rfl (g_iinc rfl) (by decide) rfl (fun ls hl => ?_)
                                                                refine lv_goto (tgt := 204) S.1 S.2.1 dL_isPath_523 (by decide) ?_
                                                                exact ih (kk + 1) (kS N y kk) (max dp (ykS N y kk)) (ly + 0) 0 (upI (upI (upI SQ 0 ((SQ 0) + (skS N y kk))) 1 (((upI SQ 0 ((SQ 0) + (skS N y kk))) 1) + (lkS N y kk))) 2 (((upI (upI SQ 0 ((SQ 0) + (skS N y kk))) 1 (((upI SQ 0 ((SQ 0) + (skS N y kk))) 1) + (lkS N y kk))) 2) + (tqS N y kk))) (upI EQ (evS N y kk) ((EQ (evS N y kk)) + 1)) pv2_340 (ad 3) pr2_340 pX2_340 _ _ _ (by omega) (by omega) (fun z => absurd z (by omega)) ⟨hn8.2, by omega, by omega⟩ (by refine ⟨?_, by omega⟩; show _ = max 0 (max (dpN (ykS N y) kk) (ykS N y kk)); omega) hs8 he8x (lv_sub hl [7, 8, 9, 10, 11, 12, 13, 14, 3, 5, 2, 1, 0] rfl) hG
                                                              · skip
                                                                omega
                                                            · skip
                                                              refine lv_aload_n S.1 S.2.1 dL_isPath_465 rfl (lv_at hl 6 rfl) ?_
                                                              refine g_iconst S dL_isPath_466 ?_
                                                              refine g_invV (As := [.int (iI 2)]) (rest := []) (gs' := (fun u : Unit => [gRLC K ad, gScn K (ad 3) (ad 14) (ad 15) (ad 16) (ad 17) ou mi bo ln LF sn SF, gRayU K (ad 7) (ad 23) (ad 24) (ad 25) (ad 26) (ad 3) rv2_10 X2_10, gPthV K (ad 8) (ad 27) (ad 35) (ad 28) (ad 29) (ad 30) (ad 31) (ad 32) (ad 33) (ad 34) pv2_340, gRayU K (ad 35) (ad 36) (ad 37) (ad 38) (ad 39) (ad 3) pr2_340 pX2_340, gArr K 3 nw168 (upI (upI (upI SQ 0 ((SQ 0) + (skS N y kk))) 1 (((upI SQ 0 ((SQ 0) + (skS N y kk))) 1) + (lkS N y kk))) 2 (((upI (upI SQ 0 ((SQ 0) + (skS N y kk))) 1 (((upI SQ 0 ((SQ 0) + (skS N y kk))) 1) + (lkS N y kk))) 2) + (tqS N y kk))), gArr K 7 nw174 (upI EQ (evS N y kk) ((EQ (evS N y kk)) + 1))])) S C hG [0, 1] (c_X8_property l K ad ou mi bo ln LF sn SF N 2 hS hN (by omega)) rfl rfl 0 rfl rfl (cwV 1 S.2.2.2.2 gL_isPath_X8_property rfl rfl rfl (by decide +kernel) ⟨Nat.le_of_ble_eq_true rfl, Nat.le_of_ble_eq_true rfl⟩) rfl hl.1 rfl (Nat.le_of_ble_eq_true rfl) dL_isPath_467 ⟨Nat.le_of_ble_eq_true rfl, Nat.le_of_ble_eq_true rfl⟩ (fun _ => Nat.le_of_ble_eq_true rfl) (fun _ => rfl) (fun v u H locs hp hG => ?_)
                                                              subst hp
                                                              refine g_top (w := .int (iI (N 2))) (congrArg (fun z : Int => Value.int (iI z)) (by first | rfl | exact if_neg (by decide))) ?_
                                                              refine g_iconst S dL_isPath_470 ?_
                                                              refine g_icmp_eq (tgt := 518) S dL_isPath_471 (by decide) (by omega) (by omega) (fun q471 => ?_) (fun q471 => ?_)
                                                              · skip
                                                                omega
                                                              · skip
                                                                refine lv_aload_n S.1 S.2.1 dL_isPath_474 rfl (lv_at hl 6 rfl) ?_
                                                                refine g_iconst S dL_isPath_475 ?_
                                                                refine g_invV (As := [.int (iI 3)]) (rest := []) (gs' := (fun u : Unit => [gRLC K ad, gScn K (ad 3) (ad 14) (ad 15) (ad 16) (ad 17) ou mi bo ln LF sn SF, gRayU K (ad 7) (ad 23) (ad 24) (ad 25) (ad 26) (ad 3) rv2_10 X2_10, gPthV K (ad 8) (ad 27) (ad 35) (ad 28) (ad 29) (ad 30) (ad 31) (ad 32) (ad 33) (ad 34) pv2_340, gRayU K (ad 35) (ad 36) (ad 37) (ad 38) (ad 39) (ad 3) pr2_340 pX2_340, gArr K 3 nw168 (upI (upI (upI SQ 0 ((SQ 0) + (skS N y kk))) 1 (((upI SQ 0 ((SQ 0) + (skS N y kk))) 1) + (lkS N y kk))) 2 (((upI (upI SQ 0 ((SQ 0) + (skS N y kk))) 1 (((upI SQ 0 ((SQ 0) + (skS N y kk))) 1) + (lkS N y kk))) 2) + (tqS N y kk))), gArr K 7 nw174 (upI EQ (evS N y kk) ((EQ (evS N y kk)) + 1))])) S C hG [0, 1] (c_X8_property l K ad ou mi bo ln LF sn SF N 3 hS hN (by omega)) rfl rfl 0 rfl rfl (cwV 1 S.2.2.2.2 gL_isPath_X8_property rfl rfl rfl (by decide +kernel) ⟨Nat.le_of_ble_eq_true rfl, Nat.le_of_ble_eq_true rfl⟩) rfl hl.1 rfl (Nat.le_of_ble_eq_true rfl) dL_isPath_476 ⟨Nat.le_of_ble_eq_true rfl, Nat.le_of_ble_eq_true rfl⟩ (fun _ => Nat.le_of_ble_eq_true rfl) (fun _ => rfl) (fun v u H locs hp hG => ?_)
                                                                subst hp
                                                                refine g_top (w := .int (iI (N 3))) (congrArg (fun z : Int => Value.int (iI z)) (by first | rfl | exact if_neg (by decide))) ?_
                                                                refine lv_iload S.1 S.2.1 dL_isPath_479 (lv_at hl 10 rfl) ?_
                                                                refine g_icmp_le (tgt := 518) S dL_isPath_481 (by decide) (by omega) (by omega) (fun q481 => ?_) (fun q481 => ?_)
                                                                · skip
                                                                  omega
                                                                · skip
                                                                  refine lv_iload S.1 S.2.1 dL_isPath_484 (lv_at hl 3 rfl) ?_
                                                                  refine g_iconst S dL_isPath_486 ?_
                                                                  refine g_icmp_ne (tgt := 520) S dL_isPath_487 (by decide) (by omega) (by omega) (fun q487 => ?_) (fun q487 => ?_)
                                                                  · skip
                                                                    refine lv_iinc (v := iI ((kk : Int) + 1)) (lv' := [(12, .int (iI ((kk : Int) + 1))), (11, .int (iI 0)), (10, .int (iI (ly + 0))), (8, .int (iI (max dp (ykS N y kk)))), (14, .int (iI (evS N y kk))), (9, .int (iI (kS N y kk))), (13, .int (iI (ykS N y kk))), (0, .ref (ad 0)), (1, .int (iI y)), (2, .int (iI (gS N y : Int))), (3, .int (iI (eS N y))), (4, .int (iI (sP N y))), (5, .int (iI 1)), (6, .ref nw168), (7, .ref nw174)]) S.1 S.2.1 dL_isPath_520 hl (k := 14) rfl (g_iinc rfl) (by decide) rfl (fun ls hl => ?_)
                                                                    refine lv_goto (tgt := 204) S.1 S.2.1 dL_isPath_523 (by decide) ?_
                                                                    exact ih (kk + 1) (kS N y kk) (max dp (ykS N y kk)) (ly + 0) 0 (upI (upI (upI SQ 0 ((SQ 0) + (skS N y kk))) 1 (((upI SQ 0 ((SQ 0) + (skS N y kk))) 1) + (lkS N y kk))) 2 (((upI (upI SQ 0 ((SQ 0) + (skS N y kk))) 1 (((upI SQ 0 ((SQ 0) + (skS N y kk))) 1) + (lkS N y kk))) 2) + (tqS N y kk))) (upI EQ (evS N y kk) ((EQ (evS N y kk)) + 1)) pv2_340 (ad 3) pr2_340 pX2_340 _ _ _ (by omega) (by omega) (fun z => absurd z (by omega)) ⟨hn8.2, by omega, by omega⟩ (by refine ⟨?_, by omega⟩; show _ = max 0 (max (dpN (ykS N y) kk) (ykS N y kk)); omega) hs8 he8x (lv_sub hl [7, 8, 9, 10, 11, 12, 13, 14, 3, 5, 2, 1, 0] rfl) hG
                                                                  · skip
                                                                    omega
                                                          · skip
                                                            refine lv_aload_n S.1 S.2.1 dL_isPath_449 rfl (lv_at hl 6 rfl) ?_
                                                            refine g_iconst S dL_isPath_450 ?_
                                                            refine g_invV (As := [.int (iI 1)]) (rest := []) (gs' := (fun u : Unit => [gRLC K ad, gScn K (ad 3) (ad 14) (ad 15) (ad 16) (ad 17) ou mi bo ln LF sn SF, gRayU K (ad 7) (ad 23) (ad 24) (ad 25) (ad 26) (ad 3) rv2_10 X2_10, gPthV K (ad 8) (ad 27) (ad 35) (ad 28) (ad 29) (ad 30) (ad 31) (ad 32) (ad 33) (ad 34) pv2_340, gRayU K (ad 35) (ad 36) (ad 37) (ad 38) (ad 39) (ad 3) pr2_340 pX2_340, gArr K 3 nw168 (upI (upI (upI SQ 0 ((SQ 0) + (skS N y kk))) 1 (((upI SQ 0 ((SQ 0) + (skS N y kk))) 1) + (lkS N y kk))) 2 (((upI (upI SQ 0 ((SQ 0) + (skS N y kk))) 1 (((upI SQ 0 ((SQ 0) + (skS N y kk))) 1) + (lkS N y kk))) 2) + (tqS N y kk))), gArr K 7 nw174 (upI EQ (evS N y kk) ((EQ (evS N y kk)) + 1))])) S C hG [0, 1] (c_X8_property l K ad ou mi bo ln LF sn SF N 1 hS hN (by omega)) rfl rfl 0 rfl rfl (cwV 1 S.2.2.2.2 gL_isPath_X8_property rfl rfl rfl (by decide +kernel) ⟨Nat.le_of_ble_eq_true rfl, Nat.le_of_ble_eq_true rfl⟩) rfl hl.1 rfl (Nat.le_of_ble_eq_true rfl) dL_isPath_451 ⟨Nat.le_of_ble_eq_true rfl, Nat.le_of_ble_eq_true rfl⟩ (fun _ => Nat.le_of_ble_eq_true rfl) (fun _ => rfl) (fun v u H locs hp hG => ?_)
                                                            subst hp
                                                            refine g_top (w := .int (iI (N 1))) (congrArg (fun z : Int => Value.int (iI z)) (by first | rfl | exact if_neg (by decide))) ?_
                                                            refine lv_iload S.1 S.2.1 dL_isPath_454 (lv_at hl 10 rfl) ?_
                                                            refine g_icmp_le (tgt := 518) S dL_isPath_456 (by decide) (by omega) (by omega) (fun q456 => ?_) (fun q456 => ?_)
                                                            · skip
                                                              omega
                                                            · skip
                                                              refine lv_iload S.1 S.2.1 dL_isPath_459 (lv_at hl 3 rfl) ?_
                                                              refine g_iconst S dL_isPath_461 ?_
                                                              refine g_icmp_ne (tgt := 484) S dL_isPath_462 (by decide) (by omega) (by omega) (fun q462 => ?_) (fun q462 => ?_)
                                                              · skip
                                                                refine lv_iload S.1 S.2.1 dL_isPath_484 (lv_at hl 3 rfl) ?_
                                                                refine g_iconst S dL_isPath_486 ?_
                                                                refine g_icmp_ne (tgt := 520) S dL_isPath_487 (by decide) (by omega) (by omega) (fun q487 => ?_) (fun q487 => ?_)
                                                                · skip
                                                                  refine lv_iinc (v := iI ((kk : Int) + 1)) (lv' := [(12, .int (iI ((kk : Int) + 1))), (11, .int (iI 0)), (10, .int (iI (ly + 0))), (8, .int (iI (max dp (ykS N y kk)))), (14, .int (iI (evS N y kk))), (9, .int (iI (kS N y kk))), (13, .int (iI (ykS N y kk))), (0, .ref (ad 0)), (1, .int (iI y)), (2, .int (iI (gS N y : Int))), (3, .int (iI (eS N y))), (4, .int (iI (sP N y))), (5, .int (iI 1)), (6, .ref nw168), (7, .ref nw174)]) S.1 S.2.1 dL_isPath_520 hl (k := 14) rfl (g_iinc rfl) (by decide) rfl (fun ls hl => ?_)
                                                                  refine lv_goto (tgt := 204) S.1 S.2.1 dL_isPath_523 (by decide) ?_
                                                                  exact ih (kk + 1) (kS N y kk) (max dp (ykS N y kk)) (ly + 0) 0 (upI (upI (upI SQ 0 ((SQ 0) + (skS N y kk))) 1 (((upI SQ 0 ((SQ 0) + (skS N y kk))) 1) + (lkS N y kk))) 2 (((upI (upI SQ 0 ((SQ 0) + (skS N y kk))) 1 (((upI SQ 0 ((SQ 0) + (skS N y kk))) 1) + (lkS N y kk))) 2) + (tqS N y kk))) (upI EQ (evS N y kk) ((EQ (evS N y kk)) + 1)) pv2_340 (ad 3) pr2_340 pX2_340 _ _ _ (by omega) (by omega) (fun z => absurd z (by omega)) ⟨hn8.2, by omega, by omega⟩ (by refine ⟨?_, by omega⟩; show _ = max 0 (max (dpN (ykS N y) kk) (ykS N y kk)); omega) hs8 he8x (lv_sub hl [7, 8, 9, 10, 11, 12, 13, 14, 3, 5, 2, 1, 0] rfl) hG
                                                                · skip
                                                                  omega
                                                              · skip
                                                                omega
                                                        · skip
                                                          omega
                                                      · skip
                                                        omega
                                                    · skip
                                                      omega
                                                  · skip
                                                    exact absurd q387 (by decide)
                                                · skip
                                                  omega
                                              · skip
                                                have hv7 := hv8.2.1 (by omega)
                                                refine g_iconst S dL_isPath_371 ?_
                                                refine lv_goto (tgt := 376) S.1 S.2.1 dL_isPath_372 (by decide) ?_
                                                refine lv_iload S.1 S.2.1 dL_isPath_376 (lv_at hl 1 rfl) ?_
                                                refine g_iconst S dL_isPath_378 ?_
                                                refine g_icmp_ge (tgt := 386) S dL_isPath_379 (by decide) (by omega) (by omega) (fun q379 => ?_) (fun q379 => ?_)
                                                · skip
                                                  omega
                                                · skip
                                                  refine g_iconst S dL_isPath_382 ?_
                                                  refine lv_goto (tgt := 387) S.1 S.2.1 dL_isPath_383 (by decide) ?_
                                                  refine g_icmp_eq (tgt := 392) S dL_isPath_387 (by decide) (by omega) (by omega) (fun q387 => ?_) (fun q387 => ?_)
                                                  · skip
                                                    refine lv_iload S.1 S.2.1 dL_isPath_392 (lv_at hl 12 rfl) ?_
                                                    refine lv_iload S.1 S.2.1 dL_isPath_394 (lv_at hl 1 rfl) ?_
                                                    refine g_if_ne (tgt := 413) S dL_isPath_396 (by decide) (by omega) (fun q396 => ?_) (fun q396 => ?_)
                                                    · skip
                                                      refine g_iconst S dL_isPath_413 ?_
                                                      refine g_iadd S dL_isPath_414 rfl ?_
                                                      refine lv_istore (lv' := [(10, .int (iI (ly + 0))), (8, .int (iI (max dp (ykS N y kk)))), (14, .int (iI (evS N y kk))), (9, .int (iI (kS N y kk))), (13, .int (iI (ykS N y kk))), (0, .ref (ad 0)), (1, .int (iI y)), (2, .int (iI (gS N y : Int))), (3, .int (iI (eS N y))), (4, .int (iI (sP N y))), (5, .int (iI 1)), (6, .ref nw168), (7, .ref nw174), (11, .int (iI dn)), (12, .int (iI (kk : Int)))]) S.1 S.2.1 dL_isPath_415 hl (by decide) rfl (fun ls hl => ?_)
                                                      refine lv_iload S.1 S.2.1 dL_isPath_417 (lv_at hl 2 rfl) ?_
                                                      refine g_if_ne (tgt := 427) S dL_isPath_419 (by decide) (by omega) (fun q419 => ?_) (fun q419 => ?_)
                                                      · skip
                                                        refine lv_iload S.1 S.2.1 dL_isPath_427 (lv_at hl 2 rfl) ?_
                                                        refine g_iconst S dL_isPath_429 ?_
                                                        refine g_icmp_ne (tgt := 440) S dL_isPath_430 (by decide) (by omega) (by omega) (fun q430 => ?_) (fun q430 => ?_)
                                                        · skip
                                                          refine g_iconst S dL_isPath_440 ?_
                                                          refine lv_istore (lv' := [(11, .int (iI 0)), (10, .int (iI (ly + 0))), (8, .int (iI (max dp (ykS N y kk)))), (14, .int (iI (evS N y kk))), (9, .int (iI (kS N y kk))), (13, .int (iI (ykS N y kk))), (0, .ref (ad 0)), (1, .int (iI y)), (2, .int (iI (gS N y : Int))), (3, .int (iI (eS N y))), (4, .int (iI (sP N y))), (5, .int (iI 1)), (6, .ref nw168), (7, .ref nw174), (12, .int (iI (kk : Int)))]) S.1 S.2.1 dL_isPath_441 hl (by decide) rfl (fun ls hl => ?_)
                                                          refine lv_iload S.1 S.2.1 dL_isPath_443 (lv_at hl 3 rfl) ?_
                                                          refine g_iconst S dL_isPath_445 ?_
                                                          refine g_icmp_ne (tgt := 459) S dL_isPath_446 (by decide) (by omega) (by omega) (fun q446 => ?_) (fun q446 => ?_)
                                                          · skip
                                                            refine lv_iload S.1 S.2.1 dL_isPath_459 (lv_at hl 3 rfl) ?_
                                                            refine g_iconst S dL_isPath_461 ?_
                                                            refine g_icmp_ne (tgt := 484) S dL_isPath_462 (by decide) (by omega) (by omega) (fun q462 => ?_) (fun q462 => ?_)
                                                            · skip
                                                              refine lv_iload S.1 S.2.1 dL_isPath_484 (lv_at hl 3 rfl) ?_
                                                              refine g_iconst S dL_isPath_486 ?_
                                                              refine g_icmp_ne (tgt := 520) S dL_isPath_487 (by decide) (by omega) (by omega) (fun q487 => ?_) (fun q487 => ?_)
                                                              · skip
                                                                refine lv_iinc (v := iI ((kk : Int) + 1)) (lv' := [(12, .int (iI ((kk : Int) + 1))), (11, .int (iI 0)), (10, .int (iI (ly + 0))), (8, .int (iI (max dp (ykS N y kk)))), (14, .int (iI (evS N y kk))), (9, .int (iI (kS N y kk))), (13, .int (iI (ykS N y kk))), (0, .ref (ad 0)), (1, .int (iI y)), (2, .int (iI (gS N y : Int))), (3, .int (iI (eS N y))), (4, .int (iI (sP N y))), (5, .int (iI 1)), (6, .ref nw168), (7, .ref nw174)]) S.1 S.2.1 dL_isPath_520 hl (k := 14) rfl (g_iinc rfl) (by decide) rfl (fun ls hl => ?_)
                                                                refine lv_goto (tgt := 204) S.1 S.2.1 dL_isPath_523 (by decide) ?_
                                                                exact ih (kk + 1) (kS N y kk) (max dp (ykS N y kk)) (ly + 0) 0 (upI (upI (upI SQ 0 ((SQ 0) + (skS N y kk))) 1 (((upI SQ 0 ((SQ 0) + (skS N y kk))) 1) + (lkS N y kk))) 2 (((upI (upI SQ 0 ((SQ 0) + (skS N y kk))) 1 (((upI SQ 0 ((SQ 0) + (skS N y kk))) 1) + (lkS N y kk))) 2) + (tqS N y kk))) (upI EQ (evS N y kk) ((EQ (evS N y kk)) + 1)) pv2_340 (ad 3) pr2_340 pX2_340 _ _ _ (by omega) (by omega) (fun _ => by have h9 := pthK (N := N) (r := y) (k := kk) hv7.2; obtain ⟨a1, a2, a3, a4, a5, a6⟩ := h9; constructor <;> omega) ⟨hn8.2, by omega, by omega⟩ (by refine ⟨?_, by omega⟩; show _ = max 0 (max (dpN (ykS N y) kk) (ykS N y kk)); omega) hs8 he8x (lv_sub hl [7, 8, 9, 10, 11, 12, 13, 14, 3, 5, 2, 1, 0] rfl) hG
                                                              · skip
                                                                omega
                                                            · skip
                                                              omega
                                                          · skip
                                                            omega
                                                        · skip
                                                          refine g_iconst S dL_isPath_433 ?_
                                                          refine lv_iload S.1 S.2.1 dL_isPath_434 (lv_at hl 13 rfl) ?_
                                                          refine g_isub S dL_isPath_436 rfl ?_
                                                          refine lv_goto (tgt := 441) S.1 S.2.1 dL_isPath_437 (by decide) ?_
                                                          refine lv_istore (lv' := [(11, .int (iI (1 - dn))), (10, .int (iI (ly + 0))), (8, .int (iI (max dp (ykS N y kk)))), (14, .int (iI (evS N y kk))), (9, .int (iI (kS N y kk))), (13, .int (iI (ykS N y kk))), (0, .ref (ad 0)), (1, .int (iI y)), (2, .int (iI (gS N y : Int))), (3, .int (iI (eS N y))), (4, .int (iI (sP N y))), (5, .int (iI 1)), (6, .ref nw168), (7, .ref nw174), (12, .int (iI (kk : Int)))]) S.1 S.2.1 dL_isPath_441 hl (by decide) rfl (fun ls hl => ?_)
                                                          refine lv_iload S.1 S.2.1 dL_isPath_443 (lv_at hl 3 rfl) ?_
                                                          refine g_iconst S dL_isPath_445 ?_
                                                          refine g_icmp_ne (tgt := 459) S dL_isPath_446 (by decide) (by omega) (by omega) (fun q446 => ?_) (fun q446 => ?_)
                                                          · skip
                                                            refine lv_iload S.1 S.2.1 dL_isPath_459 (lv_at hl 3 rfl) ?_
                                                            refine g_iconst S dL_isPath_461 ?_
                                                            refine g_icmp_ne (tgt := 484) S dL_isPath_462 (by decide) (by omega) (by omega) (fun q462 => ?_) (fun q462 => ?_)
                                                            · skip
                                                              refine lv_iload S.1 S.2.1 dL_isPath_484 (lv_at hl 3 rfl) ?_
                                                              refine g_iconst S dL_isPath_486 ?_
                                                              refine g_icmp_ne (tgt := 520) S dL_isPath_487 (by decide) (by omega) (by omega) (fun q487 => ?_) (fun q487 => ?_)
                                                              · skip
                                                                omega
                                                              · skip
                                                                refine lv_aload_n S.1 S.2.1 dL_isPath_490 rfl (lv_at hl 6 rfl) ?_
                                                                refine lv_iload S.1 S.2.1 dL_isPath_491 (lv_at hl 5 rfl) ?_
                                                                refine lv_aload_n S.1 S.2.1 dL_isPath_493 rfl (lv_at hl 6 rfl) ?_
                                                                refine lv_iload_n S.1 S.2.1 dL_isPath_494 rfl (lv_at hl 7 rfl) ?_
                                                                refine lv_iload S.1 S.2.1 dL_isPath_495 (lv_at hl 14 rfl) ?_
                                                                refine g_iconst S dL_isPath_497 ?_
                                                                refine g_invV (As := [.int (iI y), .int (iI (kk : Int)), .int (iI 1)]) (rest := [.int (iI (ykS N y kk)), .ref (ad 0)]) (gs' := (fun u : Int × PV × RU × (Int → Int) => [gRLC K ad, gScn K (ad 3) (ad 14) (ad 15) (ad 16) (ad 17) ou mi bo ln LF sn SF, gRayU K (ad 7) (ad 23) (ad 24) (ad 25) (ad 26) (ad 3) rv2_10 X2_10, gPthV K (ad 8) (ad 27) (ad 35) (ad 28) (ad 29) (ad 30) (ad 31) (ad 32) (ad 33) (ad 34) u.2.1, gRayU K (ad 35) (ad 36) (ad 37) (ad 38) (ad 39) (ad 3) u.2.2.1 u.2.2.2, gArr K 3 nw168 (upI (upI (upI SQ 0 ((SQ 0) + (skS N y kk))) 1 (((upI SQ 0 ((SQ 0) + (skS N y kk))) 1) + (lkS N y kk))) 2 (((upI (upI SQ 0 ((SQ 0) + (skS N y kk))) 1 (((upI SQ 0 ((SQ 0) + (skS N y kk))) 1) + (lkS N y kk))) 2) + (tqS N y kk))), gArr K 7 nw174 (upI EQ (evS N y kk) ((EQ (evS N y kk)) + 1))])) S C hG [0, 3, 4, 1] (c_X8_leg l K ad ou mi bo ln LF sn SF N pv2_340 (ad 3) pr2_340 pX2_340 y (kk : Int) 1 hS hN (by omega) hy (by omega) (by omega) (by omega) (by omega)) rfl rfl 0 rfl rfl (cwV 3 S.2.2.2.2 gL_isPath_X8_leg rfl rfl rfl (by decide +kernel) ⟨Nat.le_of_ble_eq_true rfl, Nat.le_of_ble_eq_true rfl⟩) rfl hl.1 rfl (Nat.le_of_ble_eq_true rfl) dL_isPath_498 ⟨Nat.le_of_ble_eq_true rfl, Nat.le_of_ble_eq_true rfl⟩ (fun _ => Nat.le_of_ble_eq_true rfl) (fun _ => rfl) (fun v u H locs hp hG => ?_)
                                                                obtain ⟨v9_498, pv2_498, pr2_498, pX2_498⟩ := u
                                                                obtain ⟨rfl, hp_498, hw_498⟩ := hp
                                                                have hp_498 : PthR N (sP N y) (sY N y) (sD N y) pv2_498 := hp_498
                                                                have hw_498 : v9_498 = pick7 1 (pv2_498.2.2.1 (kk : Int)) (pv2_498.2.2.2.1 (kk : Int)) (pv2_498.2.2.2.2.1 (kk : Int)) (pv2_498.2.2.2.2.2.1 (kk : Int)) (pv2_498.2.2.2.2.2.2.1 (kk : Int)) (pv2_498.2.2.2.2.2.2.2.1 (kk : Int)) (pv2_498.2.2.2.2.2.2.2.2 (kk : Int)) := hw_498
                                                                have hG : gW K A s.heap [gRLC K ad, gScn K (ad 3) (ad 14) (ad 15) (ad 16) (ad 17) ou mi bo ln LF sn SF, gRayU K (ad 7) (ad 23) (ad 24) (ad 25) (ad 26) (ad 3) rv2_10 X2_10, gPthV K (ad 8) (ad 27) (ad 35) (ad 28) (ad 29) (ad 30) (ad 31) (ad 32) (ad 33) (ad 34) pv2_498, gRayU K (ad 35) (ad 36) (ad 37) (ad 38) (ad 39) (ad 3) pr2_498 pX2_498, gArr K 3 nw168 (upI (upI (upI SQ 0 ((SQ 0) + (skS N y kk))) 1 (((upI SQ 0 ((SQ 0) + (skS N y kk))) 1) + (lkS N y kk))) 2 (((upI (upI SQ 0 ((SQ 0) + (skS N y kk))) 1 (((upI SQ 0 ((SQ 0) + (skS N y kk))) 1) + (lkS N y kk))) 2) + (tqS N y kk))), gArr K 7 nw174 (upI EQ (evS N y kk) ((EQ (evS N y kk)) + 1))] _ _ := hG
                                                                refine g_top (w := .int (iI (ekS N y kk))) (congrArg (fun z : Int => Value.int (iI z)) ((legW hp_498 hw_498 (by omega)).trans rfl)) ?_
                                                                refine g_iconst S dL_isPath_501 ?_
                                                                refine g_icmp_ne (tgt := 509) S dL_isPath_502 (by decide) (by omega) (by omega) (fun q502 => ?_) (fun q502 => ?_)
                                                                · skip
                                                                  have d8 : ekS N y kk = 0 := by omega
                                                                  have c8 := he8.2.2 (by omega)
                                                                  rw [d8] at c8
                                                                  have c7 := critZ_bd hN (ykS N y kk) (ahd (ykS N y kk) 0)
                                                                  refine g_iconst S dL_isPath_509 ?_
                                                                  refine g_invV (As := [.int (iI (ykS N y kk)), .int (iI 0)]) (rest := []) (gs' := (fun u : Unit => [gRLC K ad, gScn K (ad 3) (ad 14) (ad 15) (ad 16) (ad 17) ou mi bo ln LF sn SF, gRayU K (ad 7) (ad 23) (ad 24) (ad 25) (ad 26) (ad 3) rv2_10 X2_10, gPthV K (ad 8) (ad 27) (ad 35) (ad 28) (ad 29) (ad 30) (ad 31) (ad 32) (ad 33) (ad 34) pv2_498, gRayU K (ad 35) (ad 36) (ad 37) (ad 38) (ad 39) (ad 3) pr2_498 pX2_498, gArr K 3 nw168 (upI (upI (upI SQ 0 ((SQ 0) + (skS N y kk))) 1 (((upI SQ 0 ((SQ 0) + (skS N y kk))) 1) + (lkS N y kk))) 2 (((upI (upI SQ 0 ((SQ 0) + (skS N y kk))) 1 (((upI SQ 0 ((SQ 0) + (skS N y kk))) 1) + (lkS N y kk))) 2) + (tqS N y kk))), gArr K 7 nw174 (upI EQ (evS N y kk) ((EQ (evS N y kk)) + 1))])) S C hG [0, 1] (c_X8_critical l K ad ou mi bo ln LF sn SF N (ykS N y kk) 0 hS hN (by omega) (by omega) (by omega)) rfl rfl 0 rfl rfl (cwV 2 S.2.2.2.2 gL_isPath_X8_critical rfl rfl rfl (by decide +kernel) ⟨Nat.le_of_ble_eq_true rfl, Nat.le_of_ble_eq_true rfl⟩) rfl hl.1 rfl (Nat.le_of_ble_eq_true rfl) dL_isPath_510 ⟨Nat.le_of_ble_eq_true rfl, Nat.le_of_ble_eq_true rfl⟩ (fun _ => Nat.le_of_ble_eq_true rfl) (fun _ => rfl) (fun v u H locs hp hG => ?_)
                                                                  subst hp
                                                                  refine lv_iload S.1 S.2.1 dL_isPath_513 (lv_at hl 10 rfl) ?_
                                                                  refine g_icmp_le (tgt := 520) S dL_isPath_515 (by decide) (by omega) (by omega) (fun q515 => ?_) (fun q515 => ?_)
                                                                  · skip
                                                                    refine lv_iinc (v := iI ((kk : Int) + 1)) (lv' := [(12, .int (iI ((kk : Int) + 1))), (11, .int (iI (1 - dn))), (10, .int (iI (ly + 0))), (8, .int (iI (max dp (ykS N y kk)))), (14, .int (iI (evS N y kk))), (9, .int (iI (kS N y kk))), (13, .int (iI (ykS N y kk))), (0, .ref (ad 0)), (1, .int (iI y)), (2, .int (iI (gS N y : Int))), (3, .int (iI (eS N y))), (4, .int (iI (sP N y))), (5, .int (iI 1)), (6, .ref nw168), (7, .ref nw174)]) S.1 S.2.1 dL_isPath_520 hl (k := 14) rfl (g_iinc rfl) (by decide) rfl (fun ls hl => ?_)
                                                                    refine lv_goto (tgt := 204) S.1 S.2.1 dL_isPath_523 (by decide) ?_
                                                                    exact ih (kk + 1) (kS N y kk) (max dp (ykS N y kk)) (ly + 0) (1 - dn) (upI (upI (upI SQ 0 ((SQ 0) + (skS N y kk))) 1 (((upI SQ 0 ((SQ 0) + (skS N y kk))) 1) + (lkS N y kk))) 2 (((upI (upI SQ 0 ((SQ 0) + (skS N y kk))) 1 (((upI SQ 0 ((SQ 0) + (skS N y kk))) 1) + (lkS N y kk))) 2) + (tqS N y kk))) (upI EQ (evS N y kk) ((EQ (evS N y kk)) + 1)) pv2_498 (ad 3) pr2_498 pX2_498 _ _ _ (by omega) (by omega) (fun _ => by have h9 := pthK (N := N) (r := y) (k := kk) hv7.2; obtain ⟨a1, a2, a3, a4, a5, a6⟩ := h9; constructor <;> omega) ⟨hn8.2, by omega, by omega⟩ (by refine ⟨?_, by omega⟩; show _ = max 0 (max (dpN (ykS N y) kk) (ykS N y kk)); omega) hs8 he8x (lv_sub hl [7, 8, 9, 10, 11, 12, 13, 14, 3, 5, 2, 1, 0] rfl) hG
                                                                  · skip
                                                                    omega
                                                                · skip
                                                                  have d8 : ekS N y kk = 1 := by omega
                                                                  have c8 := he8.2.2 (by omega)
                                                                  rw [d8] at c8
                                                                  have c7 := critZ_bd hN (ykS N y kk) (ahd (ykS N y kk) 1)
                                                                  refine g_iconst S dL_isPath_505 ?_
                                                                  refine lv_goto (tgt := 510) S.1 S.2.1 dL_isPath_506 (by decide) ?_
                                                                  refine g_invV (As := [.int (iI (ykS N y kk)), .int (iI 1)]) (rest := []) (gs' := (fun u : Unit => [gRLC K ad, gScn K (ad 3) (ad 14) (ad 15) (ad 16) (ad 17) ou mi bo ln LF sn SF, gRayU K (ad 7) (ad 23) (ad 24) (ad 25) (ad 26) (ad 3) rv2_10 X2_10, gPthV K (ad 8) (ad 27) (ad 35) (ad 28) (ad 29) (ad 30) (ad 31) (ad 32) (ad 33) (ad 34) pv2_498, gRayU K (ad 35) (ad 36) (ad 37) (ad 38) (ad 39) (ad 3) pr2_498 pX2_498, gArr K 3 nw168 (upI (upI (upI SQ 0 ((SQ 0) + (skS N y kk))) 1 (((upI SQ 0 ((SQ 0) + (skS N y kk))) 1) + (lkS N y kk))) 2 (((upI (upI SQ 0 ((SQ 0) + (skS N y kk))) 1 (((upI SQ 0 ((SQ 0) + (skS N y kk))) 1) + (lkS N y kk))) 2) + (tqS N y kk))), gArr K 7 nw174 (upI EQ (evS N y kk) ((EQ (evS N y kk)) + 1))])) S C hG [0, 1] (c_X8_critical l K ad ou mi bo ln LF sn SF N (ykS N y kk) 1 hS hN (by omega) (by omega) (by omega)) rfl rfl 0 rfl rfl (cwV 2 S.2.2.2.2 gL_isPath_X8_critical rfl rfl rfl (by decide +kernel) ⟨Nat.le_of_ble_eq_true rfl, Nat.le_of_ble_eq_true rfl⟩) rfl hl.1 rfl (Nat.le_of_ble_eq_true rfl) dL_isPath_510 ⟨Nat.le_of_ble_eq_true rfl, Nat.le_of_ble_eq_true rfl⟩ (fun _ => Nat.le_of_ble_eq_true rfl) (fun _ => rfl) (fun v u H locs hp hG => ?_)
                                                                  subst hp
                                                                  refine lv_iload S.1 S.2.1 dL_isPath_513 (lv_at hl 10 rfl) ?_
                                                                  refine g_icmp_le (tgt := 520) S dL_isPath_515 (by decide) (by omega) (by omega) (fun q515 => ?_) (fun q515 => ?_)
                                                                  · skip
                                                                    refine lv_iinc (v := iI ((kk : Int) + 1)) (lv' := [(12, .int (iI ((kk : Int) + 1))), (11, .int (iI (1 - dn))), (10, .int (iI (ly + 0))), (8, .int (iI (max dp (ykS N y kk)))), (14, .int (iI (evS N y kk))), (9, .int (iI (kS N y kk))), (13, .int (iI (ykS N y kk))), (0, .ref (ad 0)), (1, .int (iI y)), (2, .int (iI (gS N y : Int))), (3, .int (iI (eS N y))), (4, .int (iI (sP N y))), (5, .int (iI 1)), (6, .ref nw168), (7, .ref nw174)]) S.1 S.2.1 dL_isPath_520 hl (k := 14) rfl (g_iinc rfl) (by decide) rfl (fun ls hl => ?_)
                                                                    refine lv_goto (tgt := 204) S.1 S.2.1 dL_isPath_523 (by decide) ?_
                                                                    exact ih (kk + 1) (kS N y kk) (max dp (ykS N y kk)) (ly + 0) (1 - dn) (upI (upI (upI SQ 0 ((SQ 0) + (skS N y kk))) 1 (((upI SQ 0 ((SQ 0) + (skS N y kk))) 1) + (lkS N y kk))) 2 (((upI (upI SQ 0 ((SQ 0) + (skS N y kk))) 1 (((upI SQ 0 ((SQ 0) + (skS N y kk))) 1) + (lkS N y kk))) 2) + (tqS N y kk))) (upI EQ (evS N y kk) ((EQ (evS N y kk)) + 1)) pv2_498 (ad 3) pr2_498 pX2_498 _ _ _ (by omega) (by omega) (fun _ => by have h9 := pthK (N := N) (r := y) (k := kk) hv7.2; obtain ⟨a1, a2, a3, a4, a5, a6⟩ := h9; constructor <;> omega) ⟨hn8.2, by omega, by omega⟩ (by refine ⟨?_, by omega⟩; show _ = max 0 (max (dpN (ykS N y) kk) (ykS N y kk)); omega) hs8 he8x (lv_sub hl [7, 8, 9, 10, 11, 12, 13, 14, 3, 5, 2, 1, 0] rfl) hG
                                                                  · skip
                                                                    omega
                                                            · skip
                                                              omega
                                                          · skip
                                                            omega
                                                      · skip
                                                        omega
                                                    · skip
                                                      refine lv_iload S.1 S.2.1 dL_isPath_399 (lv_at hl 13 rfl) ?_
                                                      refine g_iconst S dL_isPath_401 ?_
                                                      refine g_icmp_ne (tgt := 409) S dL_isPath_402 (by decide) (by omega) (by omega) (fun q402 => ?_) (fun q402 => ?_)
                                                      · skip
                                                        refine g_iconst S dL_isPath_409 ?_
                                                        refine lv_goto (tgt := 414) S.1 S.2.1 dL_isPath_410 (by decide) ?_
                                                        refine g_iadd S dL_isPath_414 rfl ?_
                                                        refine lv_istore (lv' := [(10, .int (iI (ly + (-1)))), (8, .int (iI (max dp (ykS N y kk)))), (14, .int (iI (evS N y kk))), (9, .int (iI (kS N y kk))), (13, .int (iI (ykS N y kk))), (0, .ref (ad 0)), (1, .int (iI y)), (2, .int (iI (gS N y : Int))), (3, .int (iI (eS N y))), (4, .int (iI (sP N y))), (5, .int (iI 1)), (6, .ref nw168), (7, .ref nw174), (11, .int (iI dn)), (12, .int (iI (kk : Int)))]) S.1 S.2.1 dL_isPath_415 hl (by decide) rfl (fun ls hl => ?_)
                                                        refine lv_iload S.1 S.2.1 dL_isPath_417 (lv_at hl 2 rfl) ?_
                                                        refine g_if_ne (tgt := 427) S dL_isPath_419 (by decide) (by omega) (fun q419 => ?_) (fun q419 => ?_)
                                                        · skip
                                                          omega
                                                        · skip
                                                          refine lv_iload S.1 S.2.1 dL_isPath_422 (lv_at hl 13 rfl) ?_
                                                          refine lv_goto (tgt := 441) S.1 S.2.1 dL_isPath_424 (by decide) ?_
                                                          refine lv_istore (lv' := [(11, .int (iI dn)), (10, .int (iI (ly + (-1)))), (8, .int (iI (max dp (ykS N y kk)))), (14, .int (iI (evS N y kk))), (9, .int (iI (kS N y kk))), (13, .int (iI (ykS N y kk))), (0, .ref (ad 0)), (1, .int (iI y)), (2, .int (iI (gS N y : Int))), (3, .int (iI (eS N y))), (4, .int (iI (sP N y))), (5, .int (iI 1)), (6, .ref nw168), (7, .ref nw174), (12, .int (iI (kk : Int)))]) S.1 S.2.1 dL_isPath_441 hl (by decide) rfl (fun ls hl => ?_)
                                                          refine lv_iload S.1 S.2.1 dL_isPath_443 (lv_at hl 3 rfl) ?_
                                                          refine g_iconst S dL_isPath_445 ?_
                                                          refine g_icmp_ne (tgt := 459) S dL_isPath_446 (by decide) (by omega) (by omega) (fun q446 => ?_) (fun q446 => ?_)
                                                          · skip
                                                            refine lv_iload S.1 S.2.1 dL_isPath_459 (lv_at hl 3 rfl) ?_
                                                            refine g_iconst S dL_isPath_461 ?_
                                                            refine g_icmp_ne (tgt := 484) S dL_isPath_462 (by decide) (by omega) (by omega) (fun q462 => ?_) (fun q462 => ?_)
                                                            · skip
                                                              refine lv_iload S.1 S.2.1 dL_isPath_484 (lv_at hl 3 rfl) ?_
                                                              refine g_iconst S dL_isPath_486 ?_
                                                              refine g_icmp_ne (tgt := 520) S dL_isPath_487 (by decide) (by omega) (by omega) (fun q487 => ?_) (fun q487 => ?_)
                                                              · skip
                                                                refine lv_iinc (v := iI ((kk : Int) + 1)) (lv' := [(12, .int (iI ((kk : Int) + 1))), (11, .int (iI dn)), (10, .int (iI (ly + (-1)))), (8, .int (iI (max dp (ykS N y kk)))), (14, .int (iI (evS N y kk))), (9, .int (iI (kS N y kk))), (13, .int (iI (ykS N y kk))), (0, .ref (ad 0)), (1, .int (iI y)), (2, .int (iI (gS N y : Int))), (3, .int (iI (eS N y))), (4, .int (iI (sP N y))), (5, .int (iI 1)), (6, .ref nw168), (7, .ref nw174)]) S.1 S.2.1 dL_isPath_520 hl (k := 14) rfl (g_iinc rfl) (by decide) rfl (fun ls hl => ?_)
                                                                refine lv_goto (tgt := 204) S.1 S.2.1 dL_isPath_523 (by decide) ?_
                                                                exact ih (kk + 1) (kS N y kk) (max dp (ykS N y kk)) (ly + (-1)) dn (upI (upI (upI SQ 0 ((SQ 0) + (skS N y kk))) 1 (((upI SQ 0 ((SQ 0) + (skS N y kk))) 1) + (lkS N y kk))) 2 (((upI (upI SQ 0 ((SQ 0) + (skS N y kk))) 1 (((upI SQ 0 ((SQ 0) + (skS N y kk))) 1) + (lkS N y kk))) 2) + (tqS N y kk))) (upI EQ (evS N y kk) ((EQ (evS N y kk)) + 1)) pv2_340 (ad 3) pr2_340 pX2_340 _ _ _ (by omega) (by omega) (fun _ => by have h9 := pthK (N := N) (r := y) (k := kk) hv7.2; obtain ⟨a1, a2, a3, a4, a5, a6⟩ := h9; constructor <;> omega) ⟨hn8.2, by omega, by omega⟩ (by refine ⟨?_, by omega⟩; show _ = max 0 (max (dpN (ykS N y) kk) (ykS N y kk)); omega) hs8 he8x (lv_sub hl [7, 8, 9, 10, 11, 12, 13, 14, 3, 5, 2, 1, 0] rfl) hG
                                                              · skip
                                                                omega
                                                            · skip
                                                              omega
                                                          · skip
                                                            omega
                                                      · skip
                                                        refine g_iconst S dL_isPath_405 ?_
                                                        refine lv_goto (tgt := 414) S.1 S.2.1 dL_isPath_406 (by decide) ?_
                                                        refine g_iadd S dL_isPath_414 rfl ?_
                                                        refine lv_istore (lv' := [(10, .int (iI (ly + 1))), (8, .int (iI (max dp (ykS N y kk)))), (14, .int (iI (evS N y kk))), (9, .int (iI (kS N y kk))), (13, .int (iI (ykS N y kk))), (0, .ref (ad 0)), (1, .int (iI y)), (2, .int (iI (gS N y : Int))), (3, .int (iI (eS N y))), (4, .int (iI (sP N y))), (5, .int (iI 1)), (6, .ref nw168), (7, .ref nw174), (11, .int (iI dn)), (12, .int (iI (kk : Int)))]) S.1 S.2.1 dL_isPath_415 hl (by decide) rfl (fun ls hl => ?_)
                                                        refine lv_iload S.1 S.2.1 dL_isPath_417 (lv_at hl 2 rfl) ?_
                                                        refine g_if_ne (tgt := 427) S dL_isPath_419 (by decide) (by omega) (fun q419 => ?_) (fun q419 => ?_)
                                                        · skip
                                                          omega
                                                        · skip
                                                          refine lv_iload S.1 S.2.1 dL_isPath_422 (lv_at hl 13 rfl) ?_
                                                          refine lv_goto (tgt := 441) S.1 S.2.1 dL_isPath_424 (by decide) ?_
                                                          refine lv_istore (lv' := [(11, .int (iI dn)), (10, .int (iI (ly + 1))), (8, .int (iI (max dp (ykS N y kk)))), (14, .int (iI (evS N y kk))), (9, .int (iI (kS N y kk))), (13, .int (iI (ykS N y kk))), (0, .ref (ad 0)), (1, .int (iI y)), (2, .int (iI (gS N y : Int))), (3, .int (iI (eS N y))), (4, .int (iI (sP N y))), (5, .int (iI 1)), (6, .ref nw168), (7, .ref nw174), (12, .int (iI (kk : Int)))]) S.1 S.2.1 dL_isPath_441 hl (by decide) rfl (fun ls hl => ?_)
                                                          refine lv_iload S.1 S.2.1 dL_isPath_443 (lv_at hl 3 rfl) ?_
                                                          refine g_iconst S dL_isPath_445 ?_
                                                          refine g_icmp_ne (tgt := 459) S dL_isPath_446 (by decide) (by omega) (by omega) (fun q446 => ?_) (fun q446 => ?_)
                                                          · skip
                                                            refine lv_iload S.1 S.2.1 dL_isPath_459 (lv_at hl 3 rfl) ?_
                                                            refine g_iconst S dL_isPath_461 ?_
                                                            refine g_icmp_ne (tgt := 484) S dL_isPath_462 (by decide) (by omega) (by omega) (fun q462 => ?_) (fun q462 => ?_)
                                                            · skip
                                                              refine lv_iload S.1 S.2.1 dL_isPath_484 (lv_at hl 3 rfl) ?_
                                                              refine g_iconst S dL_isPath_486 ?_
                                                              refine g_icmp_ne (tgt := 520) S dL_isPath_487 (by decide) (by omega) (by omega) (fun q487 => ?_) (fun q487 => ?_)
                                                              · skip
                                                                refine lv_iinc (v := iI ((kk : Int) + 1)) (lv' := [(12, .int (iI ((kk : Int) + 1))), (11, .int (iI dn)), (10, .int (iI (ly + 1))), (8, .int (iI (max dp (ykS N y kk)))), (14, .int (iI (evS N y kk))), (9, .int (iI (kS N y kk))), (13, .int (iI (ykS N y kk))), (0, .ref (ad 0)), (1, .int (iI y)), (2, .int (iI (gS N y : Int))), (3, .int (iI (eS N y))), (4, .int (iI (sP N y))), (5, .int (iI 1)), (6, .ref nw168), (7, .ref nw174)]) S.1 S.2.1 dL_isPath_520 hl (k := 14) rfl (g_iinc rfl) (by decide) rfl (fun ls hl => ?_)
                                                                refine lv_goto (tgt := 204) S.1 S.2.1 dL_isPath_523 (by decide) ?_
                                                                exact ih (kk + 1) (kS N y kk) (max dp (ykS N y kk)) (ly + 1) dn (upI (upI (upI SQ 0 ((SQ 0) + (skS N y kk))) 1 (((upI SQ 0 ((SQ 0) + (skS N y kk))) 1) + (lkS N y kk))) 2 (((upI (upI SQ 0 ((SQ 0) + (skS N y kk))) 1 (((upI SQ 0 ((SQ 0) + (skS N y kk))) 1) + (lkS N y kk))) 2) + (tqS N y kk))) (upI EQ (evS N y kk) ((EQ (evS N y kk)) + 1)) pv2_340 (ad 3) pr2_340 pX2_340 _ _ _ (by omega) (by omega) (fun _ => by have h9 := pthK (N := N) (r := y) (k := kk) hv7.2; obtain ⟨a1, a2, a3, a4, a5, a6⟩ := h9; constructor <;> omega) ⟨hn8.2, by omega, by omega⟩ (by refine ⟨?_, by omega⟩; show _ = max 0 (max (dpN (ykS N y) kk) (ykS N y kk)); omega) hs8 he8x (lv_sub hl [7, 8, 9, 10, 11, 12, 13, 14, 3, 5, 2, 1, 0] rfl) hG
                                                              · skip
                                                                omega
                                                            · skip
                                                              omega
                                                          · skip
                                                            omega
                                                  · skip
                                                    exact absurd q387 (by decide)
                                            · skip
                                              exact absurd q296 (by decide)
                                    · skip
                                      omega
                    exact L204 (Nat.succ (gS N y - 0)) 0 1000000 0 (sY N y) (sD N y) (fun _ => 0) (fun _ => 0) pv ps pr pX _ _ _ (Nat.lt_succ_self _) (by omega) (fun _ => ⟨rfl, rfl⟩) (by refine ⟨?_, by decide, by decide⟩; show (1000000 : Int) ≤ 1000000; decide) (by refine ⟨?_, by decide⟩; show (0 : Int) = max 0 (-1); decide) ⟨rfl, rfl, rfl⟩ ⟨rfl, rfl, rfl⟩ (lv_sub hl [7, 8, 9, 10, 11, 12, 6, 5, 4, 3, 2, 1, 0] rfl) hG
                  · skip
                    exact absurd q119 (by decide)
                refine g_icmp_ne (tgt := 117) S dL_isPath_106 (by decide) (by omega) (by omega) (fun q106 => ?_) (fun q106 => ?_)
                · skip
                  exact J117 _ _ _ (lv_sub hl [4, 5, 3, 2, 1, 0] rfl) hG
                · skip
                  refine lv_iload_n S.1 S.2.1 dL_isPath_109 rfl (lv_at hl 3 rfl) ?_
                  refine g_bipush S dL_isPath_110 (by decide) ?_
                  refine g_icmp_eq (tgt := 117) S dL_isPath_112 (by decide) (by omega) (by omega) (fun q112 => ?_) (fun q112 => ?_)
                  · skip
                    exact J117 _ _ _ (lv_sub hl [4, 5, 3, 2, 1, 0] rfl) hG
                  · skip
                    omega
