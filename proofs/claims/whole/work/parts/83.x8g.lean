set_option maxHeartbeats 1000000 in
set_option maxRecDepth 100000 in
theorem c_X8_writeLayers (l : Launch) (K : KC) (ad : Nat → Nat) (ou : Int) (mi : Int) (bo : Int) (ln : Int) (LF : Int → Int) (sn : Int) (SF : Int → Int) (N : Int → Int) (n : Int) (F : Int → Int) (hS : ScOk N ou mi bo ln LF sn SF) (hN : NOk0 N) : mG l yX8_writeLayers wsX8_writeLayers 2 43 K [.ref (ad 0)] [gRLC K ad, gBuf K (ad 2) (ad 13) n F, gScn K (ad 3) (ad 14) (ad 15) (ad 16) (ad 17) ou mi bo ln LF sn SF] (fun (v : Value) (u : Int × (Int → Int)) => (v = .int (iI u.1)) ∧ (OutI u.2 u.1 (layT N)) ∧ (0 ≤ u.1 ∧ u.1 ≤ 200)) (fun (u : Int × (Int → Int)) => [gRLC K ad, gBuf K (ad 2) (ad 13) u.1 u.2, gScn K (ad 3) (ad 14) (ad 15) (ad 16) (ad 17) ou mi bo ln LF sn SF]) 0 0 := by
  refine mG_of cX8_writeLayers 2 (by decide) rfl (Nat.le_of_ble_eq_true rfl) ?_
  intro p e s m below meth c A ls Q S C hG hl hr hlk hin hQ
  have S : CallFix p m c cX8_writeLayers 2 s ([.ref (ad 0)] : List Value).toArray wsX8_writeLayers RX8 := S
  have iX80 : ∀ w ∈ wsX80, w ∈ wsX8_writeLayers := fun _ h => List.mem_cons_of_mem _ (List.mem_append_left _ (List.mem_append_left _ (List.mem_append_left _ (List.mem_append_right _ (h)))))
  have iX00 : ∀ w ∈ wsX00, w ∈ wsX8_writeLayers := fun _ h => List.mem_cons_of_mem _ (List.mem_append_left _ (List.mem_append_left _ (List.mem_append_right _ (h))))
  have iX50 : ∀ w ∈ wsX50, w ∈ wsX8_writeLayers := fun _ h => List.mem_cons_of_mem _ (List.mem_append_left _ (List.mem_append_right _ (h)))
  have iX70 : ∀ w ∈ wsX70, w ∈ wsX8_writeLayers := fun _ h => List.mem_cons_of_mem _ (List.mem_append_right _ (h))
  have hl : lv_has ls 2 [(0, .ref (ad 0))] := hl
  have hG : gW K A s.heap [gRLC K ad, gBuf K (ad 2) (ad 13) n F, gScn K (ad 3) (ad 14) (ad 15) (ad 16) (ad 17) ou mi bo ln LF sn SF] s.heap [] := hG
  obtain ⟨e0, e1, e2, e3, e4, e5, e6⟩ := id hS
  have n0 := hN.1
  have n3 := hN.2.2.2.1
  have n2_ := hN.2.2.1
  have d3 := dgs_bd (N 3)
  refine lv_aload_n S.1 S.2.1 dX8_writeLayers_0 rfl (lv_at hl 0 rfl) ?_
  refine g_get S C hG iX80 0 rfl rfl 1 (by decide) (List.mem_of_getElem? (i := 1) rfl) rfl dX8_writeLayers_1 ?_
  refine g_iconst S dX8_writeLayers_4 ?_
  refine g_put (gs' := [gRLC K ad, gBuf K (ad 2) (ad 13) 0 F, gScn K (ad 3) (ad 14) (ad 15) (ad 16) (ad 17) ou mi bo ln LF sn SF]) S C hG iX00 tyX0 tyX0_ok nmX0 1 rfl rfl 1 (by decide) (List.mem_of_getElem? (i := 2) rfl) rfl rfl rfl (Nat.le_of_ble_eq_true rfl) rfl dX8_writeLayers_5 (fun H locs hG => ?_)
  refine g_iconst S dX8_writeLayers_8 ?_
  refine lv_istore_n (lv' := [(1, .int (iI 0)), (0, .ref (ad 0))]) S.1 S.2.1 dX8_writeLayers_9 rfl hl (by decide) rfl (fun ls hl => ?_)
  have L10 : ∀ (fu : Nat) (k : Nat) (w : Int) (n1 : Int) (F1 : Int → Int) (H : Heap) (locs : List Loc) (ls : Array Slot), ((N 0 - w).toNat) < fu → (w = (k : Int) ∧ w ≤ N 0) → (OutI F1 n1 (lyT N k)) → (0 ≤ n1 ∧ n1 ≤ 10 * w) → lv_has ls 2 [(0, .ref (ad 0)), (1, .int (iI w))] → gW K A s.heap [gRLC K ad, gBuf K (ad 2) (ad 13) n1 F1, gScn K (ad 3) (ad 14) (ad 15) (ad 16) (ad 17) ou mi bo ln LF sn SF] H locs → W p l e { frames := 2, cells := 0, slots := 0, locals := 43 } s m ([.ref (ad 0)] : List Value).toArray below meth c H locs 0 0 Q (F0 m 10 ls []) := by
    intro fu
    induction fu with
    | zero => intro k w n1 F1 H locs ls hfu; exact absurd hfu (Nat.not_lt_zero _)
    | succ fu ih =>
      intro k w n1 F1 H locs ls hfu hw ho hn hl hG
      refine lv_iload_n S.1 S.2.1 dX8_writeLayers_10 rfl (lv_at hl 1 rfl) ?_
      refine lv_aload_n S.1 S.2.1 dX8_writeLayers_11 rfl (lv_at hl 0 rfl) ?_
      refine g_get S C hG iX80 0 rfl rfl 2 (by decide) (List.mem_of_getElem? (i := 3) rfl) rfl dX8_writeLayers_12 ?_
      refine g_get S C hG iX50 3 rfl rfl 0 (by decide) (List.mem_of_getElem? (i := 4) rfl) rfl dX8_writeLayers_15 ?_
      refine g_get S C hG iX70 4 rfl rfl 1 (by decide) (List.mem_of_getElem? (i := 5) rfl) rfl dX8_writeLayers_18 ?_
      refine g_icmp_ge (tgt := 90) S dX8_writeLayers_21 (by decide) (by omega) (by omega) (fun q21 => ?_) (fun q21 => ?_)
      · skip
        refine lv_aload_n S.1 S.2.1 dX8_writeLayers_90 rfl (lv_at hl 0 rfl) ?_
        refine g_get S C hG iX80 0 rfl rfl 1 (by decide) (List.mem_of_getElem? (i := 1) rfl) rfl dX8_writeLayers_91 ?_
        refine lv_aload_n S.1 S.2.1 dX8_writeLayers_94 rfl (lv_at hl 0 rfl) ?_
        refine g_get S C hG iX80 0 rfl rfl 2 (by decide) (List.mem_of_getElem? (i := 3) rfl) rfl dX8_writeLayers_95 ?_
        refine g_get S C hG iX50 3 rfl rfl 3 (by decide) (List.mem_of_getElem? (i := 6) rfl) rfl dX8_writeLayers_98 ?_
        refine g_if_eq (tgt := 109) S dX8_writeLayers_101 (by decide) (by omega) (fun q101 => ?_) (fun q101 => ?_)
        · skip
          refine g_bipush S dX8_writeLayers_109 (by decide) ?_
          refine g_invVv (As := [.int (iI 124)]) (rest := []) (gs' := (fun u : Unit => [gRLC K ad, gBuf K (ad 2) (ad 13) (n1 + 1) (upI F1 n1 124), gScn K (ad 3) (ad 14) (ad 15) (ad 16) (ad 17) ou mi bo ln LF sn SF])) S C hG [1] (c_X0_add l K (ad 2) (ad 13) n1 F1 124 (by omega)) rfl rfl 0 rfl rfl (cwV 1 S.2.2.2.2 gX8_writeLayers_X0_add rfl rfl rfl (by decide +kernel) ⟨Nat.le_of_ble_eq_true rfl, Nat.le_of_ble_eq_true rfl⟩) rfl hl.1 rfl (Nat.le_of_ble_eq_true rfl) dX8_writeLayers_111 ⟨Nat.le_of_ble_eq_true rfl, Nat.le_of_ble_eq_true rfl⟩ (fun _ => Nat.le_of_ble_eq_true rfl) (fun _ => rfl) (fun u H locs hp hG => ?_)
          refine lv_aload_n S.1 S.2.1 dX8_writeLayers_114 rfl (lv_at hl 0 rfl) ?_
          refine g_get S C hG iX80 0 rfl rfl 1 (by decide) (List.mem_of_getElem? (i := 1) rfl) rfl dX8_writeLayers_115 ?_
          refine lv_aload_n S.1 S.2.1 dX8_writeLayers_118 rfl (lv_at hl 0 rfl) ?_
          refine g_get S C hG iX80 0 rfl rfl 2 (by decide) (List.mem_of_getElem? (i := 3) rfl) rfl dX8_writeLayers_119 ?_
          refine g_get S C hG iX50 3 rfl rfl 4 (by decide) (List.mem_of_getElem? (i := 7) rfl) rfl dX8_writeLayers_122 ?_
          refine g_top (w := .int (iI (N 3))) (congrArg (fun z : Int => Value.int (iI z)) ((by omega))) ?_
          refine g_invVv (As := [.int (iI (N 3))]) (rest := []) (gs' := (fun u : (Int → Int) => [gRLC K ad, gBuf K (ad 2) (ad 13) ((n1 + 1) + dgs (N 3)) u, gScn K (ad 3) (ad 14) (ad 15) (ad 16) (ad 17) ou mi bo ln LF sn SF])) S C hG [1] (c_X0_addNumber l K (ad 2) (ad 13) (n1 + 1) (upI F1 n1 124) (N 3) (by omega) (by omega)) rfl rfl 0 rfl rfl (cwV 1 S.2.2.2.2 gX8_writeLayers_X0_addNumber rfl rfl rfl (by decide +kernel) ⟨Nat.le_of_ble_eq_true rfl, Nat.le_of_ble_eq_true rfl⟩) rfl hl.1 rfl (Nat.le_of_ble_eq_true rfl) dX8_writeLayers_125 ⟨Nat.le_of_ble_eq_true rfl, Nat.le_of_ble_eq_true rfl⟩ (fun _ => Nat.le_of_ble_eq_true rfl) (fun _ => rfl) (fun u H locs hp hG => ?_)
          obtain ⟨F2_125, rfl⟩ : ∃ z, z = u := ⟨_, rfl⟩
          have hF_125 := hp
          have hF_125 : ∀ j : Int, F2_125 j = if (n1 + 1) ≤ j ∧ j < (n1 + 1) + dgs (N 3) then dgt (N 3) (j - (n1 + 1)) else (upI F1 n1 124) j := hF_125
          have hG : gW K A s.heap [gRLC K ad, gBuf K (ad 2) (ad 13) ((n1 + 1) + dgs (N 3)) F2_125, gScn K (ad 3) (ad 14) (ad 15) (ad 16) (ad 17) ou mi bo ln LF sn SF] _ _ := hG
          refine lv_aload_n S.1 S.2.1 dX8_writeLayers_128 rfl (lv_at hl 0 rfl) ?_
          refine g_get S C hG iX80 0 rfl rfl 1 (by decide) (List.mem_of_getElem? (i := 1) rfl) rfl dX8_writeLayers_129 ?_
          refine g_get S C hG iX00 1 rfl rfl 1 (by decide) (List.mem_of_getElem? (i := 2) rfl) rfl dX8_writeLayers_132 ?_
          have hG : gW K A s.heap [gRLC K ad, gBuf K (ad 2) (ad 13) ((n1 + 1) + dgs (N 3)) F2_125, gScn K (ad 3) (ad 14) (ad 15) (ad 16) (ad 17) ou mi bo ln LF sn SF] _ _ := hG
          exact g_iret S hr hlk hQ dX8_writeLayers_135 (Nat.le_of_ble_eq_true rfl) (Nat.le_of_ble_eq_true rfl) (((n1 + 1) + dgs (N 3), F2_125) : Int × (Int → Int)) ⟨rfl, (by have z9 := (ho.add 124).num hF_125 <;> unfold layT <;> rw [show (N 0).toNat = k by omega, if_neg (by omega)] <;> exact z9), (by omega)⟩ hG
        · skip
          refine g_bipush S dX8_writeLayers_104 (by decide) ?_
          refine lv_goto (tgt := 111) S.1 S.2.1 dX8_writeLayers_106 (by decide) ?_
          refine g_invVv (As := [.int (iI 35)]) (rest := []) (gs' := (fun u : Unit => [gRLC K ad, gBuf K (ad 2) (ad 13) (n1 + 1) (upI F1 n1 35), gScn K (ad 3) (ad 14) (ad 15) (ad 16) (ad 17) ou mi bo ln LF sn SF])) S C hG [1] (c_X0_add l K (ad 2) (ad 13) n1 F1 35 (by omega)) rfl rfl 0 rfl rfl (cwV 1 S.2.2.2.2 gX8_writeLayers_X0_add rfl rfl rfl (by decide +kernel) ⟨Nat.le_of_ble_eq_true rfl, Nat.le_of_ble_eq_true rfl⟩) rfl hl.1 rfl (Nat.le_of_ble_eq_true rfl) dX8_writeLayers_111 ⟨Nat.le_of_ble_eq_true rfl, Nat.le_of_ble_eq_true rfl⟩ (fun _ => Nat.le_of_ble_eq_true rfl) (fun _ => rfl) (fun u H locs hp hG => ?_)
          refine lv_aload_n S.1 S.2.1 dX8_writeLayers_114 rfl (lv_at hl 0 rfl) ?_
          refine g_get S C hG iX80 0 rfl rfl 1 (by decide) (List.mem_of_getElem? (i := 1) rfl) rfl dX8_writeLayers_115 ?_
          refine lv_aload_n S.1 S.2.1 dX8_writeLayers_118 rfl (lv_at hl 0 rfl) ?_
          refine g_get S C hG iX80 0 rfl rfl 2 (by decide) (List.mem_of_getElem? (i := 3) rfl) rfl dX8_writeLayers_119 ?_
          refine g_get S C hG iX50 3 rfl rfl 4 (by decide) (List.mem_of_getElem? (i := 7) rfl) rfl dX8_writeLayers_122 ?_
          refine g_top (w := .int (iI (N 3))) (congrArg (fun z : Int => Value.int (iI z)) ((by omega))) ?_
          refine g_invVv (As := [.int (iI (N 3))]) (rest := []) (gs' := (fun u : (Int → Int) => [gRLC K ad, gBuf K (ad 2) (ad 13) ((n1 + 1) + dgs (N 3)) u, gScn K (ad 3) (ad 14) (ad 15) (ad 16) (ad 17) ou mi bo ln LF sn SF])) S C hG [1] (c_X0_addNumber l K (ad 2) (ad 13) (n1 + 1) (upI F1 n1 35) (N 3) (by omega) (by omega)) rfl rfl 0 rfl rfl (cwV 1 S.2.2.2.2 gX8_writeLayers_X0_addNumber rfl rfl rfl (by decide +kernel) ⟨Nat.le_of_ble_eq_true rfl, Nat.le_of_ble_eq_true rfl⟩) rfl hl.1 rfl (Nat.le_of_ble_eq_true rfl) dX8_writeLayers_125 ⟨Nat.le_of_ble_eq_true rfl, Nat.le_of_ble_eq_true rfl⟩ (fun _ => Nat.le_of_ble_eq_true rfl) (fun _ => rfl) (fun u H locs hp hG => ?_)
          obtain ⟨F2_125, rfl⟩ : ∃ z, z = u := ⟨_, rfl⟩
          have hF_125 := hp
          have hF_125 : ∀ j : Int, F2_125 j = if (n1 + 1) ≤ j ∧ j < (n1 + 1) + dgs (N 3) then dgt (N 3) (j - (n1 + 1)) else (upI F1 n1 35) j := hF_125
          have hG : gW K A s.heap [gRLC K ad, gBuf K (ad 2) (ad 13) ((n1 + 1) + dgs (N 3)) F2_125, gScn K (ad 3) (ad 14) (ad 15) (ad 16) (ad 17) ou mi bo ln LF sn SF] _ _ := hG
          refine lv_aload_n S.1 S.2.1 dX8_writeLayers_128 rfl (lv_at hl 0 rfl) ?_
          refine g_get S C hG iX80 0 rfl rfl 1 (by decide) (List.mem_of_getElem? (i := 1) rfl) rfl dX8_writeLayers_129 ?_
          refine g_get S C hG iX00 1 rfl rfl 1 (by decide) (List.mem_of_getElem? (i := 2) rfl) rfl dX8_writeLayers_132 ?_
          have hG : gW K A s.heap [gRLC K ad, gBuf K (ad 2) (ad 13) ((n1 + 1) + dgs (N 3)) F2_125, gScn K (ad 3) (ad 14) (ad 15) (ad 16) (ad 17) ou mi bo ln LF sn SF] _ _ := hG
          exact g_iret S hr hlk hQ dX8_writeLayers_135 (Nat.le_of_ble_eq_true rfl) (Nat.le_of_ble_eq_true rfl) (((n1 + 1) + dgs (N 3), F2_125) : Int × (Int → Int)) ⟨rfl, (by have z9 := (ho.add 35).num hF_125 <;> unfold layT <;> rw [show (N 0).toNat = k by omega, if_pos (by omega)] <;> exact z9), (by omega)⟩ hG
      · skip
        have ly := lay_bd hN (y := (k : Int)) (by omega) (by omega)
        have ly1 : (1000 ≤ N (5 + 3 * (k : Int) + 0) ∧ N (5 + 3 * (k : Int) + 0) ≤ 4000) ∧ (1 ≤ N (5 + 3 * (k : Int) + 1) ∧ N (5 + 3 * (k : Int) + 1) ≤ 999) := ⟨ly.1, ly.2.1⟩
        have d1 := dgs_bd (N (5 + 3 * (k : Int) + 0))
        have d2 := dgs_bd (N (5 + 3 * (k : Int) + 1))
        refine lv_iload_n S.1 S.2.1 dX8_writeLayers_24 rfl (lv_at hl 1 rfl) ?_
        refine g_if_le (tgt := 37) S dX8_writeLayers_25 (by decide) (by omega) (fun q25 => ?_) (fun q25 => ?_)
        · skip
          refine lv_aload_n S.1 S.2.1 dX8_writeLayers_37 rfl (lv_at hl 0 rfl) ?_
          refine g_get S C hG iX80 0 rfl rfl 1 (by decide) (List.mem_of_getElem? (i := 1) rfl) rfl dX8_writeLayers_38 ?_
          refine lv_aload_n S.1 S.2.1 dX8_writeLayers_41 rfl (lv_at hl 0 rfl) ?_
          refine g_get S C hG iX80 0 rfl rfl 2 (by decide) (List.mem_of_getElem? (i := 3) rfl) rfl dX8_writeLayers_42 ?_
          refine g_get S C hG iX50 3 rfl rfl 0 (by decide) (List.mem_of_getElem? (i := 4) rfl) rfl dX8_writeLayers_45 ?_
          refine lv_iload_n S.1 S.2.1 dX8_writeLayers_48 rfl (lv_at hl 1 rfl) ?_
          refine g_iconst S dX8_writeLayers_49 ?_
          have hG : gW K A s.heap [gRLC K ad, gBuf K (ad 2) (ad 13) n1 F1, gScC K (ad 3) (ad 14) (ad 16) ou mi bo, gTab K (ad 14) (ad 15) ln LF, gTabC K (ad 16) (ad 17) sn, gArr K 60 (ad 17) SF] _ _ := hG
          refine g_invV (As := [.int (iI w), .int (iI 0)]) (rest := [.ref (ad 2)]) (gs' := (fun u : Unit => [gRLC K ad, gBuf K (ad 2) (ad 13) n1 F1, gScC K (ad 3) (ad 14) (ad 16) ou mi bo, gTab K (ad 14) (ad 15) ln LF, gTabC K (ad 16) (ad 17) sn, gArr K 60 (ad 17) SF])) S C hG [3] (c_X7_get l K (ad 14) (ad 15) ln LF w 0 (by omega) (by omega)) rfl rfl 0 rfl rfl (cwV 2 S.2.2.2.2 gX8_writeLayers_X7_get rfl rfl rfl (by decide +kernel) ⟨Nat.le_of_ble_eq_true rfl, Nat.le_of_ble_eq_true rfl⟩) rfl hl.1 rfl (Nat.le_of_ble_eq_true rfl) dX8_writeLayers_50 ⟨Nat.le_of_ble_eq_true rfl, Nat.le_of_ble_eq_true rfl⟩ (fun _ => Nat.le_of_ble_eq_true rfl) (fun _ => rfl) (fun v u H locs hp hG => ?_)
          subst hp
          refine g_top (w := .int (iI (N (5 + 3 * (k : Int) + 0)))) (congrArg (fun z : Int => Value.int (iI z)) (((e5 w 0 (by omega) (by omega) (by decide) (by decide)).trans (by rw [hw.1])))) ?_
          refine g_invVv (As := [.int (iI (N (5 + 3 * (k : Int) + 0)))]) (rest := []) (gs' := (fun u : (Int → Int) => [gRLC K ad, gBuf K (ad 2) (ad 13) (n1 + dgs (N (5 + 3 * (k : Int) + 0))) u, gScC K (ad 3) (ad 14) (ad 16) ou mi bo, gTab K (ad 14) (ad 15) ln LF, gTabC K (ad 16) (ad 17) sn, gArr K 60 (ad 17) SF])) S C hG [1] (c_X0_addNumber l K (ad 2) (ad 13) n1 F1 (N (5 + 3 * (k : Int) + 0)) (by omega) (by omega)) rfl rfl 0 rfl rfl (cwV 1 S.2.2.2.2 gX8_writeLayers_X0_addNumber rfl rfl rfl (by decide +kernel) ⟨Nat.le_of_ble_eq_true rfl, Nat.le_of_ble_eq_true rfl⟩) rfl hl.1 rfl (Nat.le_of_ble_eq_true rfl) dX8_writeLayers_53 ⟨Nat.le_of_ble_eq_true rfl, Nat.le_of_ble_eq_true rfl⟩ (fun _ => Nat.le_of_ble_eq_true rfl) (fun _ => rfl) (fun u H locs hp hG => ?_)
          obtain ⟨F2_53, rfl⟩ : ∃ z, z = u := ⟨_, rfl⟩
          have hF_53 := hp
          have hF_53 : ∀ j : Int, F2_53 j = if n1 ≤ j ∧ j < n1 + dgs (N (5 + 3 * (k : Int) + 0)) then dgt (N (5 + 3 * (k : Int) + 0)) (j - n1) else F1 j := hF_53
          have hG : gW K A s.heap [gRLC K ad, gBuf K (ad 2) (ad 13) (n1 + dgs (N (5 + 3 * (k : Int) + 0))) F2_53, gScC K (ad 3) (ad 14) (ad 16) ou mi bo, gTab K (ad 14) (ad 15) ln LF, gTabC K (ad 16) (ad 17) sn, gArr K 60 (ad 17) SF] _ _ := hG
          refine lv_aload_n S.1 S.2.1 dX8_writeLayers_56 rfl (lv_at hl 0 rfl) ?_
          refine g_get S C hG iX80 0 rfl rfl 1 (by decide) (List.mem_of_getElem? (i := 1) rfl) rfl dX8_writeLayers_57 ?_
          refine g_bipush S dX8_writeLayers_60 (by decide) ?_
          refine g_invVv (As := [.int (iI 120)]) (rest := []) (gs' := (fun u : Unit => [gRLC K ad, gBuf K (ad 2) (ad 13) ((n1 + dgs (N (5 + 3 * (k : Int) + 0))) + 1) (upI F2_53 (n1 + dgs (N (5 + 3 * (k : Int) + 0))) 120), gScC K (ad 3) (ad 14) (ad 16) ou mi bo, gTab K (ad 14) (ad 15) ln LF, gTabC K (ad 16) (ad 17) sn, gArr K 60 (ad 17) SF])) S C hG [1] (c_X0_add l K (ad 2) (ad 13) (n1 + dgs (N (5 + 3 * (k : Int) + 0))) F2_53 120 (by omega)) rfl rfl 0 rfl rfl (cwV 1 S.2.2.2.2 gX8_writeLayers_X0_add rfl rfl rfl (by decide +kernel) ⟨Nat.le_of_ble_eq_true rfl, Nat.le_of_ble_eq_true rfl⟩) rfl hl.1 rfl (Nat.le_of_ble_eq_true rfl) dX8_writeLayers_62 ⟨Nat.le_of_ble_eq_true rfl, Nat.le_of_ble_eq_true rfl⟩ (fun _ => Nat.le_of_ble_eq_true rfl) (fun _ => rfl) (fun u H locs hp hG => ?_)
          refine lv_aload_n S.1 S.2.1 dX8_writeLayers_65 rfl (lv_at hl 0 rfl) ?_
          refine g_get S C hG iX80 0 rfl rfl 1 (by decide) (List.mem_of_getElem? (i := 1) rfl) rfl dX8_writeLayers_66 ?_
          refine lv_aload_n S.1 S.2.1 dX8_writeLayers_69 rfl (lv_at hl 0 rfl) ?_
          refine g_get S C hG iX80 0 rfl rfl 2 (by decide) (List.mem_of_getElem? (i := 3) rfl) rfl dX8_writeLayers_70 ?_
          refine g_get S C hG iX50 3 rfl rfl 0 (by decide) (List.mem_of_getElem? (i := 4) rfl) rfl dX8_writeLayers_73 ?_
          refine lv_iload_n S.1 S.2.1 dX8_writeLayers_76 rfl (lv_at hl 1 rfl) ?_
          refine g_iconst S dX8_writeLayers_77 ?_
          refine g_invV (As := [.int (iI w), .int (iI 1)]) (rest := [.ref (ad 2)]) (gs' := (fun u : Unit => [gRLC K ad, gBuf K (ad 2) (ad 13) ((n1 + dgs (N (5 + 3 * (k : Int) + 0))) + 1) (upI F2_53 (n1 + dgs (N (5 + 3 * (k : Int) + 0))) 120), gScC K (ad 3) (ad 14) (ad 16) ou mi bo, gTab K (ad 14) (ad 15) ln LF, gTabC K (ad 16) (ad 17) sn, gArr K 60 (ad 17) SF])) S C hG [3] (c_X7_get l K (ad 14) (ad 15) ln LF w 1 (by omega) (by omega)) rfl rfl 0 rfl rfl (cwV 2 S.2.2.2.2 gX8_writeLayers_X7_get rfl rfl rfl (by decide +kernel) ⟨Nat.le_of_ble_eq_true rfl, Nat.le_of_ble_eq_true rfl⟩) rfl hl.1 rfl (Nat.le_of_ble_eq_true rfl) dX8_writeLayers_78 ⟨Nat.le_of_ble_eq_true rfl, Nat.le_of_ble_eq_true rfl⟩ (fun _ => Nat.le_of_ble_eq_true rfl) (fun _ => rfl) (fun v u H locs hp hG => ?_)
          subst hp
          refine g_top (w := .int (iI (N (5 + 3 * (k : Int) + 1)))) (congrArg (fun z : Int => Value.int (iI z)) (((e5 w 1 (by omega) (by omega) (by decide) (by decide)).trans (by rw [hw.1])))) ?_
          refine g_invVv (As := [.int (iI (N (5 + 3 * (k : Int) + 1)))]) (rest := []) (gs' := (fun u : (Int → Int) => [gRLC K ad, gBuf K (ad 2) (ad 13) (((n1 + dgs (N (5 + 3 * (k : Int) + 0))) + 1) + dgs (N (5 + 3 * (k : Int) + 1))) u, gScC K (ad 3) (ad 14) (ad 16) ou mi bo, gTab K (ad 14) (ad 15) ln LF, gTabC K (ad 16) (ad 17) sn, gArr K 60 (ad 17) SF])) S C hG [1] (c_X0_addNumber l K (ad 2) (ad 13) ((n1 + dgs (N (5 + 3 * (k : Int) + 0))) + 1) (upI F2_53 (n1 + dgs (N (5 + 3 * (k : Int) + 0))) 120) (N (5 + 3 * (k : Int) + 1)) (by omega) (by omega)) rfl rfl 0 rfl rfl (cwV 1 S.2.2.2.2 gX8_writeLayers_X0_addNumber rfl rfl rfl (by decide +kernel) ⟨Nat.le_of_ble_eq_true rfl, Nat.le_of_ble_eq_true rfl⟩) rfl hl.1 rfl (Nat.le_of_ble_eq_true rfl) dX8_writeLayers_81 ⟨Nat.le_of_ble_eq_true rfl, Nat.le_of_ble_eq_true rfl⟩ (fun _ => Nat.le_of_ble_eq_true rfl) (fun _ => rfl) (fun u H locs hp hG => ?_)
          obtain ⟨F2_81, rfl⟩ : ∃ z, z = u := ⟨_, rfl⟩
          have hF_81 := hp
          have hF_81 : ∀ j : Int, F2_81 j = if ((n1 + dgs (N (5 + 3 * (k : Int) + 0))) + 1) ≤ j ∧ j < ((n1 + dgs (N (5 + 3 * (k : Int) + 0))) + 1) + dgs (N (5 + 3 * (k : Int) + 1)) then dgt (N (5 + 3 * (k : Int) + 1)) (j - ((n1 + dgs (N (5 + 3 * (k : Int) + 0))) + 1)) else (upI F2_53 (n1 + dgs (N (5 + 3 * (k : Int) + 0))) 120) j := hF_81
          have hG : gW K A s.heap [gRLC K ad, gBuf K (ad 2) (ad 13) (((n1 + dgs (N (5 + 3 * (k : Int) + 0))) + 1) + dgs (N (5 + 3 * (k : Int) + 1))) F2_81, gScC K (ad 3) (ad 14) (ad 16) ou mi bo, gTab K (ad 14) (ad 15) ln LF, gTabC K (ad 16) (ad 17) sn, gArr K 60 (ad 17) SF] _ _ := hG
          refine lv_iinc (v := iI (w + 1)) (lv' := [(1, .int (iI (w + 1))), (0, .ref (ad 0))]) S.1 S.2.1 dX8_writeLayers_84 hl (k := 1) rfl (g_iinc rfl) (by decide) rfl (fun ls hl => ?_)
          refine lv_goto (tgt := 10) S.1 S.2.1 dX8_writeLayers_87 (by decide) ?_
          have hG : gW K A s.heap [gRLC K ad, gBuf K (ad 2) (ad 13) (((n1 + dgs (N (5 + 3 * (k : Int) + 0))) + 1) + dgs (N (5 + 3 * (k : Int) + 1))) F2_81, gScn K (ad 3) (ad 14) (ad 15) (ad 16) (ad 17) ou mi bo ln LF sn SF] _ _ := hG
          exact ih (k + 1) (w + 1) (((n1 + dgs (N (5 + 3 * (k : Int) + 0))) + 1) + dgs (N (5 + 3 * (k : Int) + 1))) F2_81 _ _ _ (by omega) ⟨by omega, by omega⟩ (by have z9 := (((ho.num hF_53).add 120).num hF_81) <;> simp only [lyT] <;> rw [if_neg (by omega)] <;> simpa [List.append_assoc] using z9) (by omega) (lv_sub hl [1, 0] rfl) hG
        · skip
          refine lv_aload_n S.1 S.2.1 dX8_writeLayers_28 rfl (lv_at hl 0 rfl) ?_
          refine g_get S C hG iX80 0 rfl rfl 1 (by decide) (List.mem_of_getElem? (i := 1) rfl) rfl dX8_writeLayers_29 ?_
          refine g_bipush S dX8_writeLayers_32 (by decide) ?_
          refine g_invVv (As := [.int (iI 47)]) (rest := []) (gs' := (fun u : Unit => [gRLC K ad, gBuf K (ad 2) (ad 13) (n1 + 1) (upI F1 n1 47), gScn K (ad 3) (ad 14) (ad 15) (ad 16) (ad 17) ou mi bo ln LF sn SF])) S C hG [1] (c_X0_add l K (ad 2) (ad 13) n1 F1 47 (by omega)) rfl rfl 0 rfl rfl (cwV 1 S.2.2.2.2 gX8_writeLayers_X0_add rfl rfl rfl (by decide +kernel) ⟨Nat.le_of_ble_eq_true rfl, Nat.le_of_ble_eq_true rfl⟩) rfl hl.1 rfl (Nat.le_of_ble_eq_true rfl) dX8_writeLayers_34 ⟨Nat.le_of_ble_eq_true rfl, Nat.le_of_ble_eq_true rfl⟩ (fun _ => Nat.le_of_ble_eq_true rfl) (fun _ => rfl) (fun u H locs hp hG => ?_)
          refine lv_aload_n S.1 S.2.1 dX8_writeLayers_37 rfl (lv_at hl 0 rfl) ?_
          refine g_get S C hG iX80 0 rfl rfl 1 (by decide) (List.mem_of_getElem? (i := 1) rfl) rfl dX8_writeLayers_38 ?_
          refine lv_aload_n S.1 S.2.1 dX8_writeLayers_41 rfl (lv_at hl 0 rfl) ?_
          refine g_get S C hG iX80 0 rfl rfl 2 (by decide) (List.mem_of_getElem? (i := 3) rfl) rfl dX8_writeLayers_42 ?_
          refine g_get S C hG iX50 3 rfl rfl 0 (by decide) (List.mem_of_getElem? (i := 4) rfl) rfl dX8_writeLayers_45 ?_
          refine lv_iload_n S.1 S.2.1 dX8_writeLayers_48 rfl (lv_at hl 1 rfl) ?_
          refine g_iconst S dX8_writeLayers_49 ?_
          have hG : gW K A s.heap [gRLC K ad, gBuf K (ad 2) (ad 13) (n1 + 1) (upI F1 n1 47), gScC K (ad 3) (ad 14) (ad 16) ou mi bo, gTab K (ad 14) (ad 15) ln LF, gTabC K (ad 16) (ad 17) sn, gArr K 60 (ad 17) SF] _ _ := hG
          refine g_invV (As := [.int (iI w), .int (iI 0)]) (rest := [.ref (ad 2)]) (gs' := (fun u : Unit => [gRLC K ad, gBuf K (ad 2) (ad 13) (n1 + 1) (upI F1 n1 47), gScC K (ad 3) (ad 14) (ad 16) ou mi bo, gTab K (ad 14) (ad 15) ln LF, gTabC K (ad 16) (ad 17) sn, gArr K 60 (ad 17) SF])) S C hG [3] (c_X7_get l K (ad 14) (ad 15) ln LF w 0 (by omega) (by omega)) rfl rfl 0 rfl rfl (cwV 2 S.2.2.2.2 gX8_writeLayers_X7_get rfl rfl rfl (by decide +kernel) ⟨Nat.le_of_ble_eq_true rfl, Nat.le_of_ble_eq_true rfl⟩) rfl hl.1 rfl (Nat.le_of_ble_eq_true rfl) dX8_writeLayers_50 ⟨Nat.le_of_ble_eq_true rfl, Nat.le_of_ble_eq_true rfl⟩ (fun _ => Nat.le_of_ble_eq_true rfl) (fun _ => rfl) (fun v u H locs hp hG => ?_)
          subst hp
          refine g_top (w := .int (iI (N (5 + 3 * (k : Int) + 0)))) (congrArg (fun z : Int => Value.int (iI z)) (((e5 w 0 (by omega) (by omega) (by decide) (by decide)).trans (by rw [hw.1])))) ?_
          refine g_invVv (As := [.int (iI (N (5 + 3 * (k : Int) + 0)))]) (rest := []) (gs' := (fun u : (Int → Int) => [gRLC K ad, gBuf K (ad 2) (ad 13) ((n1 + 1) + dgs (N (5 + 3 * (k : Int) + 0))) u, gScC K (ad 3) (ad 14) (ad 16) ou mi bo, gTab K (ad 14) (ad 15) ln LF, gTabC K (ad 16) (ad 17) sn, gArr K 60 (ad 17) SF])) S C hG [1] (c_X0_addNumber l K (ad 2) (ad 13) (n1 + 1) (upI F1 n1 47) (N (5 + 3 * (k : Int) + 0)) (by omega) (by omega)) rfl rfl 0 rfl rfl (cwV 1 S.2.2.2.2 gX8_writeLayers_X0_addNumber rfl rfl rfl (by decide +kernel) ⟨Nat.le_of_ble_eq_true rfl, Nat.le_of_ble_eq_true rfl⟩) rfl hl.1 rfl (Nat.le_of_ble_eq_true rfl) dX8_writeLayers_53 ⟨Nat.le_of_ble_eq_true rfl, Nat.le_of_ble_eq_true rfl⟩ (fun _ => Nat.le_of_ble_eq_true rfl) (fun _ => rfl) (fun u H locs hp hG => ?_)
          obtain ⟨F2_53, rfl⟩ : ∃ z, z = u := ⟨_, rfl⟩
          have hF_53 := hp
          have hF_53 : ∀ j : Int, F2_53 j = if (n1 + 1) ≤ j ∧ j < (n1 + 1) + dgs (N (5 + 3 * (k : Int) + 0)) then dgt (N (5 + 3 * (k : Int) + 0)) (j - (n1 + 1)) else (upI F1 n1 47) j := hF_53
          have hG : gW K A s.heap [gRLC K ad, gBuf K (ad 2) (ad 13) ((n1 + 1) + dgs (N (5 + 3 * (k : Int) + 0))) F2_53, gScC K (ad 3) (ad 14) (ad 16) ou mi bo, gTab K (ad 14) (ad 15) ln LF, gTabC K (ad 16) (ad 17) sn, gArr K 60 (ad 17) SF] _ _ := hG
          refine lv_aload_n S.1 S.2.1 dX8_writeLayers_56 rfl (lv_at hl 0 rfl) ?_
          refine g_get S C hG iX80 0 rfl rfl 1 (by decide) (List.mem_of_getElem? (i := 1) rfl) rfl dX8_writeLayers_57 ?_
          refine g_bipush S dX8_writeLayers_60 (by decide) ?_
          refine g_invVv (As := [.int (iI 120)]) (rest := []) (gs' := (fun u : Unit => [gRLC K ad, gBuf K (ad 2) (ad 13) (((n1 + 1) + dgs (N (5 + 3 * (k : Int) + 0))) + 1) (upI F2_53 ((n1 + 1) + dgs (N (5 + 3 * (k : Int) + 0))) 120), gScC K (ad 3) (ad 14) (ad 16) ou mi bo, gTab K (ad 14) (ad 15) ln LF, gTabC K (ad 16) (ad 17) sn, gArr K 60 (ad 17) SF])) S C hG [1] (c_X0_add l K (ad 2) (ad 13) ((n1 + 1) + dgs (N (5 + 3 * (k : Int) + 0))) F2_53 120 (by omega)) rfl rfl 0 rfl rfl (cwV 1 S.2.2.2.2 gX8_writeLayers_X0_add rfl rfl rfl (by decide +kernel) ⟨Nat.le_of_ble_eq_true rfl, Nat.le_of_ble_eq_true rfl⟩) rfl hl.1 rfl (Nat.le_of_ble_eq_true rfl) dX8_writeLayers_62 ⟨Nat.le_of_ble_eq_true rfl, Nat.le_of_ble_eq_true rfl⟩ (fun _ => Nat.le_of_ble_eq_true rfl) (fun _ => rfl) (fun u H locs hp hG => ?_)
          refine lv_aload_n S.1 S.2.1 dX8_writeLayers_65 rfl (lv_at hl 0 rfl) ?_
          refine g_get S C hG iX80 0 rfl rfl 1 (by decide) (List.mem_of_getElem? (i := 1) rfl) rfl dX8_writeLayers_66 ?_
          refine lv_aload_n S.1 S.2.1 dX8_writeLayers_69 rfl (lv_at hl 0 rfl) ?_
          refine g_get S C hG iX80 0 rfl rfl 2 (by decide) (List.mem_of_getElem? (i := 3) rfl) rfl dX8_writeLayers_70 ?_
          refine g_get S C hG iX50 3 rfl rfl 0 (by decide) (List.mem_of_getElem? (i := 4) rfl) rfl dX8_writeLayers_73 ?_
          refine lv_iload_n S.1 S.2.1 dX8_writeLayers_76 rfl (lv_at hl 1 rfl) ?_
          refine g_iconst S dX8_writeLayers_77 ?_
          refine g_invV (As := [.int (iI w), .int (iI 1)]) (rest := [.ref (ad 2)]) (gs' := (fun u : Unit => [gRLC K ad, gBuf K (ad 2) (ad 13) (((n1 + 1) + dgs (N (5 + 3 * (k : Int) + 0))) + 1) (upI F2_53 ((n1 + 1) + dgs (N (5 + 3 * (k : Int) + 0))) 120), gScC K (ad 3) (ad 14) (ad 16) ou mi bo, gTab K (ad 14) (ad 15) ln LF, gTabC K (ad 16) (ad 17) sn, gArr K 60 (ad 17) SF])) S C hG [3] (c_X7_get l K (ad 14) (ad 15) ln LF w 1 (by omega) (by omega)) rfl rfl 0 rfl rfl (cwV 2 S.2.2.2.2 gX8_writeLayers_X7_get rfl rfl rfl (by decide +kernel) ⟨Nat.le_of_ble_eq_true rfl, Nat.le_of_ble_eq_true rfl⟩) rfl hl.1 rfl (Nat.le_of_ble_eq_true rfl) dX8_writeLayers_78 ⟨Nat.le_of_ble_eq_true rfl, Nat.le_of_ble_eq_true rfl⟩ (fun _ => Nat.le_of_ble_eq_true rfl) (fun _ => rfl) (fun v u H locs hp hG => ?_)
          subst hp
          refine g_top (w := .int (iI (N (5 + 3 * (k : Int) + 1)))) (congrArg (fun z : Int => Value.int (iI z)) (((e5 w 1 (by omega) (by omega) (by decide) (by decide)).trans (by rw [hw.1])))) ?_
          refine g_invVv (As := [.int (iI (N (5 + 3 * (k : Int) + 1)))]) (rest := []) (gs' := (fun u : (Int → Int) => [gRLC K ad, gBuf K (ad 2) (ad 13) ((((n1 + 1) + dgs (N (5 + 3 * (k : Int) + 0))) + 1) + dgs (N (5 + 3 * (k : Int) + 1))) u, gScC K (ad 3) (ad 14) (ad 16) ou mi bo, gTab K (ad 14) (ad 15) ln LF, gTabC K (ad 16) (ad 17) sn, gArr K 60 (ad 17) SF])) S C hG [1] (c_X0_addNumber l K (ad 2) (ad 13) (((n1 + 1) + dgs (N (5 + 3 * (k : Int) + 0))) + 1) (upI F2_53 ((n1 + 1) + dgs (N (5 + 3 * (k : Int) + 0))) 120) (N (5 + 3 * (k : Int) + 1)) (by omega) (by omega)) rfl rfl 0 rfl rfl (cwV 1 S.2.2.2.2 gX8_writeLayers_X0_addNumber rfl rfl rfl (by decide +kernel) ⟨Nat.le_of_ble_eq_true rfl, Nat.le_of_ble_eq_true rfl⟩) rfl hl.1 rfl (Nat.le_of_ble_eq_true rfl) dX8_writeLayers_81 ⟨Nat.le_of_ble_eq_true rfl, Nat.le_of_ble_eq_true rfl⟩ (fun _ => Nat.le_of_ble_eq_true rfl) (fun _ => rfl) (fun u H locs hp hG => ?_)
          obtain ⟨F2_81, rfl⟩ : ∃ z, z = u := ⟨_, rfl⟩
          have hF_81 := hp
          have hF_81 : ∀ j : Int, F2_81 j = if (((n1 + 1) + dgs (N (5 + 3 * (k : Int) + 0))) + 1) ≤ j ∧ j < (((n1 + 1) + dgs (N (5 + 3 * (k : Int) + 0))) + 1) + dgs (N (5 + 3 * (k : Int) + 1)) then dgt (N (5 + 3 * (k : Int) + 1)) (j - (((n1 + 1) + dgs (N (5 + 3 * (k : Int) + 0))) + 1)) else (upI F2_53 ((n1 + 1) + dgs (N (5 + 3 * (k : Int) + 0))) 120) j := hF_81
          have hG : gW K A s.heap [gRLC K ad, gBuf K (ad 2) (ad 13) ((((n1 + 1) + dgs (N (5 + 3 * (k : Int) + 0))) + 1) + dgs (N (5 + 3 * (k : Int) + 1))) F2_81, gScC K (ad 3) (ad 14) (ad 16) ou mi bo, gTab K (ad 14) (ad 15) ln LF, gTabC K (ad 16) (ad 17) sn, gArr K 60 (ad 17) SF] _ _ := hG
          refine lv_iinc (v := iI (w + 1)) (lv' := [(1, .int (iI (w + 1))), (0, .ref (ad 0))]) S.1 S.2.1 dX8_writeLayers_84 hl (k := 1) rfl (g_iinc rfl) (by decide) rfl (fun ls hl => ?_)
          refine lv_goto (tgt := 10) S.1 S.2.1 dX8_writeLayers_87 (by decide) ?_
          have hG : gW K A s.heap [gRLC K ad, gBuf K (ad 2) (ad 13) ((((n1 + 1) + dgs (N (5 + 3 * (k : Int) + 0))) + 1) + dgs (N (5 + 3 * (k : Int) + 1))) F2_81, gScn K (ad 3) (ad 14) (ad 15) (ad 16) (ad 17) ou mi bo ln LF sn SF] _ _ := hG
          exact ih (k + 1) (w + 1) ((((n1 + 1) + dgs (N (5 + 3 * (k : Int) + 0))) + 1) + dgs (N (5 + 3 * (k : Int) + 1))) F2_81 _ _ _ (by omega) ⟨by omega, by omega⟩ (by have z9 := ((((ho.add 47).num hF_53).add 120).num hF_81) <;> simp only [lyT] <;> rw [if_pos (by omega)] <;> simpa [List.append_assoc] using z9) (by omega) (lv_sub hl [1, 0] rfl) hG
  exact L10 (Nat.succ ((N 0 - 0).toNat)) 0 0 0 F _ _ _ (Nat.lt_succ_self _) ⟨rfl, by omega⟩ (OutI.nil F) (by omega) (lv_sub hl [1, 0] rfl) hG

theorem tx_tbarn : txI 28 [116, 98, 97, 114, 110] := ⟨Or.inr ⟨rfl, rfl, rfl⟩, by decide⟩
set_option maxHeartbeats 1000000 in
set_option maxRecDepth 100000 in
theorem c_X8_writePath (l : Launch) (K : KC) (ad : Nat → Nat) (ou : Int) (mi : Int) (bo : Int) (ln : Int) (LF : Int → Int) (sn : Int) (SF : Int → Int) (N : Int → Int) (n : Int) (F : Int → Int) (pv : PV) (ps : Nat) (pr : RU) (pX : Int → Int) (y : Int) (hS : ScOk N ou mi bo ln LF sn SF) (hN : NOk0 N) (hv : -2147483648 ≤ y ∧ y < 2147483648) (hs : 0 ≤ y ∧ y < N 4) : mG l yX8_writePath wsX8_writePath 5 119 K [.ref (ad 0), .int (iI y)] [gRLC K ad, gBuf K (ad 2) (ad 13) n F, gPthV K (ad 8) (ad 27) (ad 35) (ad 28) (ad 29) (ad 30) (ad 31) (ad 32) (ad 33) (ad 34) pv, gRayU K (ad 35) (ad 36) (ad 37) (ad 38) (ad 39) ps pr pX, gScn K (ad 3) (ad 14) (ad 15) (ad 16) (ad 17) ou mi bo ln LF sn SF] (fun (v : Value) (u : Int × (Int → Int) × PV × RU × (Int → Int)) => (v = .int (iI u.1)) ∧ (OutI u.2.1 u.1 (pthT N y)) ∧ (0 ≤ u.1 ∧ u.1 ≤ 390) ∧ (PthR N (sP N y) (sY N y) (sD N y) u.2.2.1)) (fun (u : Int × (Int → Int) × PV × RU × (Int → Int)) => [gRLC K ad, gBuf K (ad 2) (ad 13) u.1 u.2.1, gPthV K (ad 8) (ad 27) (ad 35) (ad 28) (ad 29) (ad 30) (ad 31) (ad 32) (ad 33) (ad 34) u.2.2.1, gRayU K (ad 35) (ad 36) (ad 37) (ad 38) (ad 39) (ad 3) u.2.2.2.1 u.2.2.2.2, gScn K (ad 3) (ad 14) (ad 15) (ad 16) (ad 17) ou mi bo ln LF sn SF]) 0 0 := by
  refine mG_of cX8_writePath 4 (by decide) rfl (Nat.le_of_ble_eq_true rfl) ?_
  intro p e s m below meth c A ls Q S C hG hl hr hlk hin hQ
  have S : CallFix p m c cX8_writePath 4 s ([.ref (ad 0), .int (iI y)] : List Value).toArray wsX8_writePath RX8 := S
  have iX80 : ∀ w ∈ wsX80, w ∈ wsX8_writePath := fun _ h => List.mem_cons_of_mem _ (List.mem_append_left _ (List.mem_append_left _ (List.mem_append_left _ (List.mem_append_left _ (List.mem_append_left _ (List.mem_append_left _ (List.mem_append_right _ (h))))))))
  have iX00 : ∀ w ∈ wsX00, w ∈ wsX8_writePath := fun _ h => List.mem_cons_of_mem _ (List.mem_append_left _ (List.mem_append_left _ (List.mem_append_left _ (List.mem_append_left _ (List.mem_append_left _ (List.mem_append_right _ (h)))))))
  have iX30 : ∀ w ∈ wsX30, w ∈ wsX8_writePath := fun _ h => List.mem_cons_of_mem _ (List.mem_append_left _ (List.mem_append_left _ (List.mem_append_left _ (List.mem_append_left _ (List.mem_append_right _ (h))))))
  have iX50 : ∀ w ∈ wsX50, w ∈ wsX8_writePath := fun _ h => List.mem_cons_of_mem _ (List.mem_append_left _ (List.mem_append_left _ (List.mem_append_left _ (List.mem_append_right _ (h)))))
  have iX70 : ∀ w ∈ wsX70, w ∈ wsX8_writePath := fun _ h => List.mem_cons_of_mem _ (List.mem_append_left _ (List.mem_append_left _ (List.mem_append_right _ (h))))
  have iX40 : ∀ w ∈ wsX40, w ∈ wsX8_writePath := fun _ h => List.mem_cons_of_mem _ (List.mem_append_left _ (List.mem_append_right _ (h)))
  have hl : lv_has ls 4 [(0, .ref (ad 0)), (1, .int (iI y))] := hl
  have hG : gW K A s.heap [gRLC K ad, gBuf K (ad 2) (ad 13) n F, gPthV K (ad 8) (ad 27) (ad 35) (ad 28) (ad 29) (ad 30) (ad 31) (ad 32) (ad 33) (ad 34) pv, gRayU K (ad 35) (ad 36) (ad 37) (ad 38) (ad 39) ps pr pX, gScn K (ad 3) (ad 14) (ad 15) (ad 16) (ad 17) ou mi bo ln LF sn SF] s.heap [] := hG
  obtain ⟨e0, e1, e2, e3, e4, e5, e6⟩ := id hS
  have n0 := hN.1
  have n3 := hN.2.2.2.1
  have hT := tx_tbarn
  refine lv_aload_n S.1 S.2.1 dX8_writePath_0 rfl (lv_at hl 0 rfl) ?_
  refine lv_iload_n S.1 S.2.1 dX8_writePath_1 rfl (lv_at hl 1 rfl) ?_
  refine g_invVv (As := [.int (iI y)]) (rest := []) (gs' := (fun u : Unit => [gRLC K ad, gBuf K (ad 2) (ad 13) n F, gPthV K (ad 8) (ad 27) (ad 35) (ad 28) (ad 29) (ad 30) (ad 31) (ad 32) (ad 33) (ad 34) pv, gRayU K (ad 35) (ad 36) (ad 37) (ad 38) (ad 39) ps pr pX, gScn K (ad 3) (ad 14) (ad 15) (ad 16) (ad 17) ou mi bo ln LF sn SF])) S C hG [0, 4] (c_X8_checkShot l K ad ou mi bo ln LF sn SF N y hS hN hv hs) rfl rfl 0 rfl rfl (cwV 1 S.2.2.2.2 gX8_writePath_X8_checkShot rfl rfl rfl (by decide +kernel) ⟨Nat.le_of_ble_eq_true rfl, Nat.le_of_ble_eq_true rfl⟩) rfl hl.1 rfl (Nat.le_of_ble_eq_true rfl) dX8_writePath_2 ⟨Nat.le_of_ble_eq_true rfl, Nat.le_of_ble_eq_true rfl⟩ (fun _ => Nat.le_of_ble_eq_true rfl) (fun _ => rfl) (fun u H locs hp hG => ?_)
  refine lv_aload_n S.1 S.2.1 dX8_writePath_5 rfl (lv_at hl 0 rfl) ?_
  refine lv_aload_n S.1 S.2.1 dX8_writePath_6 rfl (lv_at hl 0 rfl) ?_
  refine g_get S C hG iX80 0 rfl rfl 7 (by decide) (List.mem_of_getElem? (i := 1) rfl) rfl dX8_writePath_7 ?_
  refine lv_iload_n S.1 S.2.1 dX8_writePath_10 rfl (lv_at hl 1 rfl) ?_
  refine g_invV (As := [.ref (ad 8), .int (iI y)]) (rest := []) (gs' := (fun u : PV × RU × (Int → Int) => [gRLC K ad, gBuf K (ad 2) (ad 13) n F, gPthV K (ad 8) (ad 27) (ad 35) (ad 28) (ad 29) (ad 30) (ad 31) (ad 32) (ad 33) (ad 34) u.1, gRayU K (ad 35) (ad 36) (ad 37) (ad 38) (ad 39) (ad 3) u.2.1 u.2.2, gScn K (ad 3) (ad 14) (ad 15) (ad 16) (ad 17) ou mi bo ln LF sn SF])) S C hG [0, 2, 3, 4] (c_X8_pathOf l K ad ou mi bo ln LF sn SF N (ad 8) (ad 27) (ad 35) (ad 28) (ad 29) (ad 30) (ad 31) (ad 32) (ad 33) (ad 34) (ad 36) (ad 37) (ad 38) (ad 39) pv ps pr pX y hS hN hs) rfl rfl 0 rfl rfl (cwV 2 S.2.2.2.2 gX8_writePath_X8_pathOf rfl rfl rfl (by decide +kernel) ⟨Nat.le_of_ble_eq_true rfl, Nat.le_of_ble_eq_true rfl⟩) rfl hl.1 rfl (Nat.le_of_ble_eq_true rfl) dX8_writePath_11 ⟨Nat.le_of_ble_eq_true rfl, Nat.le_of_ble_eq_true rfl⟩ (fun _ => Nat.le_of_ble_eq_true rfl) (fun _ => rfl) (fun v u H locs hp hG => ?_)
  obtain ⟨pv2_11, pr2_11, pX2_11⟩ := u
  obtain ⟨rfl, hp_11⟩ := hp
  have hp_11 : PthR N (sP N y) (sY N y) (sD N y) pv2_11 := hp_11
  have hG : gW K A s.heap [gRLC K ad, gBuf K (ad 2) (ad 13) n F, gPthV K (ad 8) (ad 27) (ad 35) (ad 28) (ad 29) (ad 30) (ad 31) (ad 32) (ad 33) (ad 34) pv2_11, gRayU K (ad 35) (ad 36) (ad 37) (ad 38) (ad 39) (ad 3) pr2_11 pX2_11, gScn K (ad 3) (ad 14) (ad 15) (ad 16) (ad 17) ou mi bo ln LF sn SF] _ _ := hG
  have g4 := sho_bd hN hs.1 hs.2
  obtain ⟨b1, b2, b3, b4⟩ := hp_11.bd hN g4.2.2.1 g4.2.1
  have b5 : pv2_11.1 = (gS N y : Int) := b2
  refine lv_astore_n (lv' := [(2, .ref (ad 8)), (0, .ref (ad 0)), (1, .int (iI y))]) S.1 S.2.1 dX8_writePath_14 rfl hl (by decide) rfl (fun ls hl => ?_)
  refine lv_aload_n S.1 S.2.1 dX8_writePath_15 rfl (lv_at hl 1 rfl) ?_
  refine g_get S C hG iX80 0 rfl rfl 1 (by decide) (List.mem_of_getElem? (i := 2) rfl) rfl dX8_writePath_16 ?_
  refine g_iconst S dX8_writePath_19 ?_
  refine g_put (gs' := [gRLC K ad, gBuf K (ad 2) (ad 13) 0 F, gPthV K (ad 8) (ad 27) (ad 35) (ad 28) (ad 29) (ad 30) (ad 31) (ad 32) (ad 33) (ad 34) pv2_11, gRayU K (ad 35) (ad 36) (ad 37) (ad 38) (ad 39) (ad 3) pr2_11 pX2_11, gScn K (ad 3) (ad 14) (ad 15) (ad 16) (ad 17) ou mi bo ln LF sn SF]) S C hG iX00 tyX0 tyX0_ok nmX0 1 rfl rfl 1 (by decide) (List.mem_of_getElem? (i := 3) rfl) rfl rfl rfl (Nat.le_of_ble_eq_true rfl) rfl dX8_writePath_20 (fun H locs hG => ?_)
  refine g_iconst S dX8_writePath_23 ?_
  refine lv_istore_n (lv' := [(3, .int (iI 0)), (2, .ref (ad 8)), (0, .ref (ad 0)), (1, .int (iI y))]) S.1 S.2.1 dX8_writePath_24 rfl hl (by decide) rfl (fun ls hl => ?_)
  have L25 : ∀ (fu : Nat) (k : Nat) (w : Int) (n1 : Int) (F1 : Int → Int) (H : Heap) (locs : List Loc) (ls : Array Slot), ((pv2_11.1 - w).toNat) < fu → (w = (k : Int) ∧ w ≤ pv2_11.1) → (OutI F1 n1 (lgT N y k)) → (0 ≤ n1 ∧ n1 ≤ 2 * w) → lv_has ls 4 [(0, .ref (ad 0)), (1, .int (iI y)), (2, .ref (ad 8)), (3, .int (iI w))] → gW K A s.heap [gRLC K ad, gBuf K (ad 2) (ad 13) n1 F1, gPthV K (ad 8) (ad 27) (ad 35) (ad 28) (ad 29) (ad 30) (ad 31) (ad 32) (ad 33) (ad 34) pv2_11, gRayU K (ad 35) (ad 36) (ad 37) (ad 38) (ad 39) (ad 3) pr2_11 pX2_11, gScn K (ad 3) (ad 14) (ad 15) (ad 16) (ad 17) ou mi bo ln LF sn SF] H locs → W p l e { frames := 5, cells := 0, slots := 0, locals := 119 } s m ([.ref (ad 0), .int (iI y)] : List Value).toArray below meth c H locs 0 0 Q (F0 m 25 ls []) := by
    intro fu
    induction fu with
    | zero => intro k w n1 F1 H locs ls hfu; exact absurd hfu (Nat.not_lt_zero _)
    | succ fu ih =>
      intro k w n1 F1 H locs ls hfu hw ho hn hl hG
      refine lv_iload_n S.1 S.2.1 dX8_writePath_25 rfl (lv_at hl 3 rfl) ?_
      refine lv_aload_n S.1 S.2.1 dX8_writePath_26 rfl (lv_at hl 2 rfl) ?_
      refine g_get S C hG iX30 3 rfl rfl 2 (by decide) (List.mem_of_getElem? (i := 4) rfl) rfl dX8_writePath_27 ?_
      refine g_icmp_ge (tgt := 76) S dX8_writePath_30 (by decide) (by omega) (by omega) (fun q30 => ?_) (fun q30 => ?_)
      · skip
        refine lv_aload_n S.1 S.2.1 dX8_writePath_76 rfl (lv_at hl 2 rfl) ?_
        refine g_get S C hG iX30 3 rfl rfl 3 (by decide) (List.mem_of_getElem? (i := 5) rfl) rfl dX8_writePath_77 ?_
        refine lv_istore_n (lv' := [(3, .int (iI pv2_11.2.1)), (0, .ref (ad 0)), (1, .int (iI y)), (2, .ref (ad 8))]) S.1 S.2.1 dX8_writePath_80 rfl hl (by decide) rfl (fun ls hl => ?_)
        have eb : 0 ≤ pv2_11.2.1 ∧ pv2_11.2.1 ≤ 4 := by rw [b3] <;> exact enF_bd _ _ _ _
        refine lv_iload_n S.1 S.2.1 dX8_writePath_81 rfl (lv_at hl 0 rfl) ?_
        refine g_if_lt (tgt := 109) S dX8_writePath_82 (by decide) (by omega) (fun q82 => ?_) (fun q82 => ?_)
        · skip
          omega
        · skip
          refine lv_iload_n S.1 S.2.1 dX8_writePath_85 rfl (lv_at hl 0 rfl) ?_
          refine g_ldcSW (q := K.2.2.2.1 28) S.1 S.2.1 S.2.2.2.1 (C.1.2.2.1 _ (List.mem_of_getElem? (l := strW) (i := 28) rfl)) dX8_writePath_86 ?_
          refine g_invVO (As := []) (rest := [.int (iI pv2_11.2.1)]) (gs' := (fun u : Unit => [gRLC K ad, gBuf K (ad 2) (ad 13) n1 F1, gPthV K (ad 8) (ad 27) (ad 35) (ad 28) (ad 29) (ad 30) (ad 31) (ad 32) (ad 33) (ad 34) pv2_11, gRayU K (ad 35) (ad 36) (ad 37) (ad 38) (ad 39) (ad 3) pr2_11 pX2_11, gScn K (ad 3) (ad 14) (ad 15) (ad 16) (ad 17) ou mi bo ln LF sn SF])) S C hG [] (c_J0_length_8abf5 l K 28 ([116, 98, 97, 114, 110]) tx_tbarn (by decide)) rfl rfl hT (cwV 0 S.2.2.2.2 gX8_writePath_J0_length_8abf5 rfl rfl rfl (by decide +kernel) ⟨Nat.le_of_ble_eq_true rfl, Nat.le_of_ble_eq_true rfl⟩) rfl hl.1 rfl (Nat.le_of_ble_eq_true rfl) dX8_writePath_89 ⟨Nat.le_of_ble_eq_true rfl, Nat.le_of_ble_eq_true rfl⟩ (fun _ => Nat.le_of_ble_eq_true rfl) (fun _ => rfl) (fun v u H locs hp hG => ?_)
          subst hp
          refine g_top (w := .int (iI (5))) (congrArg (fun z : Int => Value.int (iI z)) (rfl)) ?_
          refine g_icmp_ge (tgt := 109) S dX8_writePath_92 (by decide) (by omega) (by omega) (fun q92 => ?_) (fun q92 => ?_)
          · skip
            omega
          · skip
            refine lv_aload_n S.1 S.2.1 dX8_writePath_95 rfl (lv_at hl 1 rfl) ?_
            refine g_get S C hG iX80 0 rfl rfl 1 (by decide) (List.mem_of_getElem? (i := 2) rfl) rfl dX8_writePath_96 ?_
            refine g_ldcSW (q := K.2.2.2.1 28) S.1 S.2.1 S.2.2.2.1 (C.1.2.2.1 _ (List.mem_of_getElem? (l := strW) (i := 28) rfl)) dX8_writePath_99 ?_
            refine lv_iload_n S.1 S.2.1 dX8_writePath_102 rfl (lv_at hl 0 rfl) ?_
            refine g_invVO (As := [.int (iI pv2_11.2.1)]) (rest := [.ref (ad 2)]) (gs' := (fun u : Unit => [gRLC K ad, gBuf K (ad 2) (ad 13) n1 F1, gPthV K (ad 8) (ad 27) (ad 35) (ad 28) (ad 29) (ad 30) (ad 31) (ad 32) (ad 33) (ad 34) pv2_11, gRayU K (ad 35) (ad 36) (ad 37) (ad 38) (ad 39) (ad 3) pr2_11 pX2_11, gScn K (ad 3) (ad 14) (ad 15) (ad 16) (ad 17) ou mi bo ln LF sn SF])) S C hG [] (c_J0_charAt_5068e l K 28 ([116, 98, 97, 114, 110]) pv2_11.2.1 tx_tbarn (by decide) ⟨by omega, by show pv2_11.2.1 < 5 <;> omega⟩) rfl rfl hT (cwV 1 S.2.2.2.2 gX8_writePath_J0_charAt_5068e rfl rfl rfl (by decide +kernel) ⟨Nat.le_of_ble_eq_true rfl, Nat.le_of_ble_eq_true rfl⟩) rfl hl.1 rfl (Nat.le_of_ble_eq_true rfl) dX8_writePath_103 ⟨Nat.le_of_ble_eq_true rfl, Nat.le_of_ble_eq_true rfl⟩ (fun _ => Nat.le_of_ble_eq_true rfl) (fun _ => rfl) (fun v u H locs hp hG => ?_)
            subst hp
            refine g_invVv (As := [.int (iI (([116, 98, 97, 114, 110]).getD pv2_11.2.1.toNat 0))]) (rest := []) (gs' := (fun u : Unit => [gRLC K ad, gBuf K (ad 2) (ad 13) (n1 + 1) (upI F1 n1 (([116, 98, 97, 114, 110]).getD pv2_11.2.1.toNat 0)), gPthV K (ad 8) (ad 27) (ad 35) (ad 28) (ad 29) (ad 30) (ad 31) (ad 32) (ad 33) (ad 34) pv2_11, gRayU K (ad 35) (ad 36) (ad 37) (ad 38) (ad 39) (ad 3) pr2_11 pX2_11, gScn K (ad 3) (ad 14) (ad 15) (ad 16) (ad 17) ou mi bo ln LF sn SF])) S C hG [1] (c_X0_add l K (ad 2) (ad 13) n1 F1 (([116, 98, 97, 114, 110]).getD pv2_11.2.1.toNat 0) (by omega)) rfl rfl 0 rfl rfl (cwV 1 S.2.2.2.2 gX8_writePath_X0_add rfl rfl rfl (by decide +kernel) ⟨Nat.le_of_ble_eq_true rfl, Nat.le_of_ble_eq_true rfl⟩) rfl hl.1 rfl (Nat.le_of_ble_eq_true rfl) dX8_writePath_106 ⟨Nat.le_of_ble_eq_true rfl, Nat.le_of_ble_eq_true rfl⟩ (fun _ => Nat.le_of_ble_eq_true rfl) (fun _ => rfl) (fun u H locs hp hG => ?_)
            refine lv_aload_n S.1 S.2.1 dX8_writePath_109 rfl (lv_at hl 1 rfl) ?_
            refine g_get S C hG iX80 0 rfl rfl 1 (by decide) (List.mem_of_getElem? (i := 2) rfl) rfl dX8_writePath_110 ?_
            refine g_get S C hG iX00 1 rfl rfl 1 (by decide) (List.mem_of_getElem? (i := 3) rfl) rfl dX8_writePath_113 ?_
            have hG : gW K A s.heap [gRLC K ad, gBuf K (ad 2) (ad 13) (n1 + 1) (upI F1 n1 (([116, 98, 97, 114, 110]).getD pv2_11.2.1.toNat 0)), gPthV K (ad 8) (ad 27) (ad 35) (ad 28) (ad 29) (ad 30) (ad 31) (ad 32) (ad 33) (ad 34) pv2_11, gRayU K (ad 35) (ad 36) (ad 37) (ad 38) (ad 39) (ad 3) pr2_11 pX2_11, gScn K (ad 3) (ad 14) (ad 15) (ad 16) (ad 17) ou mi bo ln LF sn SF] _ _ := hG
            exact g_iret S hr hlk hQ dX8_writePath_116 (Nat.le_of_ble_eq_true rfl) (Nat.le_of_ble_eq_true rfl) ((n1 + 1, upI F1 n1 (([116, 98, 97, 114, 110]).getD pv2_11.2.1.toNat 0), pv2_11, pr2_11, pX2_11) : Int × (Int → Int) × PV × RU × (Int → Int)) ⟨rfl, (by have z9 := ho.add ([116, 98, 97, 114, 110].getD pv2_11.2.1.toNat 0) <;> unfold pthT <;> rw [show gS N y = k by omega, show eS N y = pv2_11.2.1 from b3.symm] <;> exact z9), (by omega), hp_11⟩ hG
      · skip
        have q4 := b4 (k : Int) (by omega) (by omega)
        obtain ⟨a0, a1, a2, a4⟩ := hp_11.at0 (k := k) (by omega)
        rw [a0, a1] at q4
        have d1 := dgs_bd (ykS N y k)
        have d2 : dgs (ykS N y k) = 1 := by (unfold dgs <;> rw [if_neg (by omega), if_neg (by omega), if_neg (by omega)])
        refine lv_aload_n S.1 S.2.1 dX8_writePath_33 rfl (lv_at hl 0 rfl) ?_
        refine g_get S C hG iX80 0 rfl rfl 1 (by decide) (List.mem_of_getElem? (i := 2) rfl) rfl dX8_writePath_34 ?_
        refine lv_aload_n S.1 S.2.1 dX8_writePath_37 rfl (lv_at hl 2 rfl) ?_
        refine lv_iload_n S.1 S.2.1 dX8_writePath_38 rfl (lv_at hl 3 rfl) ?_
        refine g_iconst S dX8_writePath_39 ?_
        have hG : gW K A s.heap [gRLC K ad, gBuf K (ad 2) (ad 13) n1 F1, gPth K (ad 8) (ad 27) (ad 35) pv2_11.1 pv2_11.2.1 (ad 28) (ad 29) (ad 30) (ad 31) (ad 32) (ad 33) (ad 34) pv2_11.2.2.1 pv2_11.2.2.2.1 pv2_11.2.2.2.2.1 pv2_11.2.2.2.2.2.1 pv2_11.2.2.2.2.2.2.1 pv2_11.2.2.2.2.2.2.2.1 pv2_11.2.2.2.2.2.2.2.2, gRayU K (ad 35) (ad 36) (ad 37) (ad 38) (ad 39) (ad 3) pr2_11 pX2_11, gScn K (ad 3) (ad 14) (ad 15) (ad 16) (ad 17) ou mi bo ln LF sn SF] _ _ := hG
        refine g_invV (As := [.int (iI w), .int (iI 1)]) (rest := [.ref (ad 2)]) (gs' := (fun u : Unit => [gRLC K ad, gBuf K (ad 2) (ad 13) n1 F1, gPth K (ad 8) (ad 27) (ad 35) pv2_11.1 pv2_11.2.1 (ad 28) (ad 29) (ad 30) (ad 31) (ad 32) (ad 33) (ad 34) pv2_11.2.2.1 pv2_11.2.2.2.1 pv2_11.2.2.2.2.1 pv2_11.2.2.2.2.2.1 pv2_11.2.2.2.2.2.2.1 pv2_11.2.2.2.2.2.2.2.1 pv2_11.2.2.2.2.2.2.2.2, gRayU K (ad 35) (ad 36) (ad 37) (ad 38) (ad 39) (ad 3) pr2_11 pX2_11, gScn K (ad 3) (ad 14) (ad 15) (ad 16) (ad 17) ou mi bo ln LF sn SF])) S C hG [2] (c_X3_get1 l K (ad 8) (ad 27) (ad 35) pv2_11.1 pv2_11.2.1 (ad 28) (ad 29) (ad 30) (ad 31) (ad 32) (ad 33) (ad 34) pv2_11.2.2.1 pv2_11.2.2.2.1 pv2_11.2.2.2.2.1 pv2_11.2.2.2.2.2.1 pv2_11.2.2.2.2.2.2.1 pv2_11.2.2.2.2.2.2.2.1 pv2_11.2.2.2.2.2.2.2.2 w (by omega) (by omega)) rfl rfl 0 rfl rfl (cwV 2 S.2.2.2.2 gX8_writePath_X3_get rfl rfl rfl (by decide +kernel) ⟨Nat.le_of_ble_eq_true rfl, Nat.le_of_ble_eq_true rfl⟩) rfl hl.1 rfl (Nat.le_of_ble_eq_true rfl) dX8_writePath_40 ⟨Nat.le_of_ble_eq_true rfl, Nat.le_of_ble_eq_true rfl⟩ (fun _ => Nat.le_of_ble_eq_true rfl) (fun _ => rfl) (fun v u H locs hp hG => ?_)
        subst hp
        refine g_top (w := .int (iI (ekS N y k))) (congrArg (fun z : Int => Value.int (iI z)) (((if_pos (by omega)).trans (by rw [hw.1] <;> exact a1)))) ?_
        refine g_iconst S dX8_writePath_43 ?_
        refine g_icmp_ne (tgt := 52) S dX8_writePath_44 (by decide) (by omega) (by omega) (fun q44 => ?_) (fun q44 => ?_)
        · skip
          refine g_bipush S dX8_writePath_52 (by decide) ?_
          refine g_invVv (As := [.int (iI 94)]) (rest := []) (gs' := (fun u : Unit => [gRLC K ad, gBuf K (ad 2) (ad 13) (n1 + 1) (upI F1 n1 94), gPth K (ad 8) (ad 27) (ad 35) pv2_11.1 pv2_11.2.1 (ad 28) (ad 29) (ad 30) (ad 31) (ad 32) (ad 33) (ad 34) pv2_11.2.2.1 pv2_11.2.2.2.1 pv2_11.2.2.2.2.1 pv2_11.2.2.2.2.2.1 pv2_11.2.2.2.2.2.2.1 pv2_11.2.2.2.2.2.2.2.1 pv2_11.2.2.2.2.2.2.2.2, gRayU K (ad 35) (ad 36) (ad 37) (ad 38) (ad 39) (ad 3) pr2_11 pX2_11, gScn K (ad 3) (ad 14) (ad 15) (ad 16) (ad 17) ou mi bo ln LF sn SF])) S C hG [1] (c_X0_add l K (ad 2) (ad 13) n1 F1 94 (by omega)) rfl rfl 0 rfl rfl (cwV 1 S.2.2.2.2 gX8_writePath_X0_add rfl rfl rfl (by decide +kernel) ⟨Nat.le_of_ble_eq_true rfl, Nat.le_of_ble_eq_true rfl⟩) rfl hl.1 rfl (Nat.le_of_ble_eq_true rfl) dX8_writePath_54 ⟨Nat.le_of_ble_eq_true rfl, Nat.le_of_ble_eq_true rfl⟩ (fun _ => Nat.le_of_ble_eq_true rfl) (fun _ => rfl) (fun u H locs hp hG => ?_)
          refine lv_aload_n S.1 S.2.1 dX8_writePath_57 rfl (lv_at hl 0 rfl) ?_
          refine g_get S C hG iX80 0 rfl rfl 1 (by decide) (List.mem_of_getElem? (i := 2) rfl) rfl dX8_writePath_58 ?_
          refine lv_aload_n S.1 S.2.1 dX8_writePath_61 rfl (lv_at hl 2 rfl) ?_
          refine lv_iload_n S.1 S.2.1 dX8_writePath_62 rfl (lv_at hl 3 rfl) ?_
          refine g_iconst S dX8_writePath_63 ?_
          refine g_invV (As := [.int (iI w), .int (iI 0)]) (rest := [.ref (ad 2)]) (gs' := (fun u : Unit => [gRLC K ad, gBuf K (ad 2) (ad 13) (n1 + 1) (upI F1 n1 94), gPth K (ad 8) (ad 27) (ad 35) pv2_11.1 pv2_11.2.1 (ad 28) (ad 29) (ad 30) (ad 31) (ad 32) (ad 33) (ad 34) pv2_11.2.2.1 pv2_11.2.2.2.1 pv2_11.2.2.2.2.1 pv2_11.2.2.2.2.2.1 pv2_11.2.2.2.2.2.2.1 pv2_11.2.2.2.2.2.2.2.1 pv2_11.2.2.2.2.2.2.2.2, gRayU K (ad 35) (ad 36) (ad 37) (ad 38) (ad 39) (ad 3) pr2_11 pX2_11, gScn K (ad 3) (ad 14) (ad 15) (ad 16) (ad 17) ou mi bo ln LF sn SF])) S C hG [2] (c_X3_get0 l K (ad 8) (ad 27) (ad 35) pv2_11.1 pv2_11.2.1 (ad 28) (ad 29) (ad 30) (ad 31) (ad 32) (ad 33) (ad 34) pv2_11.2.2.1 pv2_11.2.2.2.1 pv2_11.2.2.2.2.1 pv2_11.2.2.2.2.2.1 pv2_11.2.2.2.2.2.2.1 pv2_11.2.2.2.2.2.2.2.1 pv2_11.2.2.2.2.2.2.2.2 w (by omega) (by omega)) rfl rfl 0 rfl rfl (cwV 2 S.2.2.2.2 gX8_writePath_X3_get rfl rfl rfl (by decide +kernel) ⟨Nat.le_of_ble_eq_true rfl, Nat.le_of_ble_eq_true rfl⟩) rfl hl.1 rfl (Nat.le_of_ble_eq_true rfl) dX8_writePath_64 ⟨Nat.le_of_ble_eq_true rfl, Nat.le_of_ble_eq_true rfl⟩ (fun _ => Nat.le_of_ble_eq_true rfl) (fun _ => rfl) (fun v u H locs hp hG => ?_)
          subst hp
          refine g_top (w := .int (iI (ykS N y k))) (congrArg (fun z : Int => Value.int (iI z)) (((if_pos (by omega)).trans (by rw [hw.1] <;> exact a0)))) ?_
          refine g_invVv (As := [.int (iI (ykS N y k))]) (rest := []) (gs' := (fun u : (Int → Int) => [gRLC K ad, gBuf K (ad 2) (ad 13) ((n1 + 1) + dgs (ykS N y k)) u, gPth K (ad 8) (ad 27) (ad 35) pv2_11.1 pv2_11.2.1 (ad 28) (ad 29) (ad 30) (ad 31) (ad 32) (ad 33) (ad 34) pv2_11.2.2.1 pv2_11.2.2.2.1 pv2_11.2.2.2.2.1 pv2_11.2.2.2.2.2.1 pv2_11.2.2.2.2.2.2.1 pv2_11.2.2.2.2.2.2.2.1 pv2_11.2.2.2.2.2.2.2.2, gRayU K (ad 35) (ad 36) (ad 37) (ad 38) (ad 39) (ad 3) pr2_11 pX2_11, gScn K (ad 3) (ad 14) (ad 15) (ad 16) (ad 17) ou mi bo ln LF sn SF])) S C hG [1] (c_X0_addNumber l K (ad 2) (ad 13) (n1 + 1) (upI F1 n1 94) (ykS N y k) (by omega) (by omega)) rfl rfl 0 rfl rfl (cwV 1 S.2.2.2.2 gX8_writePath_X0_addNumber rfl rfl rfl (by decide +kernel) ⟨Nat.le_of_ble_eq_true rfl, Nat.le_of_ble_eq_true rfl⟩) rfl hl.1 rfl (Nat.le_of_ble_eq_true rfl) dX8_writePath_67 ⟨Nat.le_of_ble_eq_true rfl, Nat.le_of_ble_eq_true rfl⟩ (fun _ => Nat.le_of_ble_eq_true rfl) (fun _ => rfl) (fun u H locs hp hG => ?_)
          obtain ⟨F2_67, rfl⟩ : ∃ z, z = u := ⟨_, rfl⟩
          have hF_67 := hp
          have hF_67 : ∀ j : Int, F2_67 j = if (n1 + 1) ≤ j ∧ j < (n1 + 1) + dgs (ykS N y k) then dgt (ykS N y k) (j - (n1 + 1)) else (upI F1 n1 94) j := hF_67
          have hG : gW K A s.heap [gRLC K ad, gBuf K (ad 2) (ad 13) ((n1 + 1) + dgs (ykS N y k)) F2_67, gPth K (ad 8) (ad 27) (ad 35) pv2_11.1 pv2_11.2.1 (ad 28) (ad 29) (ad 30) (ad 31) (ad 32) (ad 33) (ad 34) pv2_11.2.2.1 pv2_11.2.2.2.1 pv2_11.2.2.2.2.1 pv2_11.2.2.2.2.2.1 pv2_11.2.2.2.2.2.2.1 pv2_11.2.2.2.2.2.2.2.1 pv2_11.2.2.2.2.2.2.2.2, gRayU K (ad 35) (ad 36) (ad 37) (ad 38) (ad 39) (ad 3) pr2_11 pX2_11, gScn K (ad 3) (ad 14) (ad 15) (ad 16) (ad 17) ou mi bo ln LF sn SF] _ _ := hG
          refine lv_iinc (v := iI (w + 1)) (lv' := [(3, .int (iI (w + 1))), (0, .ref (ad 0)), (1, .int (iI y)), (2, .ref (ad 8))]) S.1 S.2.1 dX8_writePath_70 hl (k := 3) rfl (g_iinc rfl) (by decide) rfl (fun ls hl => ?_)
          refine lv_goto (tgt := 25) S.1 S.2.1 dX8_writePath_73 (by decide) ?_
          have hG : gW K A s.heap [gRLC K ad, gBuf K (ad 2) (ad 13) ((n1 + 1) + dgs (ykS N y k)) F2_67, gPthV K (ad 8) (ad 27) (ad 35) (ad 28) (ad 29) (ad 30) (ad 31) (ad 32) (ad 33) (ad 34) pv2_11, gRayU K (ad 35) (ad 36) (ad 37) (ad 38) (ad 39) (ad 3) pr2_11 pX2_11, gScn K (ad 3) (ad 14) (ad 15) (ad 16) (ad 17) ou mi bo ln LF sn SF] _ _ := hG
          exact ih (k + 1) (w + 1) ((n1 + 1) + dgs (ykS N y k)) F2_67 _ _ _ (by omega) ⟨by omega, by omega⟩ (by have z9 := ((ho.add 94).num hF_67) <;> simp only [lgT] <;> rw [if_neg q44] <;> simpa [List.append_assoc] using z9) (by omega) (lv_sub hl [1, 2, 3, 0] rfl) hG
        · skip
          refine g_bipush S dX8_writePath_47 (by decide) ?_
          refine lv_goto (tgt := 54) S.1 S.2.1 dX8_writePath_49 (by decide) ?_
          refine g_invVv (As := [.int (iI 118)]) (rest := []) (gs' := (fun u : Unit => [gRLC K ad, gBuf K (ad 2) (ad 13) (n1 + 1) (upI F1 n1 118), gPth K (ad 8) (ad 27) (ad 35) pv2_11.1 pv2_11.2.1 (ad 28) (ad 29) (ad 30) (ad 31) (ad 32) (ad 33) (ad 34) pv2_11.2.2.1 pv2_11.2.2.2.1 pv2_11.2.2.2.2.1 pv2_11.2.2.2.2.2.1 pv2_11.2.2.2.2.2.2.1 pv2_11.2.2.2.2.2.2.2.1 pv2_11.2.2.2.2.2.2.2.2, gRayU K (ad 35) (ad 36) (ad 37) (ad 38) (ad 39) (ad 3) pr2_11 pX2_11, gScn K (ad 3) (ad 14) (ad 15) (ad 16) (ad 17) ou mi bo ln LF sn SF])) S C hG [1] (c_X0_add l K (ad 2) (ad 13) n1 F1 118 (by omega)) rfl rfl 0 rfl rfl (cwV 1 S.2.2.2.2 gX8_writePath_X0_add rfl rfl rfl (by decide +kernel) ⟨Nat.le_of_ble_eq_true rfl, Nat.le_of_ble_eq_true rfl⟩) rfl hl.1 rfl (Nat.le_of_ble_eq_true rfl) dX8_writePath_54 ⟨Nat.le_of_ble_eq_true rfl, Nat.le_of_ble_eq_true rfl⟩ (fun _ => Nat.le_of_ble_eq_true rfl) (fun _ => rfl) (fun u H locs hp hG => ?_)
          refine lv_aload_n S.1 S.2.1 dX8_writePath_57 rfl (lv_at hl 0 rfl) ?_
          refine g_get S C hG iX80 0 rfl rfl 1 (by decide) (List.mem_of_getElem? (i := 2) rfl) rfl dX8_writePath_58 ?_
          refine lv_aload_n S.1 S.2.1 dX8_writePath_61 rfl (lv_at hl 2 rfl) ?_
          refine lv_iload_n S.1 S.2.1 dX8_writePath_62 rfl (lv_at hl 3 rfl) ?_
          refine g_iconst S dX8_writePath_63 ?_
          refine g_invV (As := [.int (iI w), .int (iI 0)]) (rest := [.ref (ad 2)]) (gs' := (fun u : Unit => [gRLC K ad, gBuf K (ad 2) (ad 13) (n1 + 1) (upI F1 n1 118), gPth K (ad 8) (ad 27) (ad 35) pv2_11.1 pv2_11.2.1 (ad 28) (ad 29) (ad 30) (ad 31) (ad 32) (ad 33) (ad 34) pv2_11.2.2.1 pv2_11.2.2.2.1 pv2_11.2.2.2.2.1 pv2_11.2.2.2.2.2.1 pv2_11.2.2.2.2.2.2.1 pv2_11.2.2.2.2.2.2.2.1 pv2_11.2.2.2.2.2.2.2.2, gRayU K (ad 35) (ad 36) (ad 37) (ad 38) (ad 39) (ad 3) pr2_11 pX2_11, gScn K (ad 3) (ad 14) (ad 15) (ad 16) (ad 17) ou mi bo ln LF sn SF])) S C hG [2] (c_X3_get0 l K (ad 8) (ad 27) (ad 35) pv2_11.1 pv2_11.2.1 (ad 28) (ad 29) (ad 30) (ad 31) (ad 32) (ad 33) (ad 34) pv2_11.2.2.1 pv2_11.2.2.2.1 pv2_11.2.2.2.2.1 pv2_11.2.2.2.2.2.1 pv2_11.2.2.2.2.2.2.1 pv2_11.2.2.2.2.2.2.2.1 pv2_11.2.2.2.2.2.2.2.2 w (by omega) (by omega)) rfl rfl 0 rfl rfl (cwV 2 S.2.2.2.2 gX8_writePath_X3_get rfl rfl rfl (by decide +kernel) ⟨Nat.le_of_ble_eq_true rfl, Nat.le_of_ble_eq_true rfl⟩) rfl hl.1 rfl (Nat.le_of_ble_eq_true rfl) dX8_writePath_64 ⟨Nat.le_of_ble_eq_true rfl, Nat.le_of_ble_eq_true rfl⟩ (fun _ => Nat.le_of_ble_eq_true rfl) (fun _ => rfl) (fun v u H locs hp hG => ?_)
          subst hp
          refine g_top (w := .int (iI (ykS N y k))) (congrArg (fun z : Int => Value.int (iI z)) (((if_pos (by omega)).trans (by rw [hw.1] <;> exact a0)))) ?_
          refine g_invVv (As := [.int (iI (ykS N y k))]) (rest := []) (gs' := (fun u : (Int → Int) => [gRLC K ad, gBuf K (ad 2) (ad 13) ((n1 + 1) + dgs (ykS N y k)) u, gPth K (ad 8) (ad 27) (ad 35) pv2_11.1 pv2_11.2.1 (ad 28) (ad 29) (ad 30) (ad 31) (ad 32) (ad 33) (ad 34) pv2_11.2.2.1 pv2_11.2.2.2.1 pv2_11.2.2.2.2.1 pv2_11.2.2.2.2.2.1 pv2_11.2.2.2.2.2.2.1 pv2_11.2.2.2.2.2.2.2.1 pv2_11.2.2.2.2.2.2.2.2, gRayU K (ad 35) (ad 36) (ad 37) (ad 38) (ad 39) (ad 3) pr2_11 pX2_11, gScn K (ad 3) (ad 14) (ad 15) (ad 16) (ad 17) ou mi bo ln LF sn SF])) S C hG [1] (c_X0_addNumber l K (ad 2) (ad 13) (n1 + 1) (upI F1 n1 118) (ykS N y k) (by omega) (by omega)) rfl rfl 0 rfl rfl (cwV 1 S.2.2.2.2 gX8_writePath_X0_addNumber rfl rfl rfl (by decide +kernel) ⟨Nat.le_of_ble_eq_true rfl, Nat.le_of_ble_eq_true rfl⟩) rfl hl.1 rfl (Nat.le_of_ble_eq_true rfl) dX8_writePath_67 ⟨Nat.le_of_ble_eq_true rfl, Nat.le_of_ble_eq_true rfl⟩ (fun _ => Nat.le_of_ble_eq_true rfl) (fun _ => rfl) (fun u H locs hp hG => ?_)
          obtain ⟨F2_67, rfl⟩ : ∃ z, z = u := ⟨_, rfl⟩
          have hF_67 := hp
          have hF_67 : ∀ j : Int, F2_67 j = if (n1 + 1) ≤ j ∧ j < (n1 + 1) + dgs (ykS N y k) then dgt (ykS N y k) (j - (n1 + 1)) else (upI F1 n1 118) j := hF_67
          have hG : gW K A s.heap [gRLC K ad, gBuf K (ad 2) (ad 13) ((n1 + 1) + dgs (ykS N y k)) F2_67, gPth K (ad 8) (ad 27) (ad 35) pv2_11.1 pv2_11.2.1 (ad 28) (ad 29) (ad 30) (ad 31) (ad 32) (ad 33) (ad 34) pv2_11.2.2.1 pv2_11.2.2.2.1 pv2_11.2.2.2.2.1 pv2_11.2.2.2.2.2.1 pv2_11.2.2.2.2.2.2.1 pv2_11.2.2.2.2.2.2.2.1 pv2_11.2.2.2.2.2.2.2.2, gRayU K (ad 35) (ad 36) (ad 37) (ad 38) (ad 39) (ad 3) pr2_11 pX2_11, gScn K (ad 3) (ad 14) (ad 15) (ad 16) (ad 17) ou mi bo ln LF sn SF] _ _ := hG
          refine lv_iinc (v := iI (w + 1)) (lv' := [(3, .int (iI (w + 1))), (0, .ref (ad 0)), (1, .int (iI y)), (2, .ref (ad 8))]) S.1 S.2.1 dX8_writePath_70 hl (k := 3) rfl (g_iinc rfl) (by decide) rfl (fun ls hl => ?_)
          refine lv_goto (tgt := 25) S.1 S.2.1 dX8_writePath_73 (by decide) ?_
          have hG : gW K A s.heap [gRLC K ad, gBuf K (ad 2) (ad 13) ((n1 + 1) + dgs (ykS N y k)) F2_67, gPthV K (ad 8) (ad 27) (ad 35) (ad 28) (ad 29) (ad 30) (ad 31) (ad 32) (ad 33) (ad 34) pv2_11, gRayU K (ad 35) (ad 36) (ad 37) (ad 38) (ad 39) (ad 3) pr2_11 pX2_11, gScn K (ad 3) (ad 14) (ad 15) (ad 16) (ad 17) ou mi bo ln LF sn SF] _ _ := hG
          exact ih (k + 1) (w + 1) ((n1 + 1) + dgs (ykS N y k)) F2_67 _ _ _ (by omega) ⟨by omega, by omega⟩ (by have z9 := ((ho.add 118).num hF_67) <;> simp only [lgT] <;> rw [if_pos (by omega)] <;> simpa [List.append_assoc] using z9) (by omega) (lv_sub hl [1, 2, 3, 0] rfl) hG
  exact L25 (Nat.succ ((pv2_11.1 - 0).toNat)) 0 0 0 F _ _ _ (Nat.lt_succ_self _) ⟨rfl, by omega⟩ (OutI.nil F) (by omega) (lv_sub hl [2, 3, 1, 0] rfl) hG

set_option maxHeartbeats 1000000 in
set_option maxRecDepth 100000 in
theorem x1_writePath (l : Launch) (K : KC) (ad : Nat → Nat) (ou : Int) (mi : Int) (bo : Int) (ln : Int) (LF : Int → Int) (sn : Int) (SF : Int → Int) (N : Int → Int) (y : Int) (hS : ScOk N ou mi bo ln LF sn SF) (hN : NOk0 N) (hv : -2147483648 ≤ y ∧ y < 2147483648) (hs : ¬ (0 ≤ y ∧ y < N 4)) (hst : l.stackTraces = false) : mX l yX8_writePath wsX8_writePath 7 103 K [.ref (ad 0), .int (iI y)] [gRLC K ad, gScn K (ad 3) (ad 14) (ad 15) (ad 16) (ad 17) ou mi bo ln LF sn SF] "java/lang/IndexOutOfBoundsException" (fun (u : Unit) => True) (fun (u : Unit) => [gRLC K ad, gScn K (ad 3) (ad 14) (ad 15) (ad 16) (ad 17) ou mi bo ln LF sn SF]) 1 6 := by
  refine mX_of cX8_writePath 4 (by decide) rfl (Nat.le_of_ble_eq_true rfl) ?_
  intro p e s m below meth c A ls Q S C hG hl hex hlk hin hQ
  have S : CallFix p m c cX8_writePath 4 s ([.ref (ad 0), .int (iI y)] : List Value).toArray wsX8_writePath RX8 := S
  have iX80 : ∀ w ∈ wsX80, w ∈ wsX8_writePath := fun _ h => List.mem_cons_of_mem _ (List.mem_append_left _ (List.mem_append_left _ (List.mem_append_left _ (List.mem_append_left _ (List.mem_append_left _ (List.mem_append_left _ (List.mem_append_right _ (h))))))))
  have iX00 : ∀ w ∈ wsX00, w ∈ wsX8_writePath := fun _ h => List.mem_cons_of_mem _ (List.mem_append_left _ (List.mem_append_left _ (List.mem_append_left _ (List.mem_append_left _ (List.mem_append_left _ (List.mem_append_right _ (h)))))))
  have iX30 : ∀ w ∈ wsX30, w ∈ wsX8_writePath := fun _ h => List.mem_cons_of_mem _ (List.mem_append_left _ (List.mem_append_left _ (List.mem_append_left _ (List.mem_append_left _ (List.mem_append_right _ (h))))))
  have iX50 : ∀ w ∈ wsX50, w ∈ wsX8_writePath := fun _ h => List.mem_cons_of_mem _ (List.mem_append_left _ (List.mem_append_left _ (List.mem_append_left _ (List.mem_append_right _ (h)))))
  have iX70 : ∀ w ∈ wsX70, w ∈ wsX8_writePath := fun _ h => List.mem_cons_of_mem _ (List.mem_append_left _ (List.mem_append_left _ (List.mem_append_right _ (h))))
  have iX40 : ∀ w ∈ wsX40, w ∈ wsX8_writePath := fun _ h => List.mem_cons_of_mem _ (List.mem_append_left _ (List.mem_append_right _ (h)))
  have hl : lv_has ls 4 [(0, .ref (ad 0)), (1, .int (iI y))] := hl
  have hG : gW K A s.heap [gRLC K ad, gScn K (ad 3) (ad 14) (ad 15) (ad 16) (ad 17) ou mi bo ln LF sn SF] s.heap [] := hG
  obtain ⟨e0, e1, e2, e3, e4, e5, e6⟩ := id hS
  have n0 := hN.1
  have n3 := hN.2.2.2.1
  refine lv_aload_n S.1 S.2.1 dX8_writePath_0 rfl (lv_at hl 0 rfl) ?_
  refine lv_iload_n S.1 S.2.1 dX8_writePath_1 rfl (lv_at hl 1 rfl) ?_
  refine g_xV (E := "java/lang/IndexOutOfBoundsException") (As := [.int (iI y)]) (rest := []) (gs' := (fun u : Unit => [gRLC K ad, gScn K (ad 3) (ad 14) (ad 15) (ad 16) (ad 17) ou mi bo ln LF sn SF])) S C hG [0, 1] (x_checkShot l K ad ou mi bo ln LF sn SF N y hS hN hv hs hst) rfl rfl 0 rfl rfl (cwV 1 S.2.2.2.2 gX8_writePath_X8_checkShot rfl rfl rfl (by decide +kernel) ⟨Nat.le_of_ble_eq_true rfl, Nat.le_of_ble_eq_true rfl⟩) rfl hl.1 rfl (Nat.le_of_ble_eq_true rfl) dX8_writePath_2 ⟨Nat.le_of_ble_eq_true rfl, Nat.le_of_ble_eq_true rfl⟩ (fun _ => Nat.le_of_ble_eq_true rfl) (fun _ => rfl) (fun u q9 ce9 H locs hp hG hq9 hv9 hcl9 => ?_)
  have hG : gW K A s.heap [gRLC K ad, gScn K (ad 3) (ad 14) (ad 15) (ad 16) (ad 17) ou mi bo ln LF sn SF] _ _ := hG
  exact g_xout hQ hex hlk hq9 hv9 hcl9 (Nat.le_of_ble_eq_true rfl) (Nat.le_of_ble_eq_true rfl) (() : Unit) trivial hG
