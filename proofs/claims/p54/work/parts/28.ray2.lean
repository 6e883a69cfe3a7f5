set_option maxHeartbeats 1000000 in
set_option maxRecDepth 100000 in
theorem c_X4_measure (l : Launch) (K : KC) (ra : Nat) (xa : Nat) (sha : Nat) (lea : Nat) (tma : Nat) (sc : Nat) (pp : Int) (ly : Int) (dn : Int) (lg : Int) (en : Int) (sh : Int) (le : Int) (tm : Int) (pw : Int) (tr : Int) (mr : Int) (cr : Int) (de : Int) (XF : Int → Int) (HF : Int → Int) (EF : Int → Int) (TF : Int → Int) (la : Nat) (lb : Nat) (sa : Nat) (sb : Nat) (ou : Int) (mi : Int) (bo : Int) (ln : Int) (LF : Int → Int) (sn : Int) (SF : Int → Int) (N : Int → Int) (hS : ScOk N ou mi bo ln LF sn SF) (hN : NOk0 N) (hy : 0 ≤ ly ∧ ly < N 0) (hp0 : 0 ≤ pp) (hp1 : pp < nX N ly) : mV l yX4_measure wsX4_measure 1 23 K [.ref ra] [gRay K ra xa sha lea tma sc pp ly dn lg en sh le tm pw tr mr cr de XF HF EF TF, gScn K sc la lb sa sb ou mi bo ln LF sn SF] (fun (u : Unit) => True) (fun (u : Unit) => [gRay K ra xa sha lea tma sc pp ly dn lg en sh le tm pw tr mr cr de XF (upI HF ly (shN N pp ly)) (upI EF ly (leN N pp ly)) (upI TF ly (tmN N pp ly)), gScn K sc la lb sa sb ou mi bo ln LF sn SF]) 0 0 := by
  refine mV_of cX4_measure 5 (by decide) rfl (Nat.le_of_ble_eq_true rfl) ?_
  intro p e s m below meth c A ls Q S C hG hl hr hlk hin hQ
  have S : CallFix p m c cX4_measure 5 s ([.ref ra] : List Value).toArray wsX4_measure RX4 := S
  have iX40 : ∀ w ∈ wsX40, w ∈ wsX4_measure := fun _ h => List.mem_cons_of_mem _ (List.mem_append_left _ (List.mem_append_left _ (List.mem_append_right _ (h))))
  have iX50 : ∀ w ∈ wsX50, w ∈ wsX4_measure := fun _ h => List.mem_cons_of_mem _ (List.mem_append_left _ (List.mem_append_right _ (h)))
  have iX70 : ∀ w ∈ wsX70, w ∈ wsX4_measure := fun _ h => List.mem_cons_of_mem _ (List.mem_append_right _ (h))
  have hl : lv_has ls 5 [(0, .ref ra)] := hl
  have hG : gW K A s.heap [gRay K ra xa sha lea tma sc pp ly dn lg en sh le tm pw tr mr cr de XF HF EF TF, gScn K sc la lb sa sb ou mi bo ln LF sn SF] s.heap [] := hG
  obtain ⟨e0, e1, e2, e3, e4, e5, e6⟩ := id hS
  have n0 := hN.1
  obtain ⟨l1, l2, l3⟩ := lay_bd hN hy.1 hy.2
  obtain ⟨g1, g2, g3, g4, g5, g6⟩ := leg_bd hN hy.1 hy.2 hp0 hp1
  obtain ⟨r1, r2, r3⟩ := rN_bd hN hy.1 hy.2 hp0 hp1
  obtain ⟨v1, v2, v3⟩ := vN_bd hN hy.1 hy.2 hp0 hp1
  have v4 : vN N pp ly = nX N ly * nX N ly - pp * pp := rfl
  have p2 : 0 ≤ pp * pp := Int.mul_nonneg hp0 hp0
  have p3 : pp * pp ≤ 4000 * 4000 := sq_mono hp0 (by omega)
  have p4 : nX N ly * nX N ly ≤ 4000 * 4000 := sq_mono (by omega) (by omega)
  have p5 : 0 ≤ nX N ly * nX N ly := Int.mul_nonneg (by omega) (by omega)
  refine lv_aload_n S.1 S.2.1 dX4_measure_0 rfl (lv_at hl 0 rfl) ?_
  refine g_get S C hG iX40 0 rfl rfl 4 (by decide) (List.mem_of_getElem? (i := 1) rfl) rfl dX4_measure_1 ?_
  refine g_get S C hG iX50 5 rfl rfl 0 (by decide) (List.mem_of_getElem? (i := 2) rfl) rfl dX4_measure_4 ?_
  refine lv_aload_n S.1 S.2.1 dX4_measure_7 rfl (lv_at hl 0 rfl) ?_
  refine g_get S C hG iX40 0 rfl rfl 6 (by decide) (List.mem_of_getElem? (i := 3) rfl) rfl dX4_measure_8 ?_
  refine g_iconst S dX4_measure_11 ?_
  have hG : gW K A s.heap [gRay K ra xa sha lea tma sc pp ly dn lg en sh le tm pw tr mr cr de XF HF EF TF, gScC K sc la sa ou mi bo, gTab K la lb ln LF, gTabC K sa sb sn, gArr K 60 sb SF] _ _ := hG
  refine g_invV (As := [.int (iI ly), .int (iI 0)]) (rest := []) (gs' := (fun u : Unit => [gRay K ra xa sha lea tma sc pp ly dn lg en sh le tm pw tr mr cr de XF HF EF TF, gScC K sc la sa ou mi bo, gTab K la lb ln LF, gTabC K sa sb sn, gArr K 60 sb SF])) S C hG [2] (c_X7_get l K la lb ln LF ly 0 (by omega) (by omega)) rfl rfl 0 rfl rfl (cwV 2 S.2.2.2.2 gX4_measure_X7_get rfl rfl rfl (by decide +kernel) ⟨Nat.le_of_ble_eq_true rfl, Nat.le_of_ble_eq_true rfl⟩) rfl hl.1 rfl (Nat.le_of_ble_eq_true rfl) dX4_measure_12 ⟨Nat.le_of_ble_eq_true rfl, Nat.le_of_ble_eq_true rfl⟩ (fun _ => Nat.le_of_ble_eq_true rfl) (fun _ => rfl) (fun v u H locs hp hG => ?_)
  subst hp
  refine g_top (w := .int (iI (nX N ly))) (congrArg (fun z : Int => Value.int (iI z)) (e5 ly 0 (by omega) (by omega) (by omega) (by omega))) ?_
  refine lv_istore_n (lv' := [(1, .int (iI (nX N ly))), (0, .ref ra)]) S.1 S.2.1 dX4_measure_15 rfl hl (by decide) rfl (fun ls hl => ?_)
  refine lv_aload_n S.1 S.2.1 dX4_measure_16 rfl (lv_at hl 1 rfl) ?_
  refine g_get S C hG iX40 0 rfl rfl 4 (by decide) (List.mem_of_getElem? (i := 1) rfl) rfl dX4_measure_17 ?_
  refine g_get S C hG iX50 5 rfl rfl 0 (by decide) (List.mem_of_getElem? (i := 2) rfl) rfl dX4_measure_20 ?_
  refine lv_aload_n S.1 S.2.1 dX4_measure_23 rfl (lv_at hl 1 rfl) ?_
  refine g_get S C hG iX40 0 rfl rfl 6 (by decide) (List.mem_of_getElem? (i := 3) rfl) rfl dX4_measure_24 ?_
  refine g_iconst S dX4_measure_27 ?_
  refine g_invV (As := [.int (iI ly), .int (iI 1)]) (rest := []) (gs' := (fun u : Unit => [gRay K ra xa sha lea tma sc pp ly dn lg en sh le tm pw tr mr cr de XF HF EF TF, gScC K sc la sa ou mi bo, gTab K la lb ln LF, gTabC K sa sb sn, gArr K 60 sb SF])) S C hG [2] (c_X7_get l K la lb ln LF ly 1 (by omega) (by omega)) rfl rfl 0 rfl rfl (cwV 2 S.2.2.2.2 gX4_measure_X7_get rfl rfl rfl (by decide +kernel) ⟨Nat.le_of_ble_eq_true rfl, Nat.le_of_ble_eq_true rfl⟩) rfl hl.1 rfl (Nat.le_of_ble_eq_true rfl) dX4_measure_28 ⟨Nat.le_of_ble_eq_true rfl, Nat.le_of_ble_eq_true rfl⟩ (fun _ => Nat.le_of_ble_eq_true rfl) (fun _ => rfl) (fun v u H locs hp hG => ?_)
  subst hp
  refine g_top (w := .int (iI (dX N ly))) (congrArg (fun z : Int => Value.int (iI z)) (e5 ly 1 (by omega) (by omega) (by omega) (by omega))) ?_
  refine lv_istore_n (lv' := [(2, .int (iI (dX N ly))), (1, .int (iI (nX N ly))), (0, .ref ra)]) S.1 S.2.1 dX4_measure_31 rfl hl (by decide) rfl (fun ls hl => ?_)
  refine lv_iload_n S.1 S.2.1 dX4_measure_32 rfl (lv_at hl 1 rfl) ?_
  refine lv_iload_n S.1 S.2.1 dX4_measure_33 rfl (lv_at hl 1 rfl) ?_
  refine g_imul S dX4_measure_34 rfl ?_
  refine lv_aload_n S.1 S.2.1 dX4_measure_35 rfl (lv_at hl 2 rfl) ?_
  refine g_get S C hG iX40 0 rfl rfl 5 (by decide) (List.mem_of_getElem? (i := 4) rfl) rfl dX4_measure_36 ?_
  refine lv_aload_n S.1 S.2.1 dX4_measure_39 rfl (lv_at hl 2 rfl) ?_
  refine g_get S C hG iX40 0 rfl rfl 5 (by decide) (List.mem_of_getElem? (i := 4) rfl) rfl dX4_measure_40 ?_
  refine g_imul S dX4_measure_43 rfl ?_
  refine g_isub S dX4_measure_44 rfl ?_
  refine g_top (w := .int (iI (vN N pp ly))) (congrArg (fun z : Int => Value.int (iI z)) (rfl)) ?_
  refine g_invS (As := [.int (iI (vN N pp ly))]) (rest := []) (gs' := (fun u : Unit => [gRay K ra xa sha lea tma sc pp ly dn lg en sh le tm pw tr mr cr de XF HF EF TF, gScC K sc la sa ou mi bo, gTab K la lb ln LF, gTabC K sa sb sn, gArr K 60 sb SF])) S C hG [] (c_X4_rootOf l K (vN N pp ly) (by omega)) rfl rfl (va_cwS 1 S.2.2.2.2 gX4_measure_X4_rootOf rfl rfl rfl (by decide +kernel) ⟨Nat.le_of_ble_eq_true rfl, Nat.le_of_ble_eq_true rfl⟩) rfl hl.1 rfl (Nat.le_of_ble_eq_true rfl) dX4_measure_45 ⟨Nat.le_of_ble_eq_true rfl, Nat.le_of_ble_eq_true rfl⟩ (fun _ => Nat.le_of_ble_eq_true rfl) (fun _ => rfl) (fun v u H locs hp hG => ?_)
  subst hp
  refine g_top (w := .int (iI (rN N pp ly))) (congrArg (fun z : Int => Value.int (iI z)) (rfl)) ?_
  refine lv_istore_n (lv' := [(3, .int (iI (rN N pp ly))), (2, .int (iI (dX N ly))), (1, .int (iI (nX N ly))), (0, .ref ra)]) S.1 S.2.1 dX4_measure_48 rfl hl (by decide) rfl (fun ls hl => ?_)
  refine lv_iload_n S.1 S.2.1 dX4_measure_49 rfl (lv_at hl 0 rfl) ?_
  refine g_if_le (tgt := 111) S dX4_measure_50 (by decide) (by omega) (fun q50 => ?_) (fun q50 => ?_)
  · skip
    omega
  · skip
    refine lv_iload_n S.1 S.2.1 dX4_measure_53 rfl (lv_at hl 1 rfl) ?_
    refine lv_iload_n S.1 S.2.1 dX4_measure_54 rfl (lv_at hl 2 rfl) ?_
    refine g_imul S dX4_measure_55 rfl ?_
    refine lv_iload_n S.1 S.2.1 dX4_measure_56 rfl (lv_at hl 0 rfl) ?_
    refine g_idiv S dX4_measure_57 (by omega) (by omega) rfl ?_
    refine g_top (w := .int (iI (leN N pp ly))) (congrArg (fun z : Int => Value.int (iI z)) (rfl)) ?_
    refine lv_istore (lv' := [(4, .int (iI (leN N pp ly))), (3, .int (iI (rN N pp ly))), (2, .int (iI (dX N ly))), (1, .int (iI (nX N ly))), (0, .ref ra)]) S.1 S.2.1 dX4_measure_58 hl (by decide) rfl (fun ls hl => ?_)
    refine lv_aload_n S.1 S.2.1 dX4_measure_60 rfl (lv_at hl 4 rfl) ?_
    refine g_get S C hG iX40 0 rfl rfl 1 (by decide) (List.mem_of_getElem? (i := 5) rfl) rfl dX4_measure_61 ?_
    refine lv_aload_n S.1 S.2.1 dX4_measure_64 rfl (lv_at hl 4 rfl) ?_
    refine g_get S C hG iX40 0 rfl rfl 6 (by decide) (List.mem_of_getElem? (i := 3) rfl) rfl dX4_measure_65 ?_
    refine lv_iload_n S.1 S.2.1 dX4_measure_68 rfl (lv_at hl 2 rfl) ?_
    refine lv_aload_n S.1 S.2.1 dX4_measure_69 rfl (lv_at hl 4 rfl) ?_
    refine g_get S C hG iX40 0 rfl rfl 5 (by decide) (List.mem_of_getElem? (i := 4) rfl) rfl dX4_measure_70 ?_
    refine g_imul S dX4_measure_73 rfl ?_
    refine lv_iload_n S.1 S.2.1 dX4_measure_74 rfl (lv_at hl 1 rfl) ?_
    refine g_idiv S dX4_measure_75 (by omega) (by omega) rfl ?_
    refine g_top (w := .int (iI (shN N pp ly))) (congrArg (fun z : Int => Value.int (iI z)) (rfl)) ?_
    have hG : gW K A s.heap [gRayC K ra xa sha lea tma sc pp ly dn lg en sh le tm pw tr mr cr de, gArr K 12 xa XF, gArr K 10 sha HF, gArr K 10 lea EF, gArr K 10 tma TF, gScC K sc la sa ou mi bo, gTab K la lb ln LF, gTabC K sa sb sn, gArr K 60 sb SF] _ _ := hG
    refine g_invSNv (As := [.ref sha, .int (iI ly), .int (iI (shN N pp ly))]) (rest := []) (gs' := (fun u : Unit => [gRayC K ra xa sha lea tma sc pp ly dn lg en sh le tm pw tr mr cr de, gArr K 12 xa XF, gArr K 10 sha (upI HF ly (shN N pp ly)), gArr K 10 lea EF, gArr K 10 tma TF, gScC K sc la sa ou mi bo, gTab K la lb ln LF, gTabC K sa sb sn, gArr K 60 sb SF])) S C hG [2] (c_X8_put l K 10 sha HF ly (shN N pp ly) (by omega) (by omega)) rfl rfl ⟨va_cnB 3 S.2.2.2.2 gX4_measure_X8_put_n44 rfl rfl rfl (C.1.2.1 _ (List.mem_of_getElem? (i := 7) rfl)) (S.2.2.2.2 _ (List.mem_of_getElem? (i := 19) rfl)) (by decide +kernel) ⟨Nat.le_of_ble_eq_true rfl, Nat.le_of_ble_eq_true rfl⟩, (S.2.2.2.2 _ (List.mem_of_getElem? (i := 18) rfl)), trivial⟩ rfl hl.1 rfl (Nat.le_of_ble_eq_true rfl) dX4_measure_76 ⟨Nat.le_of_ble_eq_true rfl, Nat.le_of_ble_eq_true rfl⟩ (fun _ => Nat.le_of_ble_eq_true rfl) (fun _ => rfl) (fun u H locs hp hG => ?_)
    refine lv_aload_n S.1 S.2.1 dX4_measure_79 rfl (lv_at hl 4 rfl) ?_
    refine g_get S C hG iX40 0 rfl rfl 2 (by decide) (List.mem_of_getElem? (i := 6) rfl) rfl dX4_measure_80 ?_
    refine lv_aload_n S.1 S.2.1 dX4_measure_83 rfl (lv_at hl 4 rfl) ?_
    refine g_get S C hG iX40 0 rfl rfl 6 (by decide) (List.mem_of_getElem? (i := 3) rfl) rfl dX4_measure_84 ?_
    refine lv_iload S.1 S.2.1 dX4_measure_87 (lv_at hl 0 rfl) ?_
    refine g_invSNv (As := [.ref lea, .int (iI ly), .int (iI (leN N pp ly))]) (rest := []) (gs' := (fun u : Unit => [gRayC K ra xa sha lea tma sc pp ly dn lg en sh le tm pw tr mr cr de, gArr K 12 xa XF, gArr K 10 sha (upI HF ly (shN N pp ly)), gArr K 10 lea (upI EF ly (leN N pp ly)), gArr K 10 tma TF, gScC K sc la sa ou mi bo, gTab K la lb ln LF, gTabC K sa sb sn, gArr K 60 sb SF])) S C hG [3] (c_X8_put l K 10 lea EF ly (leN N pp ly) (by omega) (by omega)) rfl rfl ⟨va_cnB 3 S.2.2.2.2 gX4_measure_X8_put_n44 rfl rfl rfl (C.1.2.1 _ (List.mem_of_getElem? (i := 7) rfl)) (S.2.2.2.2 _ (List.mem_of_getElem? (i := 19) rfl)) (by decide +kernel) ⟨Nat.le_of_ble_eq_true rfl, Nat.le_of_ble_eq_true rfl⟩, (S.2.2.2.2 _ (List.mem_of_getElem? (i := 18) rfl)), trivial⟩ rfl hl.1 rfl (Nat.le_of_ble_eq_true rfl) dX4_measure_89 ⟨Nat.le_of_ble_eq_true rfl, Nat.le_of_ble_eq_true rfl⟩ (fun _ => Nat.le_of_ble_eq_true rfl) (fun _ => rfl) (fun u H locs hp hG => ?_)
    refine lv_aload_n S.1 S.2.1 dX4_measure_92 rfl (lv_at hl 4 rfl) ?_
    refine g_get S C hG iX40 0 rfl rfl 3 (by decide) (List.mem_of_getElem? (i := 7) rfl) rfl dX4_measure_93 ?_
    refine lv_aload_n S.1 S.2.1 dX4_measure_96 rfl (lv_at hl 4 rfl) ?_
    refine g_get S C hG iX40 0 rfl rfl 6 (by decide) (List.mem_of_getElem? (i := 3) rfl) rfl dX4_measure_97 ?_
    refine lv_iload S.1 S.2.1 dX4_measure_100 (lv_at hl 0 rfl) ?_
    refine lv_iload_n S.1 S.2.1 dX4_measure_102 rfl (lv_at hl 3 rfl) ?_
    refine g_imul S dX4_measure_103 rfl ?_
    refine g_sipush S dX4_measure_104 (by decide) ?_
    refine g_idiv S dX4_measure_107 (by omega) (by omega) rfl ?_
    refine g_top (w := .int (iI (tmN N pp ly))) (congrArg (fun z : Int => Value.int (iI z)) (rfl)) ?_
    refine g_invSNv (As := [.ref tma, .int (iI ly), .int (iI (tmN N pp ly))]) (rest := []) (gs' := (fun u : Unit => [gRayC K ra xa sha lea tma sc pp ly dn lg en sh le tm pw tr mr cr de, gArr K 12 xa XF, gArr K 10 sha (upI HF ly (shN N pp ly)), gArr K 10 lea (upI EF ly (leN N pp ly)), gArr K 10 tma (upI TF ly (tmN N pp ly)), gScC K sc la sa ou mi bo, gTab K la lb ln LF, gTabC K sa sb sn, gArr K 60 sb SF])) S C hG [4] (c_X8_put l K 10 tma TF ly (tmN N pp ly) (by omega) (by omega)) rfl rfl ⟨va_cnB 3 S.2.2.2.2 gX4_measure_X8_put_n44 rfl rfl rfl (C.1.2.1 _ (List.mem_of_getElem? (i := 7) rfl)) (S.2.2.2.2 _ (List.mem_of_getElem? (i := 19) rfl)) (by decide +kernel) ⟨Nat.le_of_ble_eq_true rfl, Nat.le_of_ble_eq_true rfl⟩, (S.2.2.2.2 _ (List.mem_of_getElem? (i := 18) rfl)), trivial⟩ rfl hl.1 rfl (Nat.le_of_ble_eq_true rfl) dX4_measure_108 ⟨Nat.le_of_ble_eq_true rfl, Nat.le_of_ble_eq_true rfl⟩ (fun _ => Nat.le_of_ble_eq_true rfl) (fun _ => rfl) (fun u H locs hp hG => ?_)
    have hG : gW K A s.heap [gRay K ra xa sha lea tma sc pp ly dn lg en sh le tm pw tr mr cr de XF (upI HF ly (shN N pp ly)) (upI EF ly (leN N pp ly)) (upI TF ly (tmN N pp ly)), gScn K sc la lb sa sb ou mi bo ln LF sn SF] _ _ := hG
    exact g_vret S hr hlk hQ dX4_measure_111 (Nat.le_of_ble_eq_true rfl) (Nat.le_of_ble_eq_true rfl) (() : Unit) trivial hG
set_option maxHeartbeats 1000000 in
set_option maxRecDepth 100000 in
theorem c_X4_cross (l : Launch) (K : KC) (ra : Nat) (xa : Nat) (sha : Nat) (lea : Nat) (tma : Nat) (sc : Nat) (pp : Int) (ly : Int) (dn : Int) (lg : Int) (en : Int) (sh : Int) (le : Int) (tm : Int) (pw : Int) (tr : Int) (mr : Int) (cr : Int) (de : Int) (XF : Int → Int) (HF : Int → Int) (EF : Int → Int) (TF : Int → Int) (la : Nat) (lb : Nat) (sa : Nat) (sb : Nat) (ou : Int) (mi : Int) (bo : Int) (ln : Int) (LF : Int → Int) (sn : Int) (SF : Int → Int) (N : Int → Int) (hS : ScOk N ou mi bo ln LF sn SF) (hN : NOk0 N) (hy : 0 ≤ ly ∧ ly < N 0) (hp0 : 0 ≤ pp) (hp1 : pp < nX N ly) (hw : 0 ≤ pw ∧ pw ≤ 1000000) (hs : (0 ≤ lg ∧ lg ≤ 59) ∧ (0 ≤ sh ∧ sh ≤ 29970000) ∧ (0 ≤ le ∧ le ≤ 29970000) ∧ (0 ≤ tm ∧ tm ≤ 119880000) ∧ -1 ≤ de ∧ de ≤ 9) (hc : CachN N pp TF HF EF) : mV l yX4_cross wsX4_cross 2 47 K [.ref ra] [gRay K ra xa sha lea tma sc pp ly dn lg en sh le tm pw tr mr cr de XF HF EF TF, gScn K sc la lb sa sb ou mi bo ln LF sn SF] (fun (u : (Int → Int) × (Int → Int) × (Int → Int)) => (CachN N pp u.2.2 u.1 u.2.1) ∧ (u.2.2 ly = tmN N pp ly ∧ u.1 ly = shN N pp ly ∧ u.2.1 ly = leN N pp ly)) (fun (u : (Int → Int) × (Int → Int) × (Int → Int)) => [gRay K ra xa sha lea tma sc pp ly dn (lg + 1) en (sh + shN N pp ly) (le + leN N pp ly) (tm + tmN N pp ly) (qN N pp ly pw) tr mr cr (max de ly) XF u.1 u.2.1 u.2.2, gScn K sc la lb sa sb ou mi bo ln LF sn SF]) 0 0 := by
  refine mV_of cX4_cross 4 (by decide) rfl (Nat.le_of_ble_eq_true rfl) ?_
  intro p e s m below meth c A ls Q S C hG hl hr hlk hin hQ
  have S : CallFix p m c cX4_cross 4 s ([.ref ra] : List Value).toArray wsX4_cross RX4 := S
  have iX40 : ∀ w ∈ wsX40, w ∈ wsX4_cross := fun _ h => List.mem_cons_of_mem _ (List.mem_append_left _ (List.mem_append_left _ (List.mem_append_right _ (h))))
  have iX50 : ∀ w ∈ wsX50, w ∈ wsX4_cross := fun _ h => List.mem_cons_of_mem _ (List.mem_append_left _ (List.mem_append_right _ (h)))
  have iX70 : ∀ w ∈ wsX70, w ∈ wsX4_cross := fun _ h => List.mem_cons_of_mem _ (List.mem_append_right _ (h))
  have hl : lv_has ls 4 [(0, .ref ra)] := hl
  have hG : gW K A s.heap [gRay K ra xa sha lea tma sc pp ly dn lg en sh le tm pw tr mr cr de XF HF EF TF, gScn K sc la lb sa sb ou mi bo ln LF sn SF] s.heap [] := hG
  obtain ⟨e0, e1, e2, e3, e4, e5, e6⟩ := id hS
  have n0 := hN.1
  obtain ⟨l1, l2, l3⟩ := lay_bd hN hy.1 hy.2
  obtain ⟨g1, g2, g3, g4, g5, g6⟩ := leg_bd hN hy.1 hy.2 hp0 hp1
  obtain ⟨r1, r2, r3⟩ := rN_bd hN hy.1 hy.2 hp0 hp1
  obtain ⟨v1, v2, v3⟩ := vN_bd hN hy.1 hy.2 hp0 hp1
  have v4 : vN N pp ly = nX N ly * nX N ly - pp * pp := rfl
  have p2 : 0 ≤ pp * pp := Int.mul_nonneg hp0 hp0
  have p3 : pp * pp ≤ 4000 * 4000 := sq_mono hp0 (by omega)
  have p4 : nX N ly * nX N ly ≤ 4000 * 4000 := sq_mono (by omega) (by omega)
  have p5 : 0 ≤ nX N ly * nX N ly := Int.mul_nonneg (by omega) (by omega)
  obtain ⟨w1, w2, w3⟩ := lost_bd hN hy.1 hy.2 hp0 hp1 hw.1 hw.2
  refine lv_aload_n S.1 S.2.1 dX4_cross_0 rfl (lv_at hl 0 rfl) ?_
  refine lv_aload_n S.1 S.2.1 dX4_cross_1 rfl (lv_at hl 0 rfl) ?_
  refine g_get S C hG iX40 0 rfl rfl 6 (by decide) (List.mem_of_getElem? (i := 1) rfl) rfl dX4_cross_2 ?_
  refine g_invV (As := [.int (iI ly)]) (rest := []) (gs' := (fun u : Unit => [gRay K ra xa sha lea tma sc pp ly dn lg en sh le tm pw tr mr cr de XF HF EF TF, gScn K sc la lb sa sb ou mi bo ln LF sn SF])) S C hG [0] (c_X4_timeIn l K ra xa sha lea tma sc pp ly dn lg en sh le tm pw tr mr cr de XF HF EF TF ly (by omega)) rfl rfl 0 rfl rfl (cwV 1 S.2.2.2.2 gX4_cross_X4_timeIn rfl rfl rfl (by decide +kernel) ⟨Nat.le_of_ble_eq_true rfl, Nat.le_of_ble_eq_true rfl⟩) rfl hl.1 rfl (Nat.le_of_ble_eq_true rfl) dX4_cross_5 ⟨Nat.le_of_ble_eq_true rfl, Nat.le_of_ble_eq_true rfl⟩ (fun _ => Nat.le_of_ble_eq_true rfl) (fun _ => rfl) (fun v u H locs hp hG => ?_)
  subst hp
  have J15 : ∀ (H1 : Int → Int) (E1 : Int → Int) (T1 : Int → Int) (H : Heap) (locs : List Loc) (ls : Array Slot), (CachN N pp T1 H1 E1) → (T1 ly = tmN N pp ly ∧ H1 ly = shN N pp ly ∧ E1 ly = leN N pp ly) → lv_has ls 4 [(0, .ref ra)] → gW K A s.heap [gRay K ra xa sha lea tma sc pp ly dn lg en sh le tm pw tr mr cr de XF H1 E1 T1, gScn K sc la lb sa sb ou mi bo ln LF sn SF] H locs → W p l e { frames := 2, cells := 0, slots := 0, locals := 47 } s m ([.ref ra] : List Value).toArray below meth c H locs 0 0 Q (F0 m 15 ls []) := by
    intro H1 E1 T1 H locs ls hc1 hl1 hl hG
    refine lv_aload_n S.1 S.2.1 dX4_cross_15 rfl (lv_at hl 0 rfl) ?_
    refine lv_aload_n S.1 S.2.1 dX4_cross_16 rfl (lv_at hl 0 rfl) ?_
    refine g_get S C hG iX40 0 rfl rfl 6 (by decide) (List.mem_of_getElem? (i := 1) rfl) rfl dX4_cross_17 ?_
    refine g_invV (As := [.int (iI ly)]) (rest := []) (gs' := (fun u : Unit => [gRay K ra xa sha lea tma sc pp ly dn lg en sh le tm pw tr mr cr de XF H1 E1 T1, gScn K sc la lb sa sb ou mi bo ln LF sn SF])) S C hG [0] (c_X4_lengthIn l K ra xa sha lea tma sc pp ly dn lg en sh le tm pw tr mr cr de XF H1 E1 T1 ly (by omega)) rfl rfl 0 rfl rfl (cwV 1 S.2.2.2.2 gX4_cross_X4_lengthIn rfl rfl rfl (by decide +kernel) ⟨Nat.le_of_ble_eq_true rfl, Nat.le_of_ble_eq_true rfl⟩) rfl hl.1 rfl (Nat.le_of_ble_eq_true rfl) dX4_cross_20 ⟨Nat.le_of_ble_eq_true rfl, Nat.le_of_ble_eq_true rfl⟩ (fun _ => Nat.le_of_ble_eq_true rfl) (fun _ => rfl) (fun v u H locs hp hG => ?_)
    subst hp
    refine g_top (w := .int (iI (leN N pp ly))) (congrArg (fun z : Int => Value.int (iI z)) (hl1.2.2)) ?_
    refine lv_istore_n (lv' := [(1, .int (iI (leN N pp ly))), (0, .ref ra)]) S.1 S.2.1 dX4_cross_23 rfl hl (by decide) rfl (fun ls hl => ?_)
    refine lv_aload_n S.1 S.2.1 dX4_cross_24 rfl (lv_at hl 1 rfl) ?_
    refine lv_dup S.1 S.2.1 dX4_cross_25 rfl ?_
    refine g_get S C hG iX40 0 rfl rfl 8 (by decide) (List.mem_of_getElem? (i := 2) rfl) rfl dX4_cross_26 ?_
    refine g_iconst S dX4_cross_29 ?_
    refine g_iadd S dX4_cross_30 rfl ?_
    refine g_put (gs' := [gRay K ra xa sha lea tma sc pp ly dn (lg + 1) en sh le tm pw tr mr cr de XF H1 E1 T1, gScn K sc la lb sa sb ou mi bo ln LF sn SF]) S C hG iX40 tyX4 tyX4_ok nmX4 0 rfl rfl 8 (by decide) (List.mem_of_getElem? (i := 2) rfl) rfl rfl rfl (Nat.le_of_ble_eq_true rfl) rfl dX4_cross_31 (fun H locs hG => ?_)
    refine lv_aload_n S.1 S.2.1 dX4_cross_34 rfl (lv_at hl 1 rfl) ?_
    refine lv_dup S.1 S.2.1 dX4_cross_35 rfl ?_
    refine g_get S C hG iX40 0 rfl rfl 10 (by decide) (List.mem_of_getElem? (i := 3) rfl) rfl dX4_cross_36 ?_
    refine lv_aload_n S.1 S.2.1 dX4_cross_39 rfl (lv_at hl 1 rfl) ?_
    refine lv_aload_n S.1 S.2.1 dX4_cross_40 rfl (lv_at hl 1 rfl) ?_
    refine g_get S C hG iX40 0 rfl rfl 6 (by decide) (List.mem_of_getElem? (i := 1) rfl) rfl dX4_cross_41 ?_
    refine g_invV (As := [.int (iI ly)]) (rest := [.int (iI sh), .ref ra]) (gs' := (fun u : Unit => [gRay K ra xa sha lea tma sc pp ly dn (lg + 1) en sh le tm pw tr mr cr de XF H1 E1 T1, gScn K sc la lb sa sb ou mi bo ln LF sn SF])) S C hG [0] (c_X4_shiftIn l K ra xa sha lea tma sc pp ly dn (lg + 1) en sh le tm pw tr mr cr de XF H1 E1 T1 ly (by omega)) rfl rfl 0 rfl rfl (cwV 1 S.2.2.2.2 gX4_cross_X4_shiftIn rfl rfl rfl (by decide +kernel) ⟨Nat.le_of_ble_eq_true rfl, Nat.le_of_ble_eq_true rfl⟩) rfl hl.1 rfl (Nat.le_of_ble_eq_true rfl) dX4_cross_44 ⟨Nat.le_of_ble_eq_true rfl, Nat.le_of_ble_eq_true rfl⟩ (fun _ => Nat.le_of_ble_eq_true rfl) (fun _ => rfl) (fun v u H locs hp hG => ?_)
    subst hp
    refine g_top (w := .int (iI (shN N pp ly))) (congrArg (fun z : Int => Value.int (iI z)) (hl1.2.1)) ?_
    refine g_iadd S dX4_cross_47 rfl ?_
    refine g_put (gs' := [gRay K ra xa sha lea tma sc pp ly dn (lg + 1) en (sh + (shN N pp ly)) le tm pw tr mr cr de XF H1 E1 T1, gScn K sc la lb sa sb ou mi bo ln LF sn SF]) S C hG iX40 tyX4 tyX4_ok nmX4 0 rfl rfl 10 (by decide) (List.mem_of_getElem? (i := 3) rfl) rfl rfl rfl (Nat.le_of_ble_eq_true rfl) rfl dX4_cross_48 (fun H locs hG => ?_)
    refine lv_aload_n S.1 S.2.1 dX4_cross_51 rfl (lv_at hl 1 rfl) ?_
    refine lv_dup S.1 S.2.1 dX4_cross_52 rfl ?_
    refine g_get S C hG iX40 0 rfl rfl 11 (by decide) (List.mem_of_getElem? (i := 4) rfl) rfl dX4_cross_53 ?_
    refine lv_iload_n S.1 S.2.1 dX4_cross_56 rfl (lv_at hl 0 rfl) ?_
    refine g_iadd S dX4_cross_57 rfl ?_
    refine g_put (gs' := [gRay K ra xa sha lea tma sc pp ly dn (lg + 1) en (sh + (shN N pp ly)) (le + (leN N pp ly)) tm pw tr mr cr de XF H1 E1 T1, gScn K sc la lb sa sb ou mi bo ln LF sn SF]) S C hG iX40 tyX4 tyX4_ok nmX4 0 rfl rfl 11 (by decide) (List.mem_of_getElem? (i := 4) rfl) rfl rfl rfl (Nat.le_of_ble_eq_true rfl) rfl dX4_cross_58 (fun H locs hG => ?_)
    refine lv_aload_n S.1 S.2.1 dX4_cross_61 rfl (lv_at hl 1 rfl) ?_
    refine lv_dup S.1 S.2.1 dX4_cross_62 rfl ?_
    refine g_get S C hG iX40 0 rfl rfl 12 (by decide) (List.mem_of_getElem? (i := 5) rfl) rfl dX4_cross_63 ?_
    refine lv_aload_n S.1 S.2.1 dX4_cross_66 rfl (lv_at hl 1 rfl) ?_
    refine lv_aload_n S.1 S.2.1 dX4_cross_67 rfl (lv_at hl 1 rfl) ?_
    refine g_get S C hG iX40 0 rfl rfl 6 (by decide) (List.mem_of_getElem? (i := 1) rfl) rfl dX4_cross_68 ?_
    refine g_invV (As := [.int (iI ly)]) (rest := [.int (iI tm), .ref ra]) (gs' := (fun u : Unit => [gRay K ra xa sha lea tma sc pp ly dn (lg + 1) en (sh + (shN N pp ly)) (le + (leN N pp ly)) tm pw tr mr cr de XF H1 E1 T1, gScn K sc la lb sa sb ou mi bo ln LF sn SF])) S C hG [0] (c_X4_timeIn l K ra xa sha lea tma sc pp ly dn (lg + 1) en (sh + (shN N pp ly)) (le + (leN N pp ly)) tm pw tr mr cr de XF H1 E1 T1 ly (by omega)) rfl rfl 0 rfl rfl (cwV 1 S.2.2.2.2 gX4_cross_X4_timeIn rfl rfl rfl (by decide +kernel) ⟨Nat.le_of_ble_eq_true rfl, Nat.le_of_ble_eq_true rfl⟩) rfl hl.1 rfl (Nat.le_of_ble_eq_true rfl) dX4_cross_71 ⟨Nat.le_of_ble_eq_true rfl, Nat.le_of_ble_eq_true rfl⟩ (fun _ => Nat.le_of_ble_eq_true rfl) (fun _ => rfl) (fun v u H locs hp hG => ?_)
    subst hp
    refine g_top (w := .int (iI (tmN N pp ly))) (congrArg (fun z : Int => Value.int (iI z)) (hl1.1)) ?_
    refine g_iadd S dX4_cross_74 rfl ?_
    refine g_put (gs' := [gRay K ra xa sha lea tma sc pp ly dn (lg + 1) en (sh + (shN N pp ly)) (le + (leN N pp ly)) (tm + (tmN N pp ly)) pw tr mr cr de XF H1 E1 T1, gScn K sc la lb sa sb ou mi bo ln LF sn SF]) S C hG iX40 tyX4 tyX4_ok nmX4 0 rfl rfl 12 (by decide) (List.mem_of_getElem? (i := 5) rfl) rfl rfl rfl (Nat.le_of_ble_eq_true rfl) rfl dX4_cross_75 (fun H locs hG => ?_)
    refine lv_aload_n S.1 S.2.1 dX4_cross_78 rfl (lv_at hl 1 rfl) ?_
    refine lv_aload_n S.1 S.2.1 dX4_cross_79 rfl (lv_at hl 1 rfl) ?_
    refine g_get S C hG iX40 0 rfl rfl 17 (by decide) (List.mem_of_getElem? (i := 6) rfl) rfl dX4_cross_80 ?_
    refine lv_aload_n S.1 S.2.1 dX4_cross_83 rfl (lv_at hl 1 rfl) ?_
    refine g_get S C hG iX40 0 rfl rfl 6 (by decide) (List.mem_of_getElem? (i := 1) rfl) rfl dX4_cross_84 ?_
    refine va_mmax S.1 S.2.1 (by rw [S.2.2.1]; exact hl.1.symm) S.2.2.2.1 (S.2.2.2.2 _ (List.mem_of_getElem? (i := 7) rfl)) (S.2.2.2.2 _ (List.mem_of_getElem? (i := 8) rfl)) (S.2.2.2.2 _ (List.mem_of_getElem? (i := 9) rfl)) (S.2.2.2.2 _ (List.mem_of_getElem? (i := 10) rfl)) (Nat.le_of_ble_eq_true rfl) (Nat.le_of_ble_eq_true rfl) (Nat.le_of_ble_eq_true rfl) (Nat.le_of_ble_eq_true rfl) dX4_cross_87 ?_
    refine g_top (w := .int (iI (max de ly))) (imax_eq (by omega) (by omega)) ?_
    refine g_put (gs' := [gRay K ra xa sha lea tma sc pp ly dn (lg + 1) en (sh + (shN N pp ly)) (le + (leN N pp ly)) (tm + (tmN N pp ly)) pw tr mr cr (max de ly) XF H1 E1 T1, gScn K sc la lb sa sb ou mi bo ln LF sn SF]) S C hG iX40 tyX4 tyX4_ok nmX4 0 rfl rfl 17 (by decide) (List.mem_of_getElem? (i := 6) rfl) rfl rfl rfl (Nat.le_of_ble_eq_true rfl) rfl dX4_cross_90 (fun H locs hG => ?_)
    refine lv_aload_n S.1 S.2.1 dX4_cross_93 rfl (lv_at hl 1 rfl) ?_
    refine g_get S C hG iX40 0 rfl rfl 13 (by decide) (List.mem_of_getElem? (i := 11) rfl) rfl dX4_cross_94 ?_
    refine g_i2l S dX4_cross_97 (by omega) ?_
    refine lv_aload_n S.1 S.2.1 dX4_cross_98 rfl (lv_at hl 1 rfl) ?_
    refine g_get S C hG iX40 0 rfl rfl 4 (by decide) (List.mem_of_getElem? (i := 12) rfl) rfl dX4_cross_99 ?_
    refine g_get S C hG iX50 5 rfl rfl 0 (by decide) (List.mem_of_getElem? (i := 13) rfl) rfl dX4_cross_102 ?_
    refine lv_aload_n S.1 S.2.1 dX4_cross_105 rfl (lv_at hl 1 rfl) ?_
    refine g_get S C hG iX40 0 rfl rfl 6 (by decide) (List.mem_of_getElem? (i := 1) rfl) rfl dX4_cross_106 ?_
    refine g_iconst S dX4_cross_109 ?_
    have hG : gW K A s.heap [gRay K ra xa sha lea tma sc pp ly dn (lg + 1) en (sh + (shN N pp ly)) (le + (leN N pp ly)) (tm + (tmN N pp ly)) pw tr mr cr (max de ly) XF H1 E1 T1, gScC K sc la sa ou mi bo, gTab K la lb ln LF, gTabC K sa sb sn, gArr K 60 sb SF] _ _ := hG
    refine g_invV (As := [.int (iI ly), .int (iI 2)]) (rest := [.long (iL pw)]) (gs' := (fun u : Unit => [gRay K ra xa sha lea tma sc pp ly dn (lg + 1) en (sh + (shN N pp ly)) (le + (leN N pp ly)) (tm + (tmN N pp ly)) pw tr mr cr (max de ly) XF H1 E1 T1, gScC K sc la sa ou mi bo, gTab K la lb ln LF, gTabC K sa sb sn, gArr K 60 sb SF])) S C hG [2] (c_X7_get l K la lb ln LF ly 2 (by omega) (by omega)) rfl rfl 0 rfl rfl (cwV 2 S.2.2.2.2 gX4_cross_X7_get rfl rfl rfl (by decide +kernel) ⟨Nat.le_of_ble_eq_true rfl, Nat.le_of_ble_eq_true rfl⟩) rfl hl.1 rfl (Nat.le_of_ble_eq_true rfl) dX4_cross_110 ⟨Nat.le_of_ble_eq_true rfl, Nat.le_of_ble_eq_true rfl⟩ (fun _ => Nat.le_of_ble_eq_true rfl) (fun _ => rfl) (fun v u H locs hp hG => ?_)
    subst hp
    refine g_top (w := .int (iI (lX N ly))) (congrArg (fun z : Int => Value.int (iI z)) (e5 ly 2 (by omega) (by omega) (by omega) (by omega))) ?_
    refine g_i2l S dX4_cross_113 (by omega) ?_
    refine g_lmul S dX4_cross_114 rfl ?_
    refine lv_iload_n S.1 S.2.1 dX4_cross_115 rfl (lv_at hl 0 rfl) ?_
    refine g_i2l S dX4_cross_116 (by omega) ?_
    refine g_lmul S dX4_cross_117 rfl ?_
    refine g_ldc2 (z := 1000000) S dX4_cross_118 (List.mem_of_getElem? (i := 14) rfl) rfl ?_
    refine g_ldiv S dX4_cross_121 (by omega) (by omega) rfl ?_
    refine lv_lstore_n (lv' := [(2, .long (iL (((pw * (lX N ly)) * (leN N pp ly)) / 1000000))), (1, .int (iI (leN N pp ly))), (0, .ref ra)]) S.1 S.2.1 dX4_cross_122 rfl hl (by decide) rfl (fun ls hl => ?_)
    refine lv_aload_n S.1 S.2.1 dX4_cross_123 rfl (lv_at hl 2 rfl) ?_
    refine g_lconst (z := 0) S dX4_cross_124 rfl ?_
    refine lv_aload_n S.1 S.2.1 dX4_cross_125 rfl (lv_at hl 2 rfl) ?_
    refine g_get S C hG iX40 0 rfl rfl 13 (by decide) (List.mem_of_getElem? (i := 11) rfl) rfl dX4_cross_126 ?_
    refine g_i2l S dX4_cross_129 (by omega) ?_
    refine lv_lload_n S.1 S.2.1 dX4_cross_130 rfl (lv_at hl 0 rfl) ?_
    refine g_lsub S dX4_cross_131 rfl ?_
    refine va_mmax_long S.1 S.2.1 (by rw [S.2.2.1]; exact hl.1.symm) S.2.2.2.1 (S.2.2.2.2 _ (List.mem_of_getElem? (i := 15) rfl)) (S.2.2.2.2 _ (List.mem_of_getElem? (i := 16) rfl)) (S.2.2.2.2 _ (List.mem_of_getElem? (i := 9) rfl)) (S.2.2.2.2 _ (List.mem_of_getElem? (i := 17) rfl)) (Nat.le_of_ble_eq_true rfl) (Nat.le_of_ble_eq_true rfl) (Nat.le_of_ble_eq_true rfl) (Nat.le_of_ble_eq_true rfl) dX4_cross_132 ?_
    refine g_top (w := .long (iL (max 0 (pw - (((pw * (lX N ly)) * (leN N pp ly)) / 1000000))))) (lmax_eq (by omega) (by omega)) ?_
    refine g_top (w := .long (iL (qN N pp ly pw))) (congrArg (fun z : Int => Value.long (iL z)) (rfl)) ?_
    refine g_l2i S dX4_cross_135 ?_
    refine g_put (gs' := [gRay K ra xa sha lea tma sc pp ly dn (lg + 1) en (sh + (shN N pp ly)) (le + (leN N pp ly)) (tm + (tmN N pp ly)) (qN N pp ly pw) tr mr cr (max de ly) XF H1 E1 T1, gScC K sc la sa ou mi bo, gTab K la lb ln LF, gTabC K sa sb sn, gArr K 60 sb SF]) S C hG iX40 tyX4 tyX4_ok nmX4 0 rfl rfl 13 (by decide) (List.mem_of_getElem? (i := 11) rfl) rfl rfl rfl (Nat.le_of_ble_eq_true rfl) rfl dX4_cross_136 (fun H locs hG => ?_)
    have hG : gW K A s.heap [gRay K ra xa sha lea tma sc pp ly dn (lg + 1) en (sh + shN N pp ly) (le + leN N pp ly) (tm + tmN N pp ly) (qN N pp ly pw) tr mr cr (max de ly) XF H1 E1 T1, gScn K sc la lb sa sb ou mi bo ln LF sn SF] _ _ := hG
    exact g_vret S hr hlk hQ dX4_cross_139 (Nat.le_of_ble_eq_true rfl) (Nat.le_of_ble_eq_true rfl) ((H1, E1, T1) : (Int → Int) × (Int → Int) × (Int → Int)) ⟨hc1, hl1⟩ hG
  refine g_if_ne (tgt := 15) S dX4_cross_8 (by decide) (by have := hc ly hy.1 hy.2; omega) (fun q8 => ?_) (fun q8 => ?_)
  · skip
    exact J15 HF EF TF _ _ _ hc ((hc ly hy.1 hy.2).resolve_left q8) (lv_sub hl [0] rfl) hG
  · skip
    refine lv_aload_n S.1 S.2.1 dX4_cross_11 rfl (lv_at hl 0 rfl) ?_
    refine g_invVv (As := []) (rest := []) (gs' := (fun u : Unit => [gRay K ra xa sha lea tma sc pp ly dn lg en sh le tm pw tr mr cr de XF (upI HF ly (shN N pp ly)) (upI EF ly (leN N pp ly)) (upI TF ly (tmN N pp ly)), gScn K sc la lb sa sb ou mi bo ln LF sn SF])) S C hG [0, 1] (c_X4_measure l K ra xa sha lea tma sc pp ly dn lg en sh le tm pw tr mr cr de XF HF EF TF la lb sa sb ou mi bo ln LF sn SF N hS hN hy hp0 hp1) rfl rfl 0 rfl rfl (cwV 0 S.2.2.2.2 gX4_cross_X4_measure rfl rfl rfl (by decide +kernel) ⟨Nat.le_of_ble_eq_true rfl, Nat.le_of_ble_eq_true rfl⟩) rfl hl.1 rfl (Nat.le_of_ble_eq_true rfl) dX4_cross_12 ⟨Nat.le_of_ble_eq_true rfl, Nat.le_of_ble_eq_true rfl⟩ (fun _ => Nat.le_of_ble_eq_true rfl) (fun _ => rfl) (fun u H locs hp hG => ?_)
    exact J15 (upI HF ly (shN N pp ly)) (upI EF ly (leN N pp ly)) (upI TF ly (tmN N pp ly)) _ _ _ (hc.upd ly) ⟨upI_s _ _ _, upI_s _ _ _, upI_s _ _ _⟩ (lv_sub hl [0] rfl) hG
set_option maxHeartbeats 1000000 in
set_option maxRecDepth 100000 in
theorem c_X4_passInto (l : Launch) (K : KC) (ra : Nat) (xa : Nat) (sha : Nat) (lea : Nat) (tma : Nat) (sc : Nat) (pp : Int) (ly : Int) (dn : Int) (lg : Int) (en : Int) (sh : Int) (le : Int) (tm : Int) (pw : Int) (tr : Int) (mr : Int) (cr : Int) (de : Int) (XF : Int → Int) (HF : Int → Int) (EF : Int → Int) (TF : Int → Int) (N : Int → Int) (z : Int) (hN : NOk0 N) (hE : EntOk N XF) (hy : 0 ≤ ly ∧ ly < N 0) (hz : 0 ≤ z ∧ z < N 0) (hw : 0 ≤ pw ∧ pw ≤ 1000000) (hcr : 0 ≤ cr ∧ cr ≤ 60) : mG l yX4_passInto wsX4_passInto 1 21 K [.ref ra, .int (iI z)] [gRay K ra xa sha lea tma sc pp ly dn lg en sh le tm pw tr mr cr de XF HF EF TF] (fun (v : Value) (u : Unit) => (v = .int (iI 0))) (fun (u : Unit) => [gRay K ra xa sha lea tma sc pp z dn lg en sh le tm (ppN N ly z pw) tr mr (cr + 1) de XF HF EF TF]) 0 0 := by
  refine mG_of cX4_passInto 6 (by decide) rfl (Nat.le_of_ble_eq_true rfl) ?_
  intro p e s m below meth c A ls Q S C hG hl hr hlk hin hQ
  have S : CallFix p m c cX4_passInto 6 s ([.ref ra, .int (iI z)] : List Value).toArray wsX4_passInto RX4 := S
  have iX40 : ∀ w ∈ wsX40, w ∈ wsX4_passInto := fun _ h => List.mem_cons_of_mem _ (List.mem_append_right _ (h))
  have hl : lv_has ls 6 [(0, .ref ra), (1, .int (iI z))] := hl
  have hG : gW K A s.heap [gRay K ra xa sha lea tma sc pp ly dn lg en sh le tm pw tr mr cr de XF HF EF TF] s.heap [] := hG
  have n0 := hN.1
  obtain ⟨l1, l2, l3⟩ := lay_bd hN hy.1 hy.2
  obtain ⟨m1, m2, m3⟩ := lay_bd hN hz.1 hz.2
  obtain ⟨d1, d2, d3, d4, d5, d6⟩ := pp_bd hN hy.1 hy.2 hz.1 hz.2 hw.1 hw.2
  have xz : XF (z + 1) = nX N z := by rw [hE z (by omega) (by omega), ixN, if_neg (by omega), if_neg (by omega)]; rfl
  have xy : XF (ly + 1) = nX N ly := by rw [hE ly (by omega) (by omega), ixN, if_neg (by omega), if_neg (by omega)]; rfl
  refine lv_aload_n S.1 S.2.1 dX4_passInto_0 rfl (lv_at hl 0 rfl) ?_
  refine g_get S C hG iX40 0 rfl rfl 0 (by decide) (List.mem_of_getElem? (i := 1) rfl) rfl dX4_passInto_1 ?_
  refine lv_iload_n S.1 S.2.1 dX4_passInto_4 rfl (lv_at hl 1 rfl) ?_
  refine g_iconst S dX4_passInto_5 ?_
  refine g_iadd S dX4_passInto_6 rfl ?_
  have hG : gW K A s.heap [gRayC K ra xa sha lea tma sc pp ly dn lg en sh le tm pw tr mr cr de, gArr K 12 xa XF, gArr K 10 sha HF, gArr K 10 lea EF, gArr K 10 tma TF] _ _ := hG
  refine g_invSN (As := [.ref xa, .int (iI (z + 1))]) (rest := []) (gs' := (fun u : Unit => [gRayC K ra xa sha lea tma sc pp ly dn lg en sh le tm pw tr mr cr de, gArr K 12 xa XF, gArr K 10 sha HF, gArr K 10 lea EF, gArr K 10 tma TF])) S C hG [1] (c_X8_at l K 12 xa XF (z + 1) (by omega) (by omega)) rfl rfl ⟨va_cnB 2 S.2.2.2.2 gX4_passInto_X8_at_n114 rfl rfl rfl (C.1.2.1 _ (List.mem_of_getElem? (i := 8) rfl)) (S.2.2.2.2 _ (List.mem_of_getElem? (i := 6) rfl)) (by decide +kernel) ⟨Nat.le_of_ble_eq_true rfl, Nat.le_of_ble_eq_true rfl⟩, (S.2.2.2.2 _ (List.mem_of_getElem? (i := 5) rfl)), trivial⟩ rfl hl.1 rfl (Nat.le_of_ble_eq_true rfl) dX4_passInto_7 ⟨Nat.le_of_ble_eq_true rfl, Nat.le_of_ble_eq_true rfl⟩ (fun _ => Nat.le_of_ble_eq_true rfl) (fun _ => rfl) (fun v u H locs hp hG => ?_)
  subst hp
  refine g_top (w := .int (iI (nX N z))) (congrArg (fun z : Int => Value.int (iI z)) (xz)) ?_
  refine lv_aload_n S.1 S.2.1 dX4_passInto_10 rfl (lv_at hl 0 rfl) ?_
  refine g_get S C hG iX40 0 rfl rfl 0 (by decide) (List.mem_of_getElem? (i := 1) rfl) rfl dX4_passInto_11 ?_
  refine lv_aload_n S.1 S.2.1 dX4_passInto_14 rfl (lv_at hl 0 rfl) ?_
  refine g_get S C hG iX40 0 rfl rfl 6 (by decide) (List.mem_of_getElem? (i := 2) rfl) rfl dX4_passInto_15 ?_
  refine g_iconst S dX4_passInto_18 ?_
  refine g_iadd S dX4_passInto_19 rfl ?_
  refine g_invSN (As := [.ref xa, .int (iI (ly + 1))]) (rest := [.int (iI (nX N z))]) (gs' := (fun u : Unit => [gRayC K ra xa sha lea tma sc pp ly dn lg en sh le tm pw tr mr cr de, gArr K 12 xa XF, gArr K 10 sha HF, gArr K 10 lea EF, gArr K 10 tma TF])) S C hG [1] (c_X8_at l K 12 xa XF (ly + 1) (by omega) (by omega)) rfl rfl ⟨va_cnB 2 S.2.2.2.2 gX4_passInto_X8_at_n114 rfl rfl rfl (C.1.2.1 _ (List.mem_of_getElem? (i := 8) rfl)) (S.2.2.2.2 _ (List.mem_of_getElem? (i := 6) rfl)) (by decide +kernel) ⟨Nat.le_of_ble_eq_true rfl, Nat.le_of_ble_eq_true rfl⟩, (S.2.2.2.2 _ (List.mem_of_getElem? (i := 5) rfl)), trivial⟩ rfl hl.1 rfl (Nat.le_of_ble_eq_true rfl) dX4_passInto_20 ⟨Nat.le_of_ble_eq_true rfl, Nat.le_of_ble_eq_true rfl⟩ (fun _ => Nat.le_of_ble_eq_true rfl) (fun _ => rfl) (fun v u H locs hp hG => ?_)
  subst hp
  refine g_top (w := .int (iI (nX N ly))) (congrArg (fun z : Int => Value.int (iI z)) (xy)) ?_
  refine g_isub S dX4_passInto_23 rfl ?_
  refine g_i2l S dX4_passInto_24 (by omega) ?_
  refine lv_lstore_n (lv' := [(2, .long (iL ((nX N z) - (nX N ly)))), (0, .ref ra), (1, .int (iI z))]) S.1 S.2.1 dX4_passInto_25 rfl hl (by decide) rfl (fun ls hl => ?_)
  refine lv_aload_n S.1 S.2.1 dX4_passInto_26 rfl (lv_at hl 1 rfl) ?_
  refine g_get S C hG iX40 0 rfl rfl 0 (by decide) (List.mem_of_getElem? (i := 1) rfl) rfl dX4_passInto_27 ?_
  refine lv_iload_n S.1 S.2.1 dX4_passInto_30 rfl (lv_at hl 2 rfl) ?_
  refine g_iconst S dX4_passInto_31 ?_
  refine g_iadd S dX4_passInto_32 rfl ?_
  refine g_invSN (As := [.ref xa, .int (iI (z + 1))]) (rest := []) (gs' := (fun u : Unit => [gRayC K ra xa sha lea tma sc pp ly dn lg en sh le tm pw tr mr cr de, gArr K 12 xa XF, gArr K 10 sha HF, gArr K 10 lea EF, gArr K 10 tma TF])) S C hG [1] (c_X8_at l K 12 xa XF (z + 1) (by omega) (by omega)) rfl rfl ⟨va_cnB 2 S.2.2.2.2 gX4_passInto_X8_at_n114 rfl rfl rfl (C.1.2.1 _ (List.mem_of_getElem? (i := 8) rfl)) (S.2.2.2.2 _ (List.mem_of_getElem? (i := 6) rfl)) (by decide +kernel) ⟨Nat.le_of_ble_eq_true rfl, Nat.le_of_ble_eq_true rfl⟩, (S.2.2.2.2 _ (List.mem_of_getElem? (i := 5) rfl)), trivial⟩ rfl hl.1 rfl (Nat.le_of_ble_eq_true rfl) dX4_passInto_33 ⟨Nat.le_of_ble_eq_true rfl, Nat.le_of_ble_eq_true rfl⟩ (fun _ => Nat.le_of_ble_eq_true rfl) (fun _ => rfl) (fun v u H locs hp hG => ?_)
  subst hp
  refine g_top (w := .int (iI (nX N z))) (congrArg (fun z : Int => Value.int (iI z)) (xz)) ?_
  refine lv_aload_n S.1 S.2.1 dX4_passInto_36 rfl (lv_at hl 1 rfl) ?_
  refine g_get S C hG iX40 0 rfl rfl 0 (by decide) (List.mem_of_getElem? (i := 1) rfl) rfl dX4_passInto_37 ?_
  refine lv_aload_n S.1 S.2.1 dX4_passInto_40 rfl (lv_at hl 1 rfl) ?_
  refine g_get S C hG iX40 0 rfl rfl 6 (by decide) (List.mem_of_getElem? (i := 2) rfl) rfl dX4_passInto_41 ?_
  refine g_iconst S dX4_passInto_44 ?_
  refine g_iadd S dX4_passInto_45 rfl ?_
  refine g_invSN (As := [.ref xa, .int (iI (ly + 1))]) (rest := [.int (iI (nX N z))]) (gs' := (fun u : Unit => [gRayC K ra xa sha lea tma sc pp ly dn lg en sh le tm pw tr mr cr de, gArr K 12 xa XF, gArr K 10 sha HF, gArr K 10 lea EF, gArr K 10 tma TF])) S C hG [1] (c_X8_at l K 12 xa XF (ly + 1) (by omega) (by omega)) rfl rfl ⟨va_cnB 2 S.2.2.2.2 gX4_passInto_X8_at_n114 rfl rfl rfl (C.1.2.1 _ (List.mem_of_getElem? (i := 8) rfl)) (S.2.2.2.2 _ (List.mem_of_getElem? (i := 6) rfl)) (by decide +kernel) ⟨Nat.le_of_ble_eq_true rfl, Nat.le_of_ble_eq_true rfl⟩, (S.2.2.2.2 _ (List.mem_of_getElem? (i := 5) rfl)), trivial⟩ rfl hl.1 rfl (Nat.le_of_ble_eq_true rfl) dX4_passInto_46 ⟨Nat.le_of_ble_eq_true rfl, Nat.le_of_ble_eq_true rfl⟩ (fun _ => Nat.le_of_ble_eq_true rfl) (fun _ => rfl) (fun v u H locs hp hG => ?_)
  subst hp
  refine g_top (w := .int (iI (nX N ly))) (congrArg (fun z : Int => Value.int (iI z)) (xy)) ?_
  refine g_iadd S dX4_passInto_49 rfl ?_
  refine g_i2l S dX4_passInto_50 (by omega) ?_
  refine lv_lstore (lv' := [(4, .long (iL ((nX N z) + (nX N ly)))), (2, .long (iL ((nX N z) - (nX N ly)))), (0, .ref ra), (1, .int (iI z))]) S.1 S.2.1 dX4_passInto_51 hl (by decide) rfl (fun ls hl => ?_)
  refine lv_lload S.1 S.2.1 dX4_passInto_53 (lv_at hl 0 rfl) ?_
  refine g_lconst (z := 0) S dX4_passInto_55 rfl ?_
  refine g_lcmp S dX4_passInto_56 (by omega) (by omega) ?_
  refine g_if_le (tgt := 85) S dX4_passInto_57 (by decide) (by omega) (fun q57 => ?_) (fun q57 => ?_)
  · skip
    (rw [if_pos (by omega)] at q57; omega)
  · skip
    refine lv_aload_n S.1 S.2.1 dX4_passInto_60 rfl (lv_at hl 2 rfl) ?_
    refine lv_dup S.1 S.2.1 dX4_passInto_61 rfl ?_
    refine g_get S C hG iX40 0 rfl rfl 13 (by decide) (List.mem_of_getElem? (i := 3) rfl) rfl dX4_passInto_62 ?_
    refine lv_aload_n S.1 S.2.1 dX4_passInto_65 rfl (lv_at hl 2 rfl) ?_
    refine g_get S C hG iX40 0 rfl rfl 13 (by decide) (List.mem_of_getElem? (i := 3) rfl) rfl dX4_passInto_66 ?_
    refine g_i2l S dX4_passInto_69 (by omega) ?_
    refine lv_lload_n S.1 S.2.1 dX4_passInto_70 rfl (lv_at hl 1 rfl) ?_
    refine lv_lload_n S.1 S.2.1 dX4_passInto_71 rfl (lv_at hl 1 rfl) ?_
    refine g_lmul S dX4_passInto_72 rfl ?_
    refine g_lmul S dX4_passInto_73 rfl ?_
    refine lv_lload S.1 S.2.1 dX4_passInto_74 (lv_at hl 0 rfl) ?_
    refine lv_lload S.1 S.2.1 dX4_passInto_76 (lv_at hl 0 rfl) ?_
    refine g_lmul S dX4_passInto_78 rfl ?_
    refine g_ldiv S dX4_passInto_79 (by omega) (by omega) rfl ?_
    refine g_l2i S dX4_passInto_80 ?_
    refine g_isub S dX4_passInto_81 rfl ?_
    refine g_top (w := .int (iI (ppN N ly z pw))) (congrArg (fun z : Int => Value.int (iI z)) (rfl)) ?_
    refine g_put (gs' := [gRayC K ra xa sha lea tma sc pp ly dn lg en sh le tm (ppN N ly z pw) tr mr cr de, gArr K 12 xa XF, gArr K 10 sha HF, gArr K 10 lea EF, gArr K 10 tma TF]) S C hG iX40 tyX4 tyX4_ok nmX4 0 rfl rfl 13 (by decide) (List.mem_of_getElem? (i := 3) rfl) rfl rfl rfl (Nat.le_of_ble_eq_true rfl) rfl dX4_passInto_82 (fun H locs hG => ?_)
    refine lv_aload_n S.1 S.2.1 dX4_passInto_85 rfl (lv_at hl 2 rfl) ?_
    refine lv_iload_n S.1 S.2.1 dX4_passInto_86 rfl (lv_at hl 3 rfl) ?_
    refine g_put (gs' := [gRayC K ra xa sha lea tma sc pp z dn lg en sh le tm (ppN N ly z pw) tr mr cr de, gArr K 12 xa XF, gArr K 10 sha HF, gArr K 10 lea EF, gArr K 10 tma TF]) S C hG iX40 tyX4 tyX4_ok nmX4 0 rfl rfl 6 (by decide) (List.mem_of_getElem? (i := 2) rfl) rfl rfl rfl (Nat.le_of_ble_eq_true rfl) rfl dX4_passInto_87 (fun H locs hG => ?_)
    refine lv_aload_n S.1 S.2.1 dX4_passInto_90 rfl (lv_at hl 2 rfl) ?_
    refine lv_dup S.1 S.2.1 dX4_passInto_91 rfl ?_
    refine g_get S C hG iX40 0 rfl rfl 16 (by decide) (List.mem_of_getElem? (i := 4) rfl) rfl dX4_passInto_92 ?_
    refine g_iconst S dX4_passInto_95 ?_
    refine g_iadd S dX4_passInto_96 rfl ?_
    refine g_put (gs' := [gRayC K ra xa sha lea tma sc pp z dn lg en sh le tm (ppN N ly z pw) tr mr (cr + 1) de, gArr K 12 xa XF, gArr K 10 sha HF, gArr K 10 lea EF, gArr K 10 tma TF]) S C hG iX40 tyX4 tyX4_ok nmX4 0 rfl rfl 16 (by decide) (List.mem_of_getElem? (i := 4) rfl) rfl rfl rfl (Nat.le_of_ble_eq_true rfl) rfl dX4_passInto_97 (fun H locs hG => ?_)
    refine g_iconst S dX4_passInto_100 ?_
    have hG : gW K A s.heap [gRay K ra xa sha lea tma sc pp z dn lg en sh le tm (ppN N ly z pw) tr mr (cr + 1) de XF HF EF TF] _ _ := hG
    exact g_iret S hr hlk hQ dX4_passInto_101 (Nat.le_of_ble_eq_true rfl) (Nat.le_of_ble_eq_true rfl) (() : Unit) rfl hG
set_option maxHeartbeats 1000000 in
set_option maxRecDepth 100000 in
theorem c_X4_turnBack (l : Launch) (K : KC) (ra : Nat) (xa : Nat) (sha : Nat) (lea : Nat) (tma : Nat) (sc : Nat) (pp : Int) (ly : Int) (dn : Int) (lg : Int) (en : Int) (sh : Int) (le : Int) (tm : Int) (pw : Int) (tr : Int) (mr : Int) (cr : Int) (de : Int) (XF : Int → Int) (HF : Int → Int) (EF : Int → Int) (TF : Int → Int) (h0 : dn = 0 ∨ dn = 1) (h1 : 0 ≤ tr ∧ tr ≤ 60) : mG l yX4_turnBack wsX4_turnBack 0 0 K [.ref ra] [gRay K ra xa sha lea tma sc pp ly dn lg en sh le tm pw tr mr cr de XF HF EF TF] (fun (v : Value) (u : Unit) => (v = .int (iI 1))) (fun (u : Unit) => [gRay K ra xa sha lea tma sc pp ly (1 - dn) lg en sh le tm pw (tr + 1) mr cr de XF HF EF TF]) 0 0 := by
  refine mG_of cX4_turnBack 1 (by decide) rfl (Nat.le_of_ble_eq_true rfl) ?_
  intro p e s m below meth c A ls Q S C hG hl hr hlk hin hQ
  have S : CallFix p m c cX4_turnBack 1 s ([.ref ra] : List Value).toArray wsX4_turnBack RX4 := S
  have iX40 : ∀ w ∈ wsX40, w ∈ wsX4_turnBack := fun _ h => List.mem_cons_of_mem _ (List.mem_append_right _ (h))
  have hl : lv_has ls 1 [(0, .ref ra)] := hl
  have hG : gW K A s.heap [gRay K ra xa sha lea tma sc pp ly dn lg en sh le tm pw tr mr cr de XF HF EF TF] s.heap [] := hG
  refine lv_aload_n S.1 S.2.1 dX4_turnBack_0 rfl (lv_at hl 0 rfl) ?_
  refine lv_aload_n S.1 S.2.1 dX4_turnBack_1 rfl (lv_at hl 0 rfl) ?_
  refine g_get S C hG iX40 0 rfl rfl 7 (by decide) (List.mem_of_getElem? (i := 1) rfl) rfl dX4_turnBack_2 ?_
  refine g_if_ne (tgt := 12) S dX4_turnBack_5 (by decide) (by omega) (fun q5 => ?_) (fun q5 => ?_)
  · skip
    refine g_iconst S dX4_turnBack_12 ?_
    refine g_put (gs' := [gRay K ra xa sha lea tma sc pp ly 0 lg en sh le tm pw tr mr cr de XF HF EF TF]) S C hG iX40 tyX4 tyX4_ok nmX4 0 rfl rfl 7 (by decide) (List.mem_of_getElem? (i := 1) rfl) rfl (nz_b (Or.inl rfl)) (fz_b (Or.inl rfl)) (Nat.le_of_ble_eq_true rfl) rfl dX4_turnBack_13 (fun H locs hG => ?_)
    refine lv_aload_n S.1 S.2.1 dX4_turnBack_16 rfl (lv_at hl 0 rfl) ?_
    refine lv_dup S.1 S.2.1 dX4_turnBack_17 rfl ?_
    refine g_get S C hG iX40 0 rfl rfl 14 (by decide) (List.mem_of_getElem? (i := 2) rfl) rfl dX4_turnBack_18 ?_
    refine g_iconst S dX4_turnBack_21 ?_
    refine g_iadd S dX4_turnBack_22 rfl ?_
    refine g_put (gs' := [gRay K ra xa sha lea tma sc pp ly 0 lg en sh le tm pw (tr + 1) mr cr de XF HF EF TF]) S C hG iX40 tyX4 tyX4_ok nmX4 0 rfl rfl 14 (by decide) (List.mem_of_getElem? (i := 2) rfl) rfl rfl rfl (Nat.le_of_ble_eq_true rfl) rfl dX4_turnBack_23 (fun H locs hG => ?_)
    refine g_iconst S dX4_turnBack_26 ?_
    have hG : gW K A s.heap [gRay K ra xa sha lea tma sc pp ly (1 - dn) lg en sh le tm pw (tr + 1) mr cr de XF HF EF TF] _ _ := (by first | (rw [show (1 : Int) - dn = 1 by omega]; exact hG) | (rw [show (1 : Int) - dn = 0 by omega]; exact hG))
    exact g_iret S hr hlk hQ dX4_turnBack_27 (Nat.le_of_ble_eq_true rfl) (Nat.le_of_ble_eq_true rfl) (() : Unit) rfl hG
  · skip
    refine g_iconst S dX4_turnBack_8 ?_
    refine lv_goto (tgt := 13) S.1 S.2.1 dX4_turnBack_9 (by decide) ?_
    refine g_put (gs' := [gRay K ra xa sha lea tma sc pp ly 1 lg en sh le tm pw tr mr cr de XF HF EF TF]) S C hG iX40 tyX4 tyX4_ok nmX4 0 rfl rfl 7 (by decide) (List.mem_of_getElem? (i := 1) rfl) rfl (nz_b (Or.inr rfl)) (fz_b (Or.inr rfl)) (Nat.le_of_ble_eq_true rfl) rfl dX4_turnBack_13 (fun H locs hG => ?_)
    refine lv_aload_n S.1 S.2.1 dX4_turnBack_16 rfl (lv_at hl 0 rfl) ?_
    refine lv_dup S.1 S.2.1 dX4_turnBack_17 rfl ?_
    refine g_get S C hG iX40 0 rfl rfl 14 (by decide) (List.mem_of_getElem? (i := 2) rfl) rfl dX4_turnBack_18 ?_
    refine g_iconst S dX4_turnBack_21 ?_
    refine g_iadd S dX4_turnBack_22 rfl ?_
    refine g_put (gs' := [gRay K ra xa sha lea tma sc pp ly 1 lg en sh le tm pw (tr + 1) mr cr de XF HF EF TF]) S C hG iX40 tyX4 tyX4_ok nmX4 0 rfl rfl 14 (by decide) (List.mem_of_getElem? (i := 2) rfl) rfl rfl rfl (Nat.le_of_ble_eq_true rfl) rfl dX4_turnBack_23 (fun H locs hG => ?_)
    refine g_iconst S dX4_turnBack_26 ?_
    have hG : gW K A s.heap [gRay K ra xa sha lea tma sc pp ly (1 - dn) lg en sh le tm pw (tr + 1) mr cr de XF HF EF TF] _ _ := (by first | (rw [show (1 : Int) - dn = 1 by omega]; exact hG) | (rw [show (1 : Int) - dn = 0 by omega]; exact hG))
    exact g_iret S hr hlk hQ dX4_turnBack_27 (Nat.le_of_ble_eq_true rfl) (Nat.le_of_ble_eq_true rfl) (() : Unit) rfl hG
set_option maxHeartbeats 1000000 in
set_option maxRecDepth 100000 in
theorem c_X4_mirrorBack (l : Launch) (K : KC) (ra : Nat) (xa : Nat) (sha : Nat) (lea : Nat) (tma : Nat) (sc : Nat) (pp : Int) (ly : Int) (dn : Int) (lg : Int) (en : Int) (sh : Int) (le : Int) (tm : Int) (pw : Int) (tr : Int) (mr : Int) (cr : Int) (de : Int) (XF : Int → Int) (HF : Int → Int) (EF : Int → Int) (TF : Int → Int) (la : Nat) (lb : Nat) (sa : Nat) (sb : Nat) (ou : Int) (mi : Int) (bo : Int) (ln : Int) (LF : Int → Int) (sn : Int) (SF : Int → Int) (N : Int → Int) (hS : ScOk N ou mi bo ln LF sn SF) (hN : NOk0 N) (h2 : N 2 = 1) (hw : 0 ≤ pw ∧ pw ≤ 1000000) (h1 : 0 ≤ mr ∧ mr ≤ 60) : mG l yX4_mirrorBack wsX4_mirrorBack 1 22 K [.ref ra] [gRay K ra xa sha lea tma sc pp ly dn lg en sh le tm pw tr mr cr de XF HF EF TF, gScn K sc la lb sa sb ou mi bo ln LF sn SF] (fun (v : Value) (u : Int × Int × Int) => (v = .int (iI u.2.2)) ∧ ((pw * N 3 / 100 = 0 ∧ u.1 = 2 ∧ u.2.1 = dn ∧ u.2.2 = 5) ∨ (¬ pw * N 3 / 100 = 0 ∧ u.1 = en ∧ u.2.1 = 0 ∧ u.2.2 = 2))) (fun (u : Int × Int × Int) => [gRay K ra xa sha lea tma sc pp ly u.2.1 lg u.1 sh le tm (pw * N 3 / 100) tr (mr + 1) cr de XF HF EF TF, gScn K sc la lb sa sb ou mi bo ln LF sn SF]) 0 0 := by
  refine mG_of cX4_mirrorBack 1 (by decide) rfl (Nat.le_of_ble_eq_true rfl) ?_
  intro p e s m below meth c A ls Q S C hG hl hr hlk hin hQ
  have S : CallFix p m c cX4_mirrorBack 1 s ([.ref ra] : List Value).toArray wsX4_mirrorBack RX4 := S
  have iX40 : ∀ w ∈ wsX40, w ∈ wsX4_mirrorBack := fun _ h => List.mem_cons_of_mem _ (List.mem_append_left _ (List.mem_append_right _ (h)))
  have iX50 : ∀ w ∈ wsX50, w ∈ wsX4_mirrorBack := fun _ h => List.mem_cons_of_mem _ (List.mem_append_right _ (h))
  have hl : lv_has ls 1 [(0, .ref ra)] := hl
  have hG : gW K A s.heap [gRay K ra xa sha lea tma sc pp ly dn lg en sh le tm pw tr mr cr de XF HF EF TF, gScn K sc la lb sa sb ou mi bo ln LF sn SF] s.heap [] := hG
  obtain ⟨e0, e1, e2, e3, e4, e5, e6⟩ := id hS
  have n0 := hN.1
  have n2 := hN.2.2.1
  obtain ⟨m1, m2, m3⟩ := mi_bd (q := pw) (b := N 3) hw.1 hw.2 (by omega) (by omega)
  refine lv_aload_n S.1 S.2.1 dX4_mirrorBack_0 rfl (lv_at hl 0 rfl) ?_
  refine lv_dup S.1 S.2.1 dX4_mirrorBack_1 rfl ?_
  refine g_get S C hG iX40 0 rfl rfl 15 (by decide) (List.mem_of_getElem? (i := 1) rfl) rfl dX4_mirrorBack_2 ?_
  refine g_iconst S dX4_mirrorBack_5 ?_
  refine g_iadd S dX4_mirrorBack_6 rfl ?_
  refine g_put (gs' := [gRay K ra xa sha lea tma sc pp ly dn lg en sh le tm pw tr (mr + 1) cr de XF HF EF TF, gScn K sc la lb sa sb ou mi bo ln LF sn SF]) S C hG iX40 tyX4 tyX4_ok nmX4 0 rfl rfl 15 (by decide) (List.mem_of_getElem? (i := 1) rfl) rfl rfl rfl (Nat.le_of_ble_eq_true rfl) rfl dX4_mirrorBack_7 (fun H locs hG => ?_)
  refine lv_aload_n S.1 S.2.1 dX4_mirrorBack_10 rfl (lv_at hl 0 rfl) ?_
  refine lv_aload_n S.1 S.2.1 dX4_mirrorBack_11 rfl (lv_at hl 0 rfl) ?_
  refine g_get S C hG iX40 0 rfl rfl 13 (by decide) (List.mem_of_getElem? (i := 2) rfl) rfl dX4_mirrorBack_12 ?_
  refine lv_aload_n S.1 S.2.1 dX4_mirrorBack_15 rfl (lv_at hl 0 rfl) ?_
  refine g_get S C hG iX40 0 rfl rfl 4 (by decide) (List.mem_of_getElem? (i := 3) rfl) rfl dX4_mirrorBack_16 ?_
  refine g_get S C hG iX50 5 rfl rfl 4 (by decide) (List.mem_of_getElem? (i := 4) rfl) rfl dX4_mirrorBack_19 ?_
  refine g_top (w := .int (iI (N 3))) (congrArg (fun z : Int => Value.int (iI z)) (e3.symm)) ?_
  refine g_imul S dX4_mirrorBack_22 rfl ?_
  refine g_bipush S dX4_mirrorBack_23 (by decide) ?_
  refine g_idiv S dX4_mirrorBack_25 (by omega) (by omega) rfl ?_
  refine g_put (gs' := [gRay K ra xa sha lea tma sc pp ly dn lg en sh le tm ((pw * (N 3)) / 100) tr (mr + 1) cr de XF HF EF TF, gScn K sc la lb sa sb ou mi bo ln LF sn SF]) S C hG iX40 tyX4 tyX4_ok nmX4 0 rfl rfl 13 (by decide) (List.mem_of_getElem? (i := 2) rfl) rfl rfl rfl (Nat.le_of_ble_eq_true rfl) rfl dX4_mirrorBack_26 (fun H locs hG => ?_)
  refine lv_aload_n S.1 S.2.1 dX4_mirrorBack_29 rfl (lv_at hl 0 rfl) ?_
  refine g_get S C hG iX40 0 rfl rfl 13 (by decide) (List.mem_of_getElem? (i := 2) rfl) rfl dX4_mirrorBack_30 ?_
  refine g_if_ne (tgt := 43) S dX4_mirrorBack_33 (by decide) (by omega) (fun q33 => ?_) (fun q33 => ?_)
  · skip
    refine lv_aload_n S.1 S.2.1 dX4_mirrorBack_43 rfl (lv_at hl 0 rfl) ?_
    refine g_iconst S dX4_mirrorBack_44 ?_
    refine g_put (gs' := [gRay K ra xa sha lea tma sc pp ly 0 lg en sh le tm ((pw * (N 3)) / 100) tr (mr + 1) cr de XF HF EF TF, gScn K sc la lb sa sb ou mi bo ln LF sn SF]) S C hG iX40 tyX4 tyX4_ok nmX4 0 rfl rfl 7 (by decide) (List.mem_of_getElem? (i := 5) rfl) rfl (nz_b (Or.inl rfl)) (fz_b (Or.inl rfl)) (Nat.le_of_ble_eq_true rfl) rfl dX4_mirrorBack_45 (fun H locs hG => ?_)
    refine g_iconst S dX4_mirrorBack_48 ?_
    have hG : gW K A s.heap [gRay K ra xa sha lea tma sc pp ly 0 lg en sh le tm (pw * N 3 / 100) tr (mr + 1) cr de XF HF EF TF, gScn K sc la lb sa sb ou mi bo ln LF sn SF] _ _ := hG
    exact g_iret S hr hlk hQ dX4_mirrorBack_49 (Nat.le_of_ble_eq_true rfl) (Nat.le_of_ble_eq_true rfl) ((en, 0, 2) : Int × Int × Int) ⟨rfl, (Or.inr ⟨by omega, rfl, rfl, rfl⟩)⟩ hG
  · skip
    refine lv_aload_n S.1 S.2.1 dX4_mirrorBack_36 rfl (lv_at hl 0 rfl) ?_
    refine g_iconst S dX4_mirrorBack_37 ?_
    refine g_iconst S dX4_mirrorBack_38 ?_
    refine g_invV (As := [.int (iI 2), .int (iI 5)]) (rest := []) (gs' := (fun u : Unit => [gRay K ra xa sha lea tma sc pp ly dn lg 2 sh le tm ((pw * (N 3)) / 100) tr (mr + 1) cr de XF HF EF TF, gScn K sc la lb sa sb ou mi bo ln LF sn SF])) S C hG [0] (c_X4_endWith l K ra xa sha lea tma sc pp ly dn lg en sh le tm ((pw * (N 3)) / 100) tr (mr + 1) cr de XF HF EF TF 2 5) rfl rfl 0 rfl rfl (cwV 2 S.2.2.2.2 gX4_mirrorBack_X4_endWith rfl rfl rfl (by decide +kernel) ⟨Nat.le_of_ble_eq_true rfl, Nat.le_of_ble_eq_true rfl⟩) rfl hl.1 rfl (Nat.le_of_ble_eq_true rfl) dX4_mirrorBack_39 ⟨Nat.le_of_ble_eq_true rfl, Nat.le_of_ble_eq_true rfl⟩ (fun _ => Nat.le_of_ble_eq_true rfl) (fun _ => rfl) (fun v u H locs hp hG => ?_)
    subst hp
    have hG : gW K A s.heap [gRay K ra xa sha lea tma sc pp ly dn lg 2 sh le tm (pw * N 3 / 100) tr (mr + 1) cr de XF HF EF TF, gScn K sc la lb sa sb ou mi bo ln LF sn SF] _ _ := hG
    exact g_iret S hr hlk hQ dX4_mirrorBack_42 (Nat.le_of_ble_eq_true rfl) (Nat.le_of_ble_eq_true rfl) ((2, dn, 5) : Int × Int × Int) ⟨rfl, (Or.inl ⟨by omega, rfl, rfl, rfl⟩)⟩ hG
