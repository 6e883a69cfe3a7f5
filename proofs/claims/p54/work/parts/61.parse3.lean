set_option maxHeartbeats 1000000 in
set_option maxRecDepth 100000 in
theorem c_X2_parseOutside (l : Launch) (K : KC) (qa : Nat) (tx : Nat) (sc : Nat) (qp : Int) (qs : Int) (qk : Int) (qn : Int) (qo : Int) (qb : Int) (qe : Int) (qf : Int) (bb : Nat) (n : Int) (F : Int → Int) (la : Nat) (lb : Nat) (sa : Nat) (sb : Nat) (ou : Int) (mi : Int) (bo : Int) (ln : Int) (LF : Int → Int) (sn : Int) (SF : Int → Int) (N : Int → Int) (tp : Int) (h0 : 0 ≤ n ∧ n ≤ 400) (h1 : 0 ≤ tp ∧ tp ≤ n) (htk : TokI F n tp qp qs qk qn) (hS : ScOk N ou mi bo ln LF sn SF) (hN : NOk0 N) (hqo : qo = 0 ∨ qo = 1) (hqb : qb = 0 ∨ qb = 1) : mG l yX2_parseOutside wsX2_parseOutside 3 66 K [.ref qa] [gPrsC K qa tx sc qp qs qk qn qo qb 0 (-1), gBuf K tx bb n F, gScn K sc la lb sa sb ou mi bo ln LF sn SF] (fun (v : Value) (u : Int × Int × Int × Int × Int × Int × Int × Int × Int × Int × Int × Int × (Int → Int) × Int × (Int → Int)) => (v = .int (iI (bI (okE (outE F n tp N qo qb))))) ∧ (ErI (outE F n tp N qo qb) u.2.2.2.2.2.2.1 u.2.2.2.2.2.2.2.1) ∧ (StmR F n tp (outE F n tp N qo qb) u.1 u.2.1 u.2.2.1 u.2.2.2.1 u.2.2.2.2.1 u.2.2.2.2.2.1 u.2.2.2.2.2.2.2.2.1 u.2.2.2.2.2.2.2.2.2.1 u.2.2.2.2.2.2.2.2.2.2.1 u.2.2.2.2.2.2.2.2.2.2.2.1 u.2.2.2.2.2.2.2.2.2.2.2.2.1 u.2.2.2.2.2.2.2.2.2.2.2.2.2.1 u.2.2.2.2.2.2.2.2.2.2.2.2.2.2)) (fun (u : Int × Int × Int × Int × Int × Int × Int × Int × Int × Int × Int × Int × (Int → Int) × Int × (Int → Int)) => [gPrsC K qa tx sc u.1 u.2.1 u.2.2.1 u.2.2.2.1 u.2.2.2.2.1 u.2.2.2.2.2.1 u.2.2.2.2.2.2.1 u.2.2.2.2.2.2.2.1, gBuf K tx bb n F, gScn K sc la lb sa sb u.2.2.2.2.2.2.2.2.1 u.2.2.2.2.2.2.2.2.2.1 u.2.2.2.2.2.2.2.2.2.2.1 u.2.2.2.2.2.2.2.2.2.2.2.1 u.2.2.2.2.2.2.2.2.2.2.2.2.1 u.2.2.2.2.2.2.2.2.2.2.2.2.2.1 u.2.2.2.2.2.2.2.2.2.2.2.2.2.2]) 0 0 := by
  refine mG_of cX2_parseOutside 1 (by decide) rfl (Nat.le_of_ble_eq_true rfl) ?_
  intro p e s m below meth c A ls Q S C hG hl hr hlk hin hQ
  have S : CallFix p m c cX2_parseOutside 1 s ([.ref qa] : List Value).toArray wsX2_parseOutside RX2 := S
  have iX20 : ∀ w ∈ wsX20, w ∈ wsX2_parseOutside := fun _ h => List.mem_cons_of_mem _ (List.mem_append_left _ (List.mem_append_left _ (List.mem_append_right _ (h))))
  have iX50 : ∀ w ∈ wsX50, w ∈ wsX2_parseOutside := fun _ h => List.mem_cons_of_mem _ (List.mem_append_left _ (List.mem_append_right _ (h)))
  have iX00 : ∀ w ∈ wsX00, w ∈ wsX2_parseOutside := fun _ h => List.mem_cons_of_mem _ (List.mem_append_right _ (h))
  have hl : lv_has ls 1 [(0, .ref qa)] := hl
  have hG : gW K A s.heap [gPrsC K qa tx sc qp qs qk qn qo qb 0 (-1), gBuf K tx bb n F, gScn K sc la lb sa sb ou mi bo ln LF sn SF] s.heap [] := hG
  obtain ⟨x1, x2, x3, x4⟩ := id htk
  have xb := htk.bd h1.1 h1.2
  have t1 := tk_bd F h1.1 h1.2
  have t2 := tk_bd F (n := n) (i := tkE F n tp) (by omega) (by omega)
  have t3 := tk_bd F (n := n) (i := tkE F n (tkE F n tp)) (by omega) (by omega)
  refine lv_aload_n S.1 S.2.1 dX2_parseOutside_0 rfl (lv_at hl 0 rfl) ?_
  refine g_get S C hG iX20 0 rfl rfl 6 (by decide) (List.mem_of_getElem? (i := 1) rfl) rfl dX2_parseOutside_1 ?_
  refine g_if_eq (tgt := 13) S dX2_parseOutside_4 (by decide) (by omega) (fun q4 => ?_) (fun q4 => ?_)
  · skip
    refine lv_aload_n S.1 S.2.1 dX2_parseOutside_13 rfl (lv_at hl 0 rfl) ?_
    refine g_iconst S dX2_parseOutside_14 ?_
    refine g_put (gs' := [gPrsC K qa tx sc qp qs qk qn 1 qb 0 (-1), gBuf K tx bb n F, gScn K sc la lb sa sb ou mi bo ln LF sn SF]) S C hG iX20 tyX2 tyX2_ok nmX2 0 rfl rfl 6 (by decide) (List.mem_of_getElem? (i := 1) rfl) rfl (nz_b (Or.inr rfl)) (fz_b (Or.inr rfl)) (Nat.le_of_ble_eq_true rfl) rfl dX2_parseOutside_15 (fun H locs hG => ?_)
    refine lv_aload_n S.1 S.2.1 dX2_parseOutside_18 rfl (lv_at hl 0 rfl) ?_
    refine g_invVv (As := []) (rest := []) (gs' := (fun u : Int × Int × Int × Int => [gPrsC K qa tx sc u.1 u.2.1 u.2.2.1 u.2.2.2 1 qb 0 (-1), gBuf K tx bb n F, gScn K sc la lb sa sb ou mi bo ln LF sn SF])) S C hG [0, 1] (c_X2_readToken l K qa tx sc qp qs qk qn 1 qb 0 (-1) bb n F h0 (by omega)) rfl rfl 0 rfl rfl (cwV 0 S.2.2.2.2 gX2_parseOutside_X2_readToken rfl rfl rfl (by decide +kernel) ⟨Nat.le_of_ble_eq_true rfl, Nat.le_of_ble_eq_true rfl⟩) rfl hl.1 rfl (Nat.le_of_ble_eq_true rfl) dX2_parseOutside_19 ⟨Nat.le_of_ble_eq_true rfl, Nat.le_of_ble_eq_true rfl⟩ (fun _ => Nat.le_of_ble_eq_true rfl) (fun _ => rfl) (fun u H locs hp hG => ?_)
    obtain ⟨qp2_19, qs2_19, qk2_19, qn2_19⟩ := u
    have ht_19 := hp
    have ht_19 : TokI F n qp qp2_19 qs2_19 qk2_19 qn2_19 := ht_19
    have hG : gW K A s.heap [gPrsC K qa tx sc qp2_19 qs2_19 qk2_19 qn2_19 1 qb 0 (-1), gBuf K tx bb n F, gScn K sc la lb sa sb ou mi bo ln LF sn SF] _ _ := hG
    have htk2 : TokI F n (tkE F n tp) qp2_19 qs2_19 qk2_19 qn2_19 := by rw [← x1] <;> exact ht_19
    obtain ⟨y1, y2, y3, y4⟩ := id htk2
    refine lv_aload_n S.1 S.2.1 dX2_parseOutside_22 rfl (lv_at hl 0 rfl) ?_
    refine g_sipush S dX2_parseOutside_23 (by decide) ?_
    refine g_sipush S dX2_parseOutside_26 (by decide) ?_
    refine g_invV (As := [.int (iI 1000), .int (iI 4000)]) (rest := []) (gs' := (fun u : Int × Int => [gPrsC K qa tx sc qp2_19 qs2_19 qk2_19 qn2_19 1 qb u.1 u.2, gBuf K tx bb n F, gScn K sc la lb sa sb ou mi bo ln LF sn SF])) S C hG [0] (c_X2_isNumber l K qa tx sc qp2_19 qs2_19 qk2_19 qn2_19 1 qb qe qf bb n F (tkE F n tp) 1000 4000 h0 (by omega) (by rw [← x1] <;> exact ht_19) (by omega) (by omega)) rfl rfl 0 rfl rfl (cwV 2 S.2.2.2.2 gX2_parseOutside_X2_isNumber rfl rfl rfl (by decide +kernel) ⟨Nat.le_of_ble_eq_true rfl, Nat.le_of_ble_eq_true rfl⟩) rfl hl.1 rfl (Nat.le_of_ble_eq_true rfl) dX2_parseOutside_29 ⟨Nat.le_of_ble_eq_true rfl, Nat.le_of_ble_eq_true rfl⟩ (fun _ => Nat.le_of_ble_eq_true rfl) (fun _ => rfl) (fun v u H locs hp hG => ?_)
    obtain ⟨qe2_29, qf2_29⟩ := u
    obtain ⟨rfl, he_29⟩ := hp
    have he_29 : ErI (numE F n (tkE F n tp) 1000 4000) qe2_29 qf2_29 := he_29
    have hG : gW K A s.heap [gPrsC K qa tx sc qp2_19 qs2_19 qk2_19 qn2_19 1 qb qe2_29 qf2_29, gBuf K tx bb n F, gScn K sc la lb sa sb ou mi bo ln LF sn SF] _ _ := hG
    refine g_ifne_b (B := (okE (numE F n (tkE F n tp) 1000 4000))) (tgt := 37) S dX2_parseOutside_32 (by decide) (fun q32 => ?_) (fun q32 => ?_)
    · skip
      obtain ⟨rfl, rfl⟩ := erI_ok q32 he_29
      have hv9 : qn2_19 = tkV F n (tkE F n tp) := y4 (by rw [y3] <;> exact (numE_ok q32).2.1)
      have hv8 := (numE_ok q32).2.2
      have hs9 := t2.2.1 (by rw [(numE_ok q32).2.1] <;> decide)
      refine lv_aload_n S.1 S.2.1 dX2_parseOutside_37 rfl (lv_at hl 0 rfl) ?_
      refine g_get S C hG iX20 0 rfl rfl 1 (by decide) (List.mem_of_getElem? (i := 2) rfl) rfl dX2_parseOutside_38 ?_
      refine lv_aload_n S.1 S.2.1 dX2_parseOutside_41 rfl (lv_at hl 0 rfl) ?_
      refine g_invV (As := []) (rest := [.ref sc]) (gs' := (fun u : Int × Int × Int × Int => [gPrsC K qa tx sc u.1 u.2.1 u.2.2.1 u.2.2.2 1 qb 0 (-1), gBuf K tx bb n F, gScn K sc la lb sa sb ou mi bo ln LF sn SF])) S C hG [0, 1] (c_X2_takeNumber l K qa tx sc qp2_19 qs2_19 qk2_19 qn2_19 1 qb 0 (-1) bb n F h0 (by omega) (by omega)) rfl rfl 0 rfl rfl (cwV 0 S.2.2.2.2 gX2_parseOutside_X2_takeNumber rfl rfl rfl (by decide +kernel) ⟨Nat.le_of_ble_eq_true rfl, Nat.le_of_ble_eq_true rfl⟩) rfl hl.1 rfl (Nat.le_of_ble_eq_true rfl) dX2_parseOutside_42 ⟨Nat.le_of_ble_eq_true rfl, Nat.le_of_ble_eq_true rfl⟩ (fun _ => Nat.le_of_ble_eq_true rfl) (fun _ => rfl) (fun v u H locs hp hG => ?_)
      obtain ⟨qp2_42, qs2_42, qk2_42, qn2_42⟩ := u
      obtain ⟨rfl, ht_42⟩ := hp
      have ht_42 : TokI F n qp2_19 qp2_42 qs2_42 qk2_42 qn2_42 := ht_42
      have hG : gW K A s.heap [gPrsC K qa tx sc qp2_42 qs2_42 qk2_42 qn2_42 1 qb 0 (-1), gBuf K tx bb n F, gScn K sc la lb sa sb ou mi bo ln LF sn SF] _ _ := hG
      refine g_put (gs' := [gPrsC K qa tx sc qp2_42 qs2_42 qk2_42 qn2_42 1 qb 0 (-1), gBuf K tx bb n F, gScn K sc la lb sa sb qn2_19 mi bo ln LF sn SF]) S C hG iX50 tyX5 tyX5_ok nmX5 3 rfl rfl 2 (by decide) (List.mem_of_getElem? (i := 3) rfl) rfl rfl rfl (Nat.le_of_ble_eq_true rfl) rfl dX2_parseOutside_45 (fun H locs hG => ?_)
      refine lv_aload_n S.1 S.2.1 dX2_parseOutside_48 rfl (lv_at hl 0 rfl) ?_
      refine g_invV (As := []) (rest := []) (gs' := (fun u : Int × Int × Int × Int × Int × Int => [gPrsC K qa tx sc u.1 u.2.1 u.2.2.1 u.2.2.2.1 1 qb u.2.2.2.2.1 u.2.2.2.2.2, gBuf K tx bb n F, gScn K sc la lb sa sb qn2_19 mi bo ln LF sn SF])) S C hG [0, 1] (c_X2_takeSemicolon l K qa tx sc qp2_42 qs2_42 qk2_42 qn2_42 1 qb qe qf bb n F (tkE F n (tkE F n tp)) h0 (by omega) (by rw [← y1] <;> exact ht_42)) rfl rfl 0 rfl rfl (cwV 0 S.2.2.2.2 gX2_parseOutside_X2_takeSemicolon rfl rfl rfl (by decide +kernel) ⟨Nat.le_of_ble_eq_true rfl, Nat.le_of_ble_eq_true rfl⟩) rfl hl.1 rfl (Nat.le_of_ble_eq_true rfl) dX2_parseOutside_49 ⟨Nat.le_of_ble_eq_true rfl, Nat.le_of_ble_eq_true rfl⟩ (fun _ => Nat.le_of_ble_eq_true rfl) (fun _ => rfl) (fun v u H locs hp hG => ?_)
      obtain ⟨qp2_49, qs2_49, qk2_49, qn2_49, qe2_49, qf2_49⟩ := u
      obtain ⟨rfl, he_49, ht2_49⟩ := hp
      have he_49 : ErI (smE F n (tkE F n (tkE F n tp))) qe2_49 qf2_49 := he_49
      have ht2_49 : okE (smE F n (tkE F n (tkE F n tp))) → TokI F n (tkE F n (tkE F n (tkE F n tp))) qp2_49 qs2_49 qk2_49 qn2_49 := ht2_49
      have hG : gW K A s.heap [gPrsC K qa tx sc qp2_49 qs2_49 qk2_49 qn2_49 1 qb qe2_49 qf2_49, gBuf K tx bb n F, gScn K sc la lb sa sb qn2_19 mi bo ln LF sn SF] _ _ := hG
      have hG : gW K A s.heap [gPrsC K qa tx sc qp2_49 qs2_49 qk2_49 qn2_49 1 qb qe2_49 qf2_49, gBuf K tx bb n F, gScn K sc la lb sa sb qn2_19 mi bo ln LF sn SF] _ _ := hG
      exact g_zret S hr hlk hQ (bI_01 _) dX2_parseOutside_52 (Nat.le_of_ble_eq_true rfl) (Nat.le_of_ble_eq_true rfl) ((qp2_49, qs2_49, qk2_49, qn2_49, 1, qb, qe2_49, qf2_49, qn2_19, mi, bo, ln, LF, sn, SF) : Int × Int × Int × Int × Int × Int × Int × Int × Int × Int × Int × Int × (Int → Int) × Int × (Int → Int)) ⟨(congrArg (fun z : Int => Value.int (iI z)) (by rw [outE_n (by omega), pb_inr (numE_ok q32).1] <;> exact bI_pb _ _)), (by rw [outE_n (by omega), pb_inr (numE_ok q32).1] <;> exact erI_pb he_49), (by rw [outE_n (by omega), pb_inr (numE_ok q32).1] <;> exact StmR.pb (fun q => ⟨ht2_49 q, by omega, by rw [← hv9] <;> exact hS.up1 _, hN.up1 (numE_ok q32).2.2, ⟨rfl, rfl⟩, Or.inr rfl, hqb⟩))⟩ hG
    · skip
      refine g_iconst S dX2_parseOutside_35 ?_
      have hG : gW K A s.heap [gPrsC K qa tx sc qp2_19 qs2_19 qk2_19 qn2_19 1 qb qe2_29 qf2_29, gBuf K tx bb n F, gScn K sc la lb sa sb ou mi bo ln LF sn SF] _ _ := hG
      exact g_zret S hr hlk hQ (Or.inl rfl) dX2_parseOutside_36 (Nat.le_of_ble_eq_true rfl) (Nat.le_of_ble_eq_true rfl) ((qp2_19, qs2_19, qk2_19, qn2_19, 1, qb, qe2_29, qf2_29, ou, mi, bo, ln, LF, sn, SF) : Int × Int × Int × Int × Int × Int × Int × Int × Int × Int × Int × Int × (Int → Int) × Int × (Int → Int)) ⟨(congrArg (fun z : Int => Value.int (iI z)) (bI_f (by rw [outE_n (by omega)] <;> exact (pb_no q32 he_29).1)).symm), (by rw [outE_n (by omega)] <;> exact (pb_no q32 he_29).2), (StmR.no (by rw [outE_n (by omega)] <;> exact (pb_no q32 he_29).1))⟩ hG
  · skip
    refine lv_aload_n S.1 S.2.1 dX2_parseOutside_7 rfl (lv_at hl 0 rfl) ?_
    refine g_iconst S dX2_parseOutside_8 ?_
    refine g_invV (As := [.int (iI 3)]) (rest := []) (gs' := (fun u : Unit => [gPrsC K qa tx sc qp qs qk qn qo qb 3 qs, gBuf K tx bb n F, gScn K sc la lb sa sb ou mi bo ln LF sn SF])) S C hG [0] (c_X2_fail l K qa tx sc qp qs qk qn qo qb 0 (-1) 3) rfl rfl 0 rfl rfl (cwV 1 S.2.2.2.2 gX2_parseOutside_X2_fail rfl rfl rfl (by decide +kernel) ⟨Nat.le_of_ble_eq_true rfl, Nat.le_of_ble_eq_true rfl⟩) rfl hl.1 rfl (Nat.le_of_ble_eq_true rfl) dX2_parseOutside_9 ⟨Nat.le_of_ble_eq_true rfl, Nat.le_of_ble_eq_true rfl⟩ (fun _ => Nat.le_of_ble_eq_true rfl) (fun _ => rfl) (fun v u H locs hp hG => ?_)
    subst hp
    have hG : gW K A s.heap [gPrsC K qa tx sc qp qs qk qn qo qb 3 qs, gBuf K tx bb n F, gScn K sc la lb sa sb ou mi bo ln LF sn SF] _ _ := hG
    exact g_zret S hr hlk hQ (Or.inl rfl) dX2_parseOutside_12 (Nat.le_of_ble_eq_true rfl) (Nat.le_of_ble_eq_true rfl) ((qp, qs, qk, qn, qo, qb, 3, qs, ou, mi, bo, ln, LF, sn, SF) : Int × Int × Int × Int × Int × Int × Int × Int × Int × Int × Int × Int × (Int → Int) × Int × (Int → Int)) ⟨(congrArg (fun z : Int => Value.int (iI z)) (bI_f (by rw [outE_3 (by omega)] <;> exact (fl_er F n tp 3).1)).symm), (by rw [outE_3 (by omega)] <;> exact ⟨rfl, x2⟩), (StmR.no (by rw [outE_3 (by omega)] <;> exact (fl_er F n tp 3).1))⟩ hG
