set_option maxHeartbeats 1000000 in
set_option maxRecDepth 100000 in
theorem c_X2_parseLayer (l : Launch) (K : KC) (qa : Nat) (tx : Nat) (sc : Nat) (qp : Int) (qs : Int) (qk : Int) (qn : Int) (qo : Int) (qb : Int) (qe : Int) (qf : Int) (bb : Nat) (n : Int) (F : Int → Int) (la : Nat) (lb : Nat) (sa : Nat) (sb : Nat) (ou : Int) (mi : Int) (bo : Int) (ln : Int) (LF : Int → Int) (sn : Int) (SF : Int → Int) (N : Int → Int) (tp : Int) (h0 : 0 ≤ n ∧ n ≤ 400) (h1 : 0 ≤ tp ∧ tp ≤ n) (htk : TokI F n tp qp qs qk qn) (hS : ScOk N ou mi bo ln LF sn SF) (hN : NOk0 N) (hqo : qo = 0 ∨ qo = 1) (hqb : qb = 0 ∨ qb = 1) : mG l yX2_parseLayer wsX2_parseLayer 6 128 K [.ref qa] [gPrsC K qa tx sc qp qs qk qn qo qb 0 (-1), gBuf K tx bb n F, gScn K sc la lb sa sb ou mi bo ln LF sn SF] (fun (v : Value) (u : Int × Int × Int × Int × Int × Int × Int × Int × Int × Int × Int × Int × (Int → Int) × Int × (Int → Int)) => (v = .int (iI (bI (okE (layE F n tp N qo qb))))) ∧ (ErI (layE F n tp N qo qb) u.2.2.2.2.2.2.1 u.2.2.2.2.2.2.2.1) ∧ (StmR F n tp (layE F n tp N qo qb) u.1 u.2.1 u.2.2.1 u.2.2.2.1 u.2.2.2.2.1 u.2.2.2.2.2.1 u.2.2.2.2.2.2.2.2.1 u.2.2.2.2.2.2.2.2.2.1 u.2.2.2.2.2.2.2.2.2.2.1 u.2.2.2.2.2.2.2.2.2.2.2.1 u.2.2.2.2.2.2.2.2.2.2.2.2.1 u.2.2.2.2.2.2.2.2.2.2.2.2.2.1 u.2.2.2.2.2.2.2.2.2.2.2.2.2.2)) (fun (u : Int × Int × Int × Int × Int × Int × Int × Int × Int × Int × Int × Int × (Int → Int) × Int × (Int → Int)) => [gPrsC K qa tx sc u.1 u.2.1 u.2.2.1 u.2.2.2.1 u.2.2.2.2.1 u.2.2.2.2.2.1 u.2.2.2.2.2.2.1 u.2.2.2.2.2.2.2.1, gBuf K tx bb n F, gScn K sc la lb sa sb u.2.2.2.2.2.2.2.2.1 u.2.2.2.2.2.2.2.2.2.1 u.2.2.2.2.2.2.2.2.2.2.1 u.2.2.2.2.2.2.2.2.2.2.2.1 u.2.2.2.2.2.2.2.2.2.2.2.2.1 u.2.2.2.2.2.2.2.2.2.2.2.2.2.1 u.2.2.2.2.2.2.2.2.2.2.2.2.2.2]) 0 0 := by
  refine mG_of cX2_parseLayer 4 (by decide) rfl (Nat.le_of_ble_eq_true rfl) ?_
  intro p e s m below meth c A ls Q S C hG hl hr hlk hin hQ
  have S : CallFix p m c cX2_parseLayer 4 s ([.ref qa] : List Value).toArray wsX2_parseLayer RX2 := S
  have iX20 : ∀ w ∈ wsX20, w ∈ wsX2_parseLayer := fun _ h => List.mem_cons_of_mem _ (List.mem_append_left _ (List.mem_append_left _ (List.mem_append_left _ (List.mem_append_left _ (List.mem_append_right _ (h))))))
  have iX50 : ∀ w ∈ wsX50, w ∈ wsX2_parseLayer := fun _ h => List.mem_cons_of_mem _ (List.mem_append_left _ (List.mem_append_left _ (List.mem_append_left _ (List.mem_append_right _ (h)))))
  have iX70 : ∀ w ∈ wsX70, w ∈ wsX2_parseLayer := fun _ h => List.mem_cons_of_mem _ (List.mem_append_left _ (List.mem_append_left _ (List.mem_append_right _ (h))))
  have iX00 : ∀ w ∈ wsX00, w ∈ wsX2_parseLayer := fun _ h => List.mem_cons_of_mem _ (List.mem_append_left _ (List.mem_append_right _ (h)))
  have hl : lv_has ls 4 [(0, .ref qa)] := hl
  have hG : gW K A s.heap [gPrsC K qa tx sc qp qs qk qn qo qb 0 (-1), gBuf K tx bb n F, gScn K sc la lb sa sb ou mi bo ln LF sn SF] s.heap [] := hG
  obtain ⟨x1, x2, x3, x4⟩ := id htk
  have xb := htk.bd h1.1 h1.2
  have t1 := tk_bd F h1.1 h1.2
  have t2 := tk_bd F (n := n) (i := tkE F n tp) (by omega) (by omega)
  have t3 := tk_bd F (n := n) (i := tkE F n (tkE F n tp)) (by omega) (by omega)
  have t4 := tk_bd F (n := n) (i := tkE F n (tkE F n (tkE F n tp))) (by omega) (by omega)
  have t5 := tk_bd F (n := n) (i := tkE F n (tkE F n (tkE F n (tkE F n tp)))) (by omega) (by omega)
  have t6 := tk_bd F (n := n) (i := tkE F n (tkE F n (tkE F n (tkE F n (tkE F n tp))))) (by omega) (by omega)
  have t7 := tk_bd F (n := n) (i := tkE F n (tkE F n (tkE F n (tkE F n (tkE F n (tkE F n tp)))))) (by omega) (by omega)
  obtain ⟨e0, e1, e2, e3, e4, e5, e6⟩ := id hS
  obtain ⟨n0, n1, n2, n3, n4, n5⟩ := id hN
  refine lv_aload_n S.1 S.2.1 dX2_parseLayer_0 rfl (lv_at hl 0 rfl) ?_
  refine g_get S C hG iX20 0 rfl rfl 1 (by decide) (List.mem_of_getElem? (i := 1) rfl) rfl dX2_parseLayer_1 ?_
  refine g_get S C hG iX50 3 rfl rfl 0 (by decide) (List.mem_of_getElem? (i := 2) rfl) rfl dX2_parseLayer_4 ?_
  refine g_get S C hG iX70 4 rfl rfl 1 (by decide) (List.mem_of_getElem? (i := 3) rfl) rfl dX2_parseLayer_7 ?_
  refine g_bipush S dX2_parseLayer_10 (by decide) ?_
  refine g_icmp_lt (tgt := 22) S dX2_parseLayer_12 (by decide) (by omega) (by omega) (fun q12 => ?_) (fun q12 => ?_)
  · skip
    refine lv_aload_n S.1 S.2.1 dX2_parseLayer_22 rfl (lv_at hl 0 rfl) ?_
    refine g_invVv (As := []) (rest := []) (gs' := (fun u : Int × Int × Int × Int => [gPrsC K qa tx sc u.1 u.2.1 u.2.2.1 u.2.2.2 qo qb 0 (-1), gBuf K tx bb n F, gScn K sc la lb sa sb ou mi bo ln LF sn SF])) S C hG [0, 1] (c_X2_readToken l K qa tx sc qp qs qk qn qo qb 0 (-1) bb n F h0 (by omega)) rfl rfl 0 rfl rfl (cwV 0 S.2.2.2.2 gX2_parseLayer_X2_readToken rfl rfl rfl (by decide +kernel) ⟨Nat.le_of_ble_eq_true rfl, Nat.le_of_ble_eq_true rfl⟩) rfl hl.1 rfl (Nat.le_of_ble_eq_true rfl) dX2_parseLayer_23 ⟨Nat.le_of_ble_eq_true rfl, Nat.le_of_ble_eq_true rfl⟩ (fun _ => Nat.le_of_ble_eq_true rfl) (fun _ => rfl) (fun u H locs hp hG => ?_)
    obtain ⟨qp2_23, qs2_23, qk2_23, qn2_23⟩ := u
    have ht_23 := hp
    have ht_23 : TokI F n qp qp2_23 qs2_23 qk2_23 qn2_23 := ht_23
    have hG : gW K A s.heap [gPrsC K qa tx sc qp2_23 qs2_23 qk2_23 qn2_23 qo qb 0 (-1), gBuf K tx bb n F, gScn K sc la lb sa sb ou mi bo ln LF sn SF] _ _ := hG
    have ht1 : TokI F n (tkE F n tp) qp2_23 qs2_23 qk2_23 qn2_23 := by rw [← x1] <;> exact ht_23
    obtain ⟨y1, y2, y3, y4⟩ := id ht1
    refine lv_aload_n S.1 S.2.1 dX2_parseLayer_26 rfl (lv_at hl 0 rfl) ?_
    refine g_sipush S dX2_parseLayer_27 (by decide) ?_
    refine g_sipush S dX2_parseLayer_30 (by decide) ?_
    refine g_invV (As := [.int (iI 1000), .int (iI 4000)]) (rest := []) (gs' := (fun u : Int × Int => [gPrsC K qa tx sc qp2_23 qs2_23 qk2_23 qn2_23 qo qb u.1 u.2, gBuf K tx bb n F, gScn K sc la lb sa sb ou mi bo ln LF sn SF])) S C hG [0] (c_X2_isNumber l K qa tx sc qp2_23 qs2_23 qk2_23 qn2_23 qo qb qe qf bb n F (tkE F n tp) 1000 4000 h0 (by omega) ht1 (by omega) (by omega)) rfl rfl 0 rfl rfl (cwV 2 S.2.2.2.2 gX2_parseLayer_X2_isNumber rfl rfl rfl (by decide +kernel) ⟨Nat.le_of_ble_eq_true rfl, Nat.le_of_ble_eq_true rfl⟩) rfl hl.1 rfl (Nat.le_of_ble_eq_true rfl) dX2_parseLayer_33 ⟨Nat.le_of_ble_eq_true rfl, Nat.le_of_ble_eq_true rfl⟩ (fun _ => Nat.le_of_ble_eq_true rfl) (fun _ => rfl) (fun v u H locs hp hG => ?_)
    obtain ⟨qe2_33, qf2_33⟩ := u
    obtain ⟨rfl, he_33⟩ := hp
    have he_33 : ErI (numE F n (tkE F n tp) 1000 4000) qe2_33 qf2_33 := he_33
    have hG : gW K A s.heap [gPrsC K qa tx sc qp2_23 qs2_23 qk2_23 qn2_23 qo qb qe2_33 qf2_33, gBuf K tx bb n F, gScn K sc la lb sa sb ou mi bo ln LF sn SF] _ _ := hG
    refine g_ifne_b (B := (okE (numE F n (tkE F n tp) 1000 4000))) (tgt := 41) S dX2_parseLayer_36 (by decide) (fun q36 => ?_) (fun q36 => ?_)
    · skip
      obtain ⟨rfl, rfl⟩ := erI_ok q36 he_33
      have ha9 : qn2_23 = tkV F n (tkE F n tp) := y4 (by rw [y3] <;> exact (numE_ok q36).2.1)
      have ha8 := (numE_ok q36).2.2
      have ha7 := t2.2.1 (by rw [(numE_ok q36).2.1] <;> decide)
      refine lv_aload_n S.1 S.2.1 dX2_parseLayer_41 rfl (lv_at hl 0 rfl) ?_
      refine g_invV (As := []) (rest := []) (gs' := (fun u : Int × Int × Int × Int => [gPrsC K qa tx sc u.1 u.2.1 u.2.2.1 u.2.2.2 qo qb 0 (-1), gBuf K tx bb n F, gScn K sc la lb sa sb ou mi bo ln LF sn SF])) S C hG [0, 1] (c_X2_takeNumber l K qa tx sc qp2_23 qs2_23 qk2_23 qn2_23 qo qb 0 (-1) bb n F h0 (by omega) (by omega)) rfl rfl 0 rfl rfl (cwV 0 S.2.2.2.2 gX2_parseLayer_X2_takeNumber rfl rfl rfl (by decide +kernel) ⟨Nat.le_of_ble_eq_true rfl, Nat.le_of_ble_eq_true rfl⟩) rfl hl.1 rfl (Nat.le_of_ble_eq_true rfl) dX2_parseLayer_42 ⟨Nat.le_of_ble_eq_true rfl, Nat.le_of_ble_eq_true rfl⟩ (fun _ => Nat.le_of_ble_eq_true rfl) (fun _ => rfl) (fun v u H locs hp hG => ?_)
      obtain ⟨qp2_42, qs2_42, qk2_42, qn2_42⟩ := u
      obtain ⟨rfl, ht_42⟩ := hp
      have ht_42 : TokI F n qp2_23 qp2_42 qs2_42 qk2_42 qn2_42 := ht_42
      have hG : gW K A s.heap [gPrsC K qa tx sc qp2_42 qs2_42 qk2_42 qn2_42 qo qb 0 (-1), gBuf K tx bb n F, gScn K sc la lb sa sb ou mi bo ln LF sn SF] _ _ := hG
      refine lv_istore_n (lv' := [(1, .int (iI qn2_23)), (0, .ref qa)]) S.1 S.2.1 dX2_parseLayer_45 rfl hl (by decide) rfl (fun ls hl => ?_)
      have ht2 : TokI F n (tkE F n (tkE F n tp)) qp2_42 qs2_42 qk2_42 qn2_42 := by rw [← y1] <;> exact ht_42
      obtain ⟨u1, u2, u3, u4⟩ := id ht2
      refine lv_aload_n S.1 S.2.1 dX2_parseLayer_46 rfl (lv_at hl 1 rfl) ?_
      refine va_ldcS (q := K.2.2.2.1 1) S.1 S.2.1 S.2.2.2.1 (C.1.2.2.1 _ (List.mem_of_getElem? (l := strW) (i := 1) rfl)) dX2_parseLayer_47 ?_
      refine g_invV (As := [.ref (K.2.2.2.1 1)]) (rest := []) (gs' := (fun u : Int × Int × Int × Int × Int × Int => [gPrsC K qa tx sc u.1 u.2.1 u.2.2.1 u.2.2.2.1 qo qb u.2.2.2.2.1 u.2.2.2.2.2, gBuf K tx bb n F, gScn K sc la lb sa sb ou mi bo ln LF sn SF])) S C hG [0, 1] (c_X2_takeWord l K qa tx sc qp2_42 qs2_42 qk2_42 qn2_42 qo qb qe qf bb n F (tkE F n (tkE F n tp)) 1 wThick h0 (by omega) ht2 tx_thick (by decide)) rfl rfl 0 rfl rfl (cwV 1 S.2.2.2.2 gX2_parseLayer_X2_takeWord rfl rfl rfl (by decide +kernel) ⟨Nat.le_of_ble_eq_true rfl, Nat.le_of_ble_eq_true rfl⟩) rfl hl.1 rfl (Nat.le_of_ble_eq_true rfl) dX2_parseLayer_49 ⟨Nat.le_of_ble_eq_true rfl, Nat.le_of_ble_eq_true rfl⟩ (fun _ => Nat.le_of_ble_eq_true rfl) (fun _ => rfl) (fun v u H locs hp hG => ?_)
      obtain ⟨qp2_49, qs2_49, qk2_49, qn2_49, qe2_49, qf2_49⟩ := u
      obtain ⟨rfl, he_49, ht2_49⟩ := hp
      have he_49 : ErI (wdE F n (tkE F n (tkE F n tp)) wThick) qe2_49 qf2_49 := he_49
      have ht2_49 : okE (wdE F n (tkE F n (tkE F n tp)) wThick) → TokI F n (tkE F n (tkE F n (tkE F n tp))) qp2_49 qs2_49 qk2_49 qn2_49 := ht2_49
      have hG : gW K A s.heap [gPrsC K qa tx sc qp2_49 qs2_49 qk2_49 qn2_49 qo qb qe2_49 qf2_49, gBuf K tx bb n F, gScn K sc la lb sa sb ou mi bo ln LF sn SF] _ _ := hG
      refine g_ifeq_b (B := (okE (wdE F n (tkE F n (tkE F n tp)) wThick))) (tgt := 66) S dX2_parseLayer_52 (by decide) (fun q52 => ?_) (fun q52 => ?_)
      · skip
        refine g_iconst S dX2_parseLayer_66 ?_
        have hG : gW K A s.heap [gPrsC K qa tx sc qp2_49 qs2_49 qk2_49 qn2_49 qo qb qe2_49 qf2_49, gBuf K tx bb n F, gScn K sc la lb sa sb ou mi bo ln LF sn SF] _ _ := hG
        exact g_zret S hr hlk hQ (Or.inl rfl) dX2_parseLayer_67 (Nat.le_of_ble_eq_true rfl) (Nat.le_of_ble_eq_true rfl) ((qp2_49, qs2_49, qk2_49, qn2_49, qo, qb, qe2_49, qf2_49, ou, mi, bo, ln, LF, sn, SF) : Int × Int × Int × Int × Int × Int × Int × Int × Int × Int × Int × Int × (Int → Int) × Int × (Int → Int)) ⟨(congrArg (fun z : Int => Value.int (iI z)) (bI_f (by rw [layE_n (by omega), pb_inr (numE_ok q36).1] <;> exact (pb_no q52 he_49).1)).symm), (by rw [layE_n (by omega), pb_inr (numE_ok q36).1] <;> exact (pb_no q52 he_49).2), (StmR.no (by rw [layE_n (by omega), pb_inr (numE_ok q36).1] <;> exact (pb_no q52 he_49).1))⟩ hG
      · skip
        obtain ⟨rfl, rfl⟩ := erI_ok q52 he_49
        have ht3 : TokI F n (tkE F n (tkE F n (tkE F n tp))) qp2_49 qs2_49 qk2_49 qn2_49 := ht2_49 q52
        obtain ⟨v1, v2, v3, v4⟩ := id ht3
        refine lv_aload_n S.1 S.2.1 dX2_parseLayer_55 rfl (lv_at hl 1 rfl) ?_
        refine g_iconst S dX2_parseLayer_56 ?_
        refine g_sipush S dX2_parseLayer_57 (by decide) ?_
        refine g_invV (As := [.int (iI 1), .int (iI 999)]) (rest := []) (gs' := (fun u : Int × Int => [gPrsC K qa tx sc qp2_49 qs2_49 qk2_49 qn2_49 qo qb u.1 u.2, gBuf K tx bb n F, gScn K sc la lb sa sb ou mi bo ln LF sn SF])) S C hG [0] (c_X2_isNumber l K qa tx sc qp2_49 qs2_49 qk2_49 qn2_49 qo qb qe qf bb n F (tkE F n (tkE F n (tkE F n tp))) 1 999 h0 (by omega) ht3 (by omega) (by omega)) rfl rfl 0 rfl rfl (cwV 2 S.2.2.2.2 gX2_parseLayer_X2_isNumber rfl rfl rfl (by decide +kernel) ⟨Nat.le_of_ble_eq_true rfl, Nat.le_of_ble_eq_true rfl⟩) rfl hl.1 rfl (Nat.le_of_ble_eq_true rfl) dX2_parseLayer_60 ⟨Nat.le_of_ble_eq_true rfl, Nat.le_of_ble_eq_true rfl⟩ (fun _ => Nat.le_of_ble_eq_true rfl) (fun _ => rfl) (fun v u H locs hp hG => ?_)
        obtain ⟨qe2_60, qf2_60⟩ := u
        obtain ⟨rfl, he_60⟩ := hp
        have he_60 : ErI (numE F n (tkE F n (tkE F n (tkE F n tp))) 1 999) qe2_60 qf2_60 := he_60
        have hG : gW K A s.heap [gPrsC K qa tx sc qp2_49 qs2_49 qk2_49 qn2_49 qo qb qe2_60 qf2_60, gBuf K tx bb n F, gScn K sc la lb sa sb ou mi bo ln LF sn SF] _ _ := hG
        refine g_ifne_b (B := (okE (numE F n (tkE F n (tkE F n (tkE F n tp))) 1 999))) (tgt := 68) S dX2_parseLayer_63 (by decide) (fun q63 => ?_) (fun q63 => ?_)
        · skip
          obtain ⟨rfl, rfl⟩ := erI_ok q63 he_60
          have hb9 : qn2_49 = tkV F n (tkE F n (tkE F n (tkE F n tp))) := v4 (by rw [v3] <;> exact (numE_ok q63).2.1)
          have hb8 := (numE_ok q63).2.2
          have hb7 := t4.2.1 (by rw [(numE_ok q63).2.1] <;> decide)
          refine lv_aload_n S.1 S.2.1 dX2_parseLayer_68 rfl (lv_at hl 1 rfl) ?_
          refine g_invV (As := []) (rest := []) (gs' := (fun u : Int × Int × Int × Int => [gPrsC K qa tx sc u.1 u.2.1 u.2.2.1 u.2.2.2 qo qb 0 (-1), gBuf K tx bb n F, gScn K sc la lb sa sb ou mi bo ln LF sn SF])) S C hG [0, 1] (c_X2_takeNumber l K qa tx sc qp2_49 qs2_49 qk2_49 qn2_49 qo qb 0 (-1) bb n F h0 (by omega) (by omega)) rfl rfl 0 rfl rfl (cwV 0 S.2.2.2.2 gX2_parseLayer_X2_takeNumber rfl rfl rfl (by decide +kernel) ⟨Nat.le_of_ble_eq_true rfl, Nat.le_of_ble_eq_true rfl⟩) rfl hl.1 rfl (Nat.le_of_ble_eq_true rfl) dX2_parseLayer_69 ⟨Nat.le_of_ble_eq_true rfl, Nat.le_of_ble_eq_true rfl⟩ (fun _ => Nat.le_of_ble_eq_true rfl) (fun _ => rfl) (fun v u H locs hp hG => ?_)
          obtain ⟨qp2_69, qs2_69, qk2_69, qn2_69⟩ := u
          obtain ⟨rfl, ht_69⟩ := hp
          have ht_69 : TokI F n qp2_49 qp2_69 qs2_69 qk2_69 qn2_69 := ht_69
          have hG : gW K A s.heap [gPrsC K qa tx sc qp2_69 qs2_69 qk2_69 qn2_69 qo qb 0 (-1), gBuf K tx bb n F, gScn K sc la lb sa sb ou mi bo ln LF sn SF] _ _ := hG
          refine lv_istore_n (lv' := [(2, .int (iI qn2_49)), (1, .int (iI qn2_23)), (0, .ref qa)]) S.1 S.2.1 dX2_parseLayer_72 rfl hl (by decide) rfl (fun ls hl => ?_)
          have ht4 : TokI F n (tkE F n (tkE F n (tkE F n (tkE F n tp)))) qp2_69 qs2_69 qk2_69 qn2_69 := by rw [← v1] <;> exact ht_69
          obtain ⟨w1, w2, w3, w4⟩ := id ht4
          refine g_iconst S dX2_parseLayer_73 ?_
          refine lv_istore_n (lv' := [(3, .int (iI 0)), (2, .int (iI qn2_49)), (1, .int (iI qn2_23)), (0, .ref qa)]) S.1 S.2.1 dX2_parseLayer_74 rfl hl (by decide) rfl (fun ls hl => ?_)
          refine lv_aload_n S.1 S.2.1 dX2_parseLayer_75 rfl (lv_at hl 3 rfl) ?_
          refine va_ldcS (q := K.2.2.2.1 2) S.1 S.2.1 S.2.2.2.1 (C.1.2.2.1 _ (List.mem_of_getElem? (l := strW) (i := 2) rfl)) dX2_parseLayer_76 ?_
          refine g_invV (As := [.ref (K.2.2.2.1 2)]) (rest := []) (gs' := (fun u : Unit => [gPrsC K qa tx sc qp2_69 qs2_69 qk2_69 qn2_69 qo qb 0 (-1), gBuf K tx bb n F, gScn K sc la lb sa sb ou mi bo ln LF sn SF])) S C hG [0, 1] (c_X2_isWord l K qa tx sc qp2_69 qs2_69 qk2_69 qn2_69 qo qb 0 (-1) bb n F (tkE F n (tkE F n (tkE F n (tkE F n tp)))) 2 wLoss h0 (by omega) ht4 tx_loss (by decide)) rfl rfl 0 rfl rfl (cwV 1 S.2.2.2.2 gX2_parseLayer_X2_isWord rfl rfl rfl (by decide +kernel) ⟨Nat.le_of_ble_eq_true rfl, Nat.le_of_ble_eq_true rfl⟩) rfl hl.1 rfl (Nat.le_of_ble_eq_true rfl) dX2_parseLayer_78 ⟨Nat.le_of_ble_eq_true rfl, Nat.le_of_ble_eq_true rfl⟩ (fun _ => Nat.le_of_ble_eq_true rfl) (fun _ => rfl) (fun v u H locs hp hG => ?_)
          subst hp
          refine g_ifeq_b (B := (isWd F n (tkE F n (tkE F n (tkE F n (tkE F n tp)))) wLoss)) (tgt := 105) S dX2_parseLayer_81 (by decide) (fun q81 => ?_) (fun q81 => ?_)
          · skip
            refine lv_aload_n S.1 S.2.1 dX2_parseLayer_105 rfl (lv_at hl 3 rfl) ?_
            refine g_get S C hG iX20 0 rfl rfl 1 (by decide) (List.mem_of_getElem? (i := 1) rfl) rfl dX2_parseLayer_106 ?_
            refine g_get S C hG iX50 3 rfl rfl 0 (by decide) (List.mem_of_getElem? (i := 2) rfl) rfl dX2_parseLayer_109 ?_
            refine lv_aload_n S.1 S.2.1 dX2_parseLayer_112 rfl (lv_at hl 3 rfl) ?_
            refine g_get S C hG iX20 0 rfl rfl 1 (by decide) (List.mem_of_getElem? (i := 1) rfl) rfl dX2_parseLayer_113 ?_
            refine g_get S C hG iX50 3 rfl rfl 0 (by decide) (List.mem_of_getElem? (i := 2) rfl) rfl dX2_parseLayer_116 ?_
            refine g_get S C hG iX70 4 rfl rfl 1 (by decide) (List.mem_of_getElem? (i := 3) rfl) rfl dX2_parseLayer_119 ?_
            refine lv_iload_n S.1 S.2.1 dX2_parseLayer_122 rfl (lv_at hl 2 rfl) ?_
            refine lv_iload_n S.1 S.2.1 dX2_parseLayer_123 rfl (lv_at hl 1 rfl) ?_
            refine lv_iload_n S.1 S.2.1 dX2_parseLayer_124 rfl (lv_at hl 0 rfl) ?_
            have hG : gW K A s.heap [gPrsC K qa tx sc qp2_69 qs2_69 qk2_69 qn2_69 qo qb 0 (-1), gBuf K tx bb n F, gScC K sc la sa ou mi bo, gTab K la lb ln LF, gTabC K sa sb sn, gArr K 60 sb SF] _ _ := hG
            refine g_invVv (As := [.int (iI ln), .int (iI qn2_23), .int (iI qn2_49), .int (iI 0)]) (rest := []) (gs' := (fun u : (Int → Int) => [gPrsC K qa tx sc qp2_69 qs2_69 qk2_69 qn2_69 qo qb 0 (-1), gBuf K tx bb n F, gScC K sc la sa ou mi bo, gTab K la lb (ln + 1) u, gTabC K sa sb sn, gArr K 60 sb SF])) S C hG [3] (c_X7_insert l K la lb ln LF ln qn2_23 qn2_49 0 (by omega) (by omega)) rfl rfl 0 rfl rfl (cwV 4 S.2.2.2.2 gX2_parseLayer_X7_insert rfl rfl rfl (by decide +kernel) ⟨Nat.le_of_ble_eq_true rfl, Nat.le_of_ble_eq_true rfl⟩) rfl hl.1 rfl (Nat.le_of_ble_eq_true rfl) dX2_parseLayer_125 ⟨Nat.le_of_ble_eq_true rfl, Nat.le_of_ble_eq_true rfl⟩ (fun _ => Nat.le_of_ble_eq_true rfl) (fun _ => rfl) (fun u H locs hp hG => ?_)
            obtain ⟨F2_125, rfl⟩ : ∃ z, z = u := ⟨_, rfl⟩
            have hF_125 := hp
            have hF_125 : ∀ r k : Int, 0 ≤ k → k < 3 → F2_125 (r * 3 + k) = if r = ln then sel3 k qn2_23 qn2_49 0 else if ln < r ∧ r ≤ ln then LF ((r - 1) * 3 + k) else LF (r * 3 + k) := hF_125
            have hG : gW K A s.heap [gPrsC K qa tx sc qp2_69 qs2_69 qk2_69 qn2_69 qo qb 0 (-1), gBuf K tx bb n F, gScC K sc la sa ou mi bo, gTab K la lb (ln + 1) F2_125, gTabC K sa sb sn, gArr K 60 sb SF] _ _ := hG
            refine lv_aload_n S.1 S.2.1 dX2_parseLayer_128 rfl (lv_at hl 3 rfl) ?_
            refine g_invV (As := []) (rest := []) (gs' := (fun u : Int × Int × Int × Int × Int × Int => [gPrsC K qa tx sc u.1 u.2.1 u.2.2.1 u.2.2.2.1 qo qb u.2.2.2.2.1 u.2.2.2.2.2, gBuf K tx bb n F, gScC K sc la sa ou mi bo, gTab K la lb (ln + 1) F2_125, gTabC K sa sb sn, gArr K 60 sb SF])) S C hG [0, 1] (c_X2_takeSemicolon l K qa tx sc qp2_69 qs2_69 qk2_69 qn2_69 qo qb qe qf bb n F (tkE F n (tkE F n (tkE F n (tkE F n tp)))) h0 (by omega) ht4) rfl rfl 0 rfl rfl (cwV 0 S.2.2.2.2 gX2_parseLayer_X2_takeSemicolon rfl rfl rfl (by decide +kernel) ⟨Nat.le_of_ble_eq_true rfl, Nat.le_of_ble_eq_true rfl⟩) rfl hl.1 rfl (Nat.le_of_ble_eq_true rfl) dX2_parseLayer_129 ⟨Nat.le_of_ble_eq_true rfl, Nat.le_of_ble_eq_true rfl⟩ (fun _ => Nat.le_of_ble_eq_true rfl) (fun _ => rfl) (fun v u H locs hp hG => ?_)
            obtain ⟨qp2_129, qs2_129, qk2_129, qn2_129, qe2_129, qf2_129⟩ := u
            obtain ⟨rfl, he_129, ht2_129⟩ := hp
            have he_129 : ErI (smE F n (tkE F n (tkE F n (tkE F n (tkE F n tp))))) qe2_129 qf2_129 := he_129
            have ht2_129 : okE (smE F n (tkE F n (tkE F n (tkE F n (tkE F n tp))))) → TokI F n (tkE F n (tkE F n (tkE F n (tkE F n (tkE F n tp))))) qp2_129 qs2_129 qk2_129 qn2_129 := ht2_129
            have hG : gW K A s.heap [gPrsC K qa tx sc qp2_129 qs2_129 qk2_129 qn2_129 qo qb qe2_129 qf2_129, gBuf K tx bb n F, gScC K sc la sa ou mi bo, gTab K la lb (ln + 1) F2_125, gTabC K sa sb sn, gArr K 60 sb SF] _ _ := hG
            have hG : gW K A s.heap [gPrsC K qa tx sc qp2_129 qs2_129 qk2_129 qn2_129 qo qb qe2_129 qf2_129, gBuf K tx bb n F, gScn K sc la lb sa sb ou mi bo (ln + 1) F2_125 sn SF] _ _ := hG
            exact g_zret S hr hlk hQ (bI_01 _) dX2_parseLayer_132 (Nat.le_of_ble_eq_true rfl) (Nat.le_of_ble_eq_true rfl) ((qp2_129, qs2_129, qk2_129, qn2_129, qo, qb, qe2_129, qf2_129, ou, mi, bo, (ln + 1), F2_125, sn, SF) : Int × Int × Int × Int × Int × Int × Int × Int × Int × Int × Int × Int × (Int → Int) × Int × (Int → Int)) ⟨(congrArg (fun z : Int => Value.int (iI z)) (by rw [layE_n (by omega), pb_inr (numE_ok q36).1, pb_inr (wdE_ok q52).1, pb_inr (numE_ok q63).1, if_neg q81] <;> exact bI_pb _ _)), (by rw [layE_n (by omega), pb_inr (numE_ok q36).1, pb_inr (wdE_ok q52).1, pb_inr (numE_ok q63).1, if_neg q81] <;> exact erI_pb he_129), (by rw [layE_n (by omega), pb_inr (numE_ok q36).1, pb_inr (wdE_ok q52).1, pb_inr (numE_ok q63).1, if_neg q81] <;> exact StmR.pb (fun q => ⟨ht2_129 q, by omega, by rw [← ha9, ← hb9] <;> exact hS.addL hN (by omega) hF_125, hN.addL (by omega) ha8 hb8 (by omega), ⟨rfl, rfl⟩, hqo, hqb⟩))⟩ hG
          · skip
            refine lv_aload_n S.1 S.2.1 dX2_parseLayer_84 rfl (lv_at hl 3 rfl) ?_
            refine g_invVv (As := []) (rest := []) (gs' := (fun u : Int × Int × Int × Int => [gPrsC K qa tx sc u.1 u.2.1 u.2.2.1 u.2.2.2 qo qb 0 (-1), gBuf K tx bb n F, gScn K sc la lb sa sb ou mi bo ln LF sn SF])) S C hG [0, 1] (c_X2_readToken l K qa tx sc qp2_69 qs2_69 qk2_69 qn2_69 qo qb 0 (-1) bb n F h0 (by omega)) rfl rfl 0 rfl rfl (cwV 0 S.2.2.2.2 gX2_parseLayer_X2_readToken rfl rfl rfl (by decide +kernel) ⟨Nat.le_of_ble_eq_true rfl, Nat.le_of_ble_eq_true rfl⟩) rfl hl.1 rfl (Nat.le_of_ble_eq_true rfl) dX2_parseLayer_85 ⟨Nat.le_of_ble_eq_true rfl, Nat.le_of_ble_eq_true rfl⟩ (fun _ => Nat.le_of_ble_eq_true rfl) (fun _ => rfl) (fun u H locs hp hG => ?_)
            obtain ⟨qp2_85, qs2_85, qk2_85, qn2_85⟩ := u
            have ht_85 := hp
            have ht_85 : TokI F n qp2_69 qp2_85 qs2_85 qk2_85 qn2_85 := ht_85
            have hG : gW K A s.heap [gPrsC K qa tx sc qp2_85 qs2_85 qk2_85 qn2_85 qo qb 0 (-1), gBuf K tx bb n F, gScn K sc la lb sa sb ou mi bo ln LF sn SF] _ _ := hG
            have ht5 : TokI F n (tkE F n (tkE F n (tkE F n (tkE F n (tkE F n tp))))) qp2_85 qs2_85 qk2_85 qn2_85 := by rw [← w1] <;> exact ht_85
            obtain ⟨z1, z2, z3, z4⟩ := id ht5
            refine lv_aload_n S.1 S.2.1 dX2_parseLayer_88 rfl (lv_at hl 3 rfl) ?_
            refine g_iconst S dX2_parseLayer_89 ?_
            refine g_bipush S dX2_parseLayer_90 (by decide) ?_
            refine g_invV (As := [.int (iI 0), .int (iI 99)]) (rest := []) (gs' := (fun u : Int × Int => [gPrsC K qa tx sc qp2_85 qs2_85 qk2_85 qn2_85 qo qb u.1 u.2, gBuf K tx bb n F, gScn K sc la lb sa sb ou mi bo ln LF sn SF])) S C hG [0] (c_X2_isNumber l K qa tx sc qp2_85 qs2_85 qk2_85 qn2_85 qo qb qe qf bb n F (tkE F n (tkE F n (tkE F n (tkE F n (tkE F n tp))))) 0 99 h0 (by omega) ht5 (by omega) (by omega)) rfl rfl 0 rfl rfl (cwV 2 S.2.2.2.2 gX2_parseLayer_X2_isNumber rfl rfl rfl (by decide +kernel) ⟨Nat.le_of_ble_eq_true rfl, Nat.le_of_ble_eq_true rfl⟩) rfl hl.1 rfl (Nat.le_of_ble_eq_true rfl) dX2_parseLayer_92 ⟨Nat.le_of_ble_eq_true rfl, Nat.le_of_ble_eq_true rfl⟩ (fun _ => Nat.le_of_ble_eq_true rfl) (fun _ => rfl) (fun v u H locs hp hG => ?_)
            obtain ⟨qe2_92, qf2_92⟩ := u
            obtain ⟨rfl, he_92⟩ := hp
            have he_92 : ErI (numE F n (tkE F n (tkE F n (tkE F n (tkE F n (tkE F n tp))))) 0 99) qe2_92 qf2_92 := he_92
            have hG : gW K A s.heap [gPrsC K qa tx sc qp2_85 qs2_85 qk2_85 qn2_85 qo qb qe2_92 qf2_92, gBuf K tx bb n F, gScn K sc la lb sa sb ou mi bo ln LF sn SF] _ _ := hG
            refine g_ifne_b (B := (okE (numE F n (tkE F n (tkE F n (tkE F n (tkE F n (tkE F n tp))))) 0 99))) (tgt := 100) S dX2_parseLayer_95 (by decide) (fun q95 => ?_) (fun q95 => ?_)
            · skip
              obtain ⟨rfl, rfl⟩ := erI_ok q95 he_92
              have hc9 : qn2_85 = tkV F n (tkE F n (tkE F n (tkE F n (tkE F n (tkE F n tp))))) := z4 (by rw [z3] <;> exact (numE_ok q95).2.1)
              have hc8 := (numE_ok q95).2.2
              have hc7 := t6.2.1 (by rw [(numE_ok q95).2.1] <;> decide)
              refine lv_aload_n S.1 S.2.1 dX2_parseLayer_100 rfl (lv_at hl 3 rfl) ?_
              refine g_invV (As := []) (rest := []) (gs' := (fun u : Int × Int × Int × Int => [gPrsC K qa tx sc u.1 u.2.1 u.2.2.1 u.2.2.2 qo qb 0 (-1), gBuf K tx bb n F, gScn K sc la lb sa sb ou mi bo ln LF sn SF])) S C hG [0, 1] (c_X2_takeNumber l K qa tx sc qp2_85 qs2_85 qk2_85 qn2_85 qo qb 0 (-1) bb n F h0 (by omega) (by omega)) rfl rfl 0 rfl rfl (cwV 0 S.2.2.2.2 gX2_parseLayer_X2_takeNumber rfl rfl rfl (by decide +kernel) ⟨Nat.le_of_ble_eq_true rfl, Nat.le_of_ble_eq_true rfl⟩) rfl hl.1 rfl (Nat.le_of_ble_eq_true rfl) dX2_parseLayer_101 ⟨Nat.le_of_ble_eq_true rfl, Nat.le_of_ble_eq_true rfl⟩ (fun _ => Nat.le_of_ble_eq_true rfl) (fun _ => rfl) (fun v u H locs hp hG => ?_)
              obtain ⟨qp2_101, qs2_101, qk2_101, qn2_101⟩ := u
              obtain ⟨rfl, ht_101⟩ := hp
              have ht_101 : TokI F n qp2_85 qp2_101 qs2_101 qk2_101 qn2_101 := ht_101
              have hG : gW K A s.heap [gPrsC K qa tx sc qp2_101 qs2_101 qk2_101 qn2_101 qo qb 0 (-1), gBuf K tx bb n F, gScn K sc la lb sa sb ou mi bo ln LF sn SF] _ _ := hG
              have ht6 : TokI F n (tkE F n (tkE F n (tkE F n (tkE F n (tkE F n (tkE F n tp)))))) qp2_101 qs2_101 qk2_101 qn2_101 := by rw [← z1] <;> exact ht_101
              obtain ⟨f1, f2, f3, f4⟩ := id ht6
              refine lv_istore_n (lv' := [(3, .int (iI qn2_85)), (2, .int (iI qn2_49)), (1, .int (iI qn2_23)), (0, .ref qa)]) S.1 S.2.1 dX2_parseLayer_104 rfl hl (by decide) rfl (fun ls hl => ?_)
              refine lv_aload_n S.1 S.2.1 dX2_parseLayer_105 rfl (lv_at hl 3 rfl) ?_
              refine g_get S C hG iX20 0 rfl rfl 1 (by decide) (List.mem_of_getElem? (i := 1) rfl) rfl dX2_parseLayer_106 ?_
              refine g_get S C hG iX50 3 rfl rfl 0 (by decide) (List.mem_of_getElem? (i := 2) rfl) rfl dX2_parseLayer_109 ?_
              refine lv_aload_n S.1 S.2.1 dX2_parseLayer_112 rfl (lv_at hl 3 rfl) ?_
              refine g_get S C hG iX20 0 rfl rfl 1 (by decide) (List.mem_of_getElem? (i := 1) rfl) rfl dX2_parseLayer_113 ?_
              refine g_get S C hG iX50 3 rfl rfl 0 (by decide) (List.mem_of_getElem? (i := 2) rfl) rfl dX2_parseLayer_116 ?_
              refine g_get S C hG iX70 4 rfl rfl 1 (by decide) (List.mem_of_getElem? (i := 3) rfl) rfl dX2_parseLayer_119 ?_
              refine lv_iload_n S.1 S.2.1 dX2_parseLayer_122 rfl (lv_at hl 2 rfl) ?_
              refine lv_iload_n S.1 S.2.1 dX2_parseLayer_123 rfl (lv_at hl 1 rfl) ?_
              refine lv_iload_n S.1 S.2.1 dX2_parseLayer_124 rfl (lv_at hl 0 rfl) ?_
              have hG : gW K A s.heap [gPrsC K qa tx sc qp2_101 qs2_101 qk2_101 qn2_101 qo qb 0 (-1), gBuf K tx bb n F, gScC K sc la sa ou mi bo, gTab K la lb ln LF, gTabC K sa sb sn, gArr K 60 sb SF] _ _ := hG
              refine g_invVv (As := [.int (iI ln), .int (iI qn2_23), .int (iI qn2_49), .int (iI qn2_85)]) (rest := []) (gs' := (fun u : (Int → Int) => [gPrsC K qa tx sc qp2_101 qs2_101 qk2_101 qn2_101 qo qb 0 (-1), gBuf K tx bb n F, gScC K sc la sa ou mi bo, gTab K la lb (ln + 1) u, gTabC K sa sb sn, gArr K 60 sb SF])) S C hG [3] (c_X7_insert l K la lb ln LF ln qn2_23 qn2_49 qn2_85 (by omega) (by omega)) rfl rfl 0 rfl rfl (cwV 4 S.2.2.2.2 gX2_parseLayer_X7_insert rfl rfl rfl (by decide +kernel) ⟨Nat.le_of_ble_eq_true rfl, Nat.le_of_ble_eq_true rfl⟩) rfl hl.1 rfl (Nat.le_of_ble_eq_true rfl) dX2_parseLayer_125 ⟨Nat.le_of_ble_eq_true rfl, Nat.le_of_ble_eq_true rfl⟩ (fun _ => Nat.le_of_ble_eq_true rfl) (fun _ => rfl) (fun u H locs hp hG => ?_)
              obtain ⟨F2_125, rfl⟩ : ∃ z, z = u := ⟨_, rfl⟩
              have hF_125 := hp
              have hF_125 : ∀ r k : Int, 0 ≤ k → k < 3 → F2_125 (r * 3 + k) = if r = ln then sel3 k qn2_23 qn2_49 qn2_85 else if ln < r ∧ r ≤ ln then LF ((r - 1) * 3 + k) else LF (r * 3 + k) := hF_125
              have hG : gW K A s.heap [gPrsC K qa tx sc qp2_101 qs2_101 qk2_101 qn2_101 qo qb 0 (-1), gBuf K tx bb n F, gScC K sc la sa ou mi bo, gTab K la lb (ln + 1) F2_125, gTabC K sa sb sn, gArr K 60 sb SF] _ _ := hG
              refine lv_aload_n S.1 S.2.1 dX2_parseLayer_128 rfl (lv_at hl 3 rfl) ?_
              refine g_invV (As := []) (rest := []) (gs' := (fun u : Int × Int × Int × Int × Int × Int => [gPrsC K qa tx sc u.1 u.2.1 u.2.2.1 u.2.2.2.1 qo qb u.2.2.2.2.1 u.2.2.2.2.2, gBuf K tx bb n F, gScC K sc la sa ou mi bo, gTab K la lb (ln + 1) F2_125, gTabC K sa sb sn, gArr K 60 sb SF])) S C hG [0, 1] (c_X2_takeSemicolon l K qa tx sc qp2_101 qs2_101 qk2_101 qn2_101 qo qb qe qf bb n F (tkE F n (tkE F n (tkE F n (tkE F n (tkE F n (tkE F n tp)))))) h0 (by omega) ht6) rfl rfl 0 rfl rfl (cwV 0 S.2.2.2.2 gX2_parseLayer_X2_takeSemicolon rfl rfl rfl (by decide +kernel) ⟨Nat.le_of_ble_eq_true rfl, Nat.le_of_ble_eq_true rfl⟩) rfl hl.1 rfl (Nat.le_of_ble_eq_true rfl) dX2_parseLayer_129 ⟨Nat.le_of_ble_eq_true rfl, Nat.le_of_ble_eq_true rfl⟩ (fun _ => Nat.le_of_ble_eq_true rfl) (fun _ => rfl) (fun v u H locs hp hG => ?_)
              obtain ⟨qp2_129, qs2_129, qk2_129, qn2_129, qe2_129, qf2_129⟩ := u
              obtain ⟨rfl, he_129, ht2_129⟩ := hp
              have he_129 : ErI (smE F n (tkE F n (tkE F n (tkE F n (tkE F n (tkE F n (tkE F n tp))))))) qe2_129 qf2_129 := he_129
              have ht2_129 : okE (smE F n (tkE F n (tkE F n (tkE F n (tkE F n (tkE F n (tkE F n tp))))))) → TokI F n (tkE F n (tkE F n (tkE F n (tkE F n (tkE F n (tkE F n (tkE F n tp))))))) qp2_129 qs2_129 qk2_129 qn2_129 := ht2_129
              have hG : gW K A s.heap [gPrsC K qa tx sc qp2_129 qs2_129 qk2_129 qn2_129 qo qb qe2_129 qf2_129, gBuf K tx bb n F, gScC K sc la sa ou mi bo, gTab K la lb (ln + 1) F2_125, gTabC K sa sb sn, gArr K 60 sb SF] _ _ := hG
              have hG : gW K A s.heap [gPrsC K qa tx sc qp2_129 qs2_129 qk2_129 qn2_129 qo qb qe2_129 qf2_129, gBuf K tx bb n F, gScn K sc la lb sa sb ou mi bo (ln + 1) F2_125 sn SF] _ _ := hG
              exact g_zret S hr hlk hQ (bI_01 _) dX2_parseLayer_132 (Nat.le_of_ble_eq_true rfl) (Nat.le_of_ble_eq_true rfl) ((qp2_129, qs2_129, qk2_129, qn2_129, qo, qb, qe2_129, qf2_129, ou, mi, bo, (ln + 1), F2_125, sn, SF) : Int × Int × Int × Int × Int × Int × Int × Int × Int × Int × Int × Int × (Int → Int) × Int × (Int → Int)) ⟨(congrArg (fun z : Int => Value.int (iI z)) (by rw [layE_n (by omega), pb_inr (numE_ok q36).1, pb_inr (wdE_ok q52).1, pb_inr (numE_ok q63).1, if_pos q81, pb_inr (numE_ok q95).1] <;> exact bI_pb _ _)), (by rw [layE_n (by omega), pb_inr (numE_ok q36).1, pb_inr (wdE_ok q52).1, pb_inr (numE_ok q63).1, if_pos q81, pb_inr (numE_ok q95).1] <;> exact erI_pb he_129), (by rw [layE_n (by omega), pb_inr (numE_ok q36).1, pb_inr (wdE_ok q52).1, pb_inr (numE_ok q63).1, if_pos q81, pb_inr (numE_ok q95).1] <;> exact StmR.pb (fun q => ⟨ht2_129 q, by omega, by rw [← ha9, ← hb9, ← hc9] <;> exact hS.addL hN (by omega) hF_125, hN.addL (by omega) ha8 hb8 hc8, ⟨rfl, rfl⟩, hqo, hqb⟩))⟩ hG
            · skip
              refine g_iconst S dX2_parseLayer_98 ?_
              have hG : gW K A s.heap [gPrsC K qa tx sc qp2_85 qs2_85 qk2_85 qn2_85 qo qb qe2_92 qf2_92, gBuf K tx bb n F, gScn K sc la lb sa sb ou mi bo ln LF sn SF] _ _ := hG
              exact g_zret S hr hlk hQ (Or.inl rfl) dX2_parseLayer_99 (Nat.le_of_ble_eq_true rfl) (Nat.le_of_ble_eq_true rfl) ((qp2_85, qs2_85, qk2_85, qn2_85, qo, qb, qe2_92, qf2_92, ou, mi, bo, ln, LF, sn, SF) : Int × Int × Int × Int × Int × Int × Int × Int × Int × Int × Int × Int × (Int → Int) × Int × (Int → Int)) ⟨(congrArg (fun z : Int => Value.int (iI z)) (bI_f (by rw [layE_n (by omega), pb_inr (numE_ok q36).1, pb_inr (wdE_ok q52).1, pb_inr (numE_ok q63).1, if_pos q81] <;> exact (pb_no q95 he_92).1)).symm), (by rw [layE_n (by omega), pb_inr (numE_ok q36).1, pb_inr (wdE_ok q52).1, pb_inr (numE_ok q63).1, if_pos q81] <;> exact (pb_no q95 he_92).2), (StmR.no (by rw [layE_n (by omega), pb_inr (numE_ok q36).1, pb_inr (wdE_ok q52).1, pb_inr (numE_ok q63).1, if_pos q81] <;> exact (pb_no q95 he_92).1))⟩ hG
        · skip
          refine g_iconst S dX2_parseLayer_66 ?_
          have hG : gW K A s.heap [gPrsC K qa tx sc qp2_49 qs2_49 qk2_49 qn2_49 qo qb qe2_60 qf2_60, gBuf K tx bb n F, gScn K sc la lb sa sb ou mi bo ln LF sn SF] _ _ := hG
          exact g_zret S hr hlk hQ (Or.inl rfl) dX2_parseLayer_67 (Nat.le_of_ble_eq_true rfl) (Nat.le_of_ble_eq_true rfl) ((qp2_49, qs2_49, qk2_49, qn2_49, qo, qb, qe2_60, qf2_60, ou, mi, bo, ln, LF, sn, SF) : Int × Int × Int × Int × Int × Int × Int × Int × Int × Int × Int × Int × (Int → Int) × Int × (Int → Int)) ⟨(congrArg (fun z : Int => Value.int (iI z)) (bI_f (by rw [layE_n (by omega), pb_inr (numE_ok q36).1, pb_inr (wdE_ok q52).1] <;> exact (pb_no q63 he_60).1)).symm), (by rw [layE_n (by omega), pb_inr (numE_ok q36).1, pb_inr (wdE_ok q52).1] <;> exact (pb_no q63 he_60).2), (StmR.no (by rw [layE_n (by omega), pb_inr (numE_ok q36).1, pb_inr (wdE_ok q52).1] <;> exact (pb_no q63 he_60).1))⟩ hG
    · skip
      refine g_iconst S dX2_parseLayer_39 ?_
      have hG : gW K A s.heap [gPrsC K qa tx sc qp2_23 qs2_23 qk2_23 qn2_23 qo qb qe2_33 qf2_33, gBuf K tx bb n F, gScn K sc la lb sa sb ou mi bo ln LF sn SF] _ _ := hG
      exact g_zret S hr hlk hQ (Or.inl rfl) dX2_parseLayer_40 (Nat.le_of_ble_eq_true rfl) (Nat.le_of_ble_eq_true rfl) ((qp2_23, qs2_23, qk2_23, qn2_23, qo, qb, qe2_33, qf2_33, ou, mi, bo, ln, LF, sn, SF) : Int × Int × Int × Int × Int × Int × Int × Int × Int × Int × Int × Int × (Int → Int) × Int × (Int → Int)) ⟨(congrArg (fun z : Int => Value.int (iI z)) (bI_f (by rw [layE_n (by omega)] <;> exact (pb_no q36 he_33).1)).symm), (by rw [layE_n (by omega)] <;> exact (pb_no q36 he_33).2), (StmR.no (by rw [layE_n (by omega)] <;> exact (pb_no q36 he_33).1))⟩ hG
  · skip
    refine lv_aload_n S.1 S.2.1 dX2_parseLayer_15 rfl (lv_at hl 0 rfl) ?_
    refine g_bipush S dX2_parseLayer_16 (by decide) ?_
    refine g_invV (As := [.int (iI 6)]) (rest := []) (gs' := (fun u : Unit => [gPrsC K qa tx sc qp qs qk qn qo qb 6 qs, gBuf K tx bb n F, gScn K sc la lb sa sb ou mi bo ln LF sn SF])) S C hG [0] (c_X2_fail l K qa tx sc qp qs qk qn qo qb 0 (-1) 6) rfl rfl 0 rfl rfl (cwV 1 S.2.2.2.2 gX2_parseLayer_X2_fail rfl rfl rfl (by decide +kernel) ⟨Nat.le_of_ble_eq_true rfl, Nat.le_of_ble_eq_true rfl⟩) rfl hl.1 rfl (Nat.le_of_ble_eq_true rfl) dX2_parseLayer_18 ⟨Nat.le_of_ble_eq_true rfl, Nat.le_of_ble_eq_true rfl⟩ (fun _ => Nat.le_of_ble_eq_true rfl) (fun _ => rfl) (fun v u H locs hp hG => ?_)
    subst hp
    have hG : gW K A s.heap [gPrsC K qa tx sc qp qs qk qn qo qb 6 qs, gBuf K tx bb n F, gScn K sc la lb sa sb ou mi bo ln LF sn SF] _ _ := hG
    exact g_zret S hr hlk hQ (Or.inl rfl) dX2_parseLayer_21 (Nat.le_of_ble_eq_true rfl) (Nat.le_of_ble_eq_true rfl) ((qp, qs, qk, qn, qo, qb, 6, qs, ou, mi, bo, ln, LF, sn, SF) : Int × Int × Int × Int × Int × Int × Int × Int × Int × Int × Int × Int × (Int → Int) × Int × (Int → Int)) ⟨(congrArg (fun z : Int => Value.int (iI z)) (bI_f (by rw [layE_6 (by omega)] <;> exact (fl_er F n tp 6).1)).symm), (by rw [layE_6 (by omega)] <;> exact ⟨rfl, x2⟩), (StmR.no (by rw [layE_6 (by omega)] <;> exact (fl_er F n tp 6).1))⟩ hG
