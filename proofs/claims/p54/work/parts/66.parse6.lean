set_option maxHeartbeats 1000000 in
set_option maxRecDepth 100000 in
theorem c_X2_parseShot (l : Launch) (K : KC) (qa : Nat) (tx : Nat) (sc : Nat) (qp : Int) (qs : Int) (qk : Int) (qn : Int) (qo : Int) (qb : Int) (qe : Int) (qf : Int) (bb : Nat) (n : Int) (F : Int → Int) (la : Nat) (lb : Nat) (sa : Nat) (sb : Nat) (ou : Int) (mi : Int) (bo : Int) (ln : Int) (LF : Int → Int) (sn : Int) (SF : Int → Int) (N : Int → Int) (tp : Int) (h0 : 0 ≤ n ∧ n ≤ 400) (h1 : 0 ≤ tp ∧ tp ≤ n) (htk : TokI F n tp qp qs qk qn) (hS : ScOk N ou mi bo ln LF sn SF) (hN : NOk0 N) (hqo : qo = 0 ∨ qo = 1) (hqb : qb = 0 ∨ qb = 1) : mG l yX2_parseShot wsX2_parseShot 5 107 K [.ref qa] [gPrsC K qa tx sc qp qs qk qn qo qb 0 (-1), gBuf K tx bb n F, gScn K sc la lb sa sb ou mi bo ln LF sn SF] (fun (v : Value) (u : Int × Int × Int × Int × Int × Int × Int × Int × Int × Int × Int × Int × (Int → Int) × Int × (Int → Int)) => (v = .int (iI (bI (okE (shoE F n tp N qo qb))))) ∧ (ErI (shoE F n tp N qo qb) u.2.2.2.2.2.2.1 u.2.2.2.2.2.2.2.1) ∧ (StmR F n tp (shoE F n tp N qo qb) u.1 u.2.1 u.2.2.1 u.2.2.2.1 u.2.2.2.2.1 u.2.2.2.2.2.1 u.2.2.2.2.2.2.2.2.1 u.2.2.2.2.2.2.2.2.2.1 u.2.2.2.2.2.2.2.2.2.2.1 u.2.2.2.2.2.2.2.2.2.2.2.1 u.2.2.2.2.2.2.2.2.2.2.2.2.1 u.2.2.2.2.2.2.2.2.2.2.2.2.2.1 u.2.2.2.2.2.2.2.2.2.2.2.2.2.2)) (fun (u : Int × Int × Int × Int × Int × Int × Int × Int × Int × Int × Int × Int × (Int → Int) × Int × (Int → Int)) => [gPrsC K qa tx sc u.1 u.2.1 u.2.2.1 u.2.2.2.1 u.2.2.2.2.1 u.2.2.2.2.2.1 u.2.2.2.2.2.2.1 u.2.2.2.2.2.2.2.1, gBuf K tx bb n F, gScn K sc la lb sa sb u.2.2.2.2.2.2.2.2.1 u.2.2.2.2.2.2.2.2.2.1 u.2.2.2.2.2.2.2.2.2.2.1 u.2.2.2.2.2.2.2.2.2.2.2.1 u.2.2.2.2.2.2.2.2.2.2.2.2.1 u.2.2.2.2.2.2.2.2.2.2.2.2.2.1 u.2.2.2.2.2.2.2.2.2.2.2.2.2.2]) 0 0 := by
  refine mG_of cX2_parseShot 3 (by decide) rfl (Nat.le_of_ble_eq_true rfl) ?_
  intro p e s m below meth c A ls Q S C hG hl hr hlk hin hQ
  have S : CallFix p m c cX2_parseShot 3 s ([.ref qa] : List Value).toArray wsX2_parseShot RX2 := S
  have iX20 : ∀ w ∈ wsX20, w ∈ wsX2_parseShot := fun _ h => List.mem_cons_of_mem _ (List.mem_append_left _ (List.mem_append_left _ (List.mem_append_left _ (List.mem_append_left _ (List.mem_append_right _ (h))))))
  have iX50 : ∀ w ∈ wsX50, w ∈ wsX2_parseShot := fun _ h => List.mem_cons_of_mem _ (List.mem_append_left _ (List.mem_append_left _ (List.mem_append_left _ (List.mem_append_right _ (h)))))
  have iX70 : ∀ w ∈ wsX70, w ∈ wsX2_parseShot := fun _ h => List.mem_cons_of_mem _ (List.mem_append_left _ (List.mem_append_left _ (List.mem_append_right _ (h))))
  have iX00 : ∀ w ∈ wsX00, w ∈ wsX2_parseShot := fun _ h => List.mem_cons_of_mem _ (List.mem_append_left _ (List.mem_append_right _ (h)))
  have hl : lv_has ls 3 [(0, .ref qa)] := hl
  have hG : gW K A s.heap [gPrsC K qa tx sc qp qs qk qn qo qb 0 (-1), gBuf K tx bb n F, gScn K sc la lb sa sb ou mi bo ln LF sn SF] s.heap [] := hG
  obtain ⟨x1, x2, x3, x4⟩ := id htk
  have xb := htk.bd h1.1 h1.2
  have t1 := tk_bd F h1.1 h1.2
  have t2 := tk_bd F (n := n) (i := tkE F n tp) (by omega) (by omega)
  have t3 := tk_bd F (n := n) (i := tkE F n (tkE F n tp)) (by omega) (by omega)
  have t4 := tk_bd F (n := n) (i := tkE F n (tkE F n (tkE F n tp))) (by omega) (by omega)
  have t5 := tk_bd F (n := n) (i := tkE F n (tkE F n (tkE F n (tkE F n tp)))) (by omega) (by omega)
  have t6 := tk_bd F (n := n) (i := tkE F n (tkE F n (tkE F n (tkE F n (tkE F n tp))))) (by omega) (by omega)
  have t7 := tk_bd F (n := n) (i := tkE F n (tkE F n (tkE F n (tkE F n (tkE F n (tkE F n tp)))))) (by omega) (by omega)
  obtain ⟨e0, e1, e2, e3, e4, e5, e6⟩ := id hS
  obtain ⟨n0, n1, n2, n3, n4, n5⟩ := id hN
  refine lv_aload_n S.1 S.2.1 dX2_parseShot_0 rfl (lv_at hl 0 rfl) ?_
  refine g_get S C hG iX20 0 rfl rfl 1 (by decide) (List.mem_of_getElem? (i := 1) rfl) rfl dX2_parseShot_1 ?_
  refine g_get S C hG iX50 3 rfl rfl 1 (by decide) (List.mem_of_getElem? (i := 2) rfl) rfl dX2_parseShot_4 ?_
  refine g_get S C hG iX70 6 rfl rfl 1 (by decide) (List.mem_of_getElem? (i := 3) rfl) rfl dX2_parseShot_7 ?_
  refine g_bipush S dX2_parseShot_10 (by decide) ?_
  refine g_icmp_lt (tgt := 22) S dX2_parseShot_12 (by decide) (by omega) (by omega) (fun q12 => ?_) (fun q12 => ?_)
  · skip
    refine lv_aload_n S.1 S.2.1 dX2_parseShot_22 rfl (lv_at hl 0 rfl) ?_
    refine g_invVv (As := []) (rest := []) (gs' := (fun u : Int × Int × Int × Int => [gPrsC K qa tx sc u.1 u.2.1 u.2.2.1 u.2.2.2 qo qb 0 (-1), gBuf K tx bb n F, gScn K sc la lb sa sb ou mi bo ln LF sn SF])) S C hG [0, 1] (c_X2_readToken l K qa tx sc qp qs qk qn qo qb 0 (-1) bb n F h0 (by omega)) rfl rfl 0 rfl rfl (cwV 0 S.2.2.2.2 gX2_parseShot_X2_readToken rfl rfl rfl (by decide +kernel) ⟨Nat.le_of_ble_eq_true rfl, Nat.le_of_ble_eq_true rfl⟩) rfl hl.1 rfl (Nat.le_of_ble_eq_true rfl) dX2_parseShot_23 ⟨Nat.le_of_ble_eq_true rfl, Nat.le_of_ble_eq_true rfl⟩ (fun _ => Nat.le_of_ble_eq_true rfl) (fun _ => rfl) (fun u H locs hp hG => ?_)
    obtain ⟨qp2_23, qs2_23, qk2_23, qn2_23⟩ := u
    have ht_23 := hp
    have ht_23 : TokI F n qp qp2_23 qs2_23 qk2_23 qn2_23 := ht_23
    have hG : gW K A s.heap [gPrsC K qa tx sc qp2_23 qs2_23 qk2_23 qn2_23 qo qb 0 (-1), gBuf K tx bb n F, gScn K sc la lb sa sb ou mi bo ln LF sn SF] _ _ := hG
    have ht1 : TokI F n (tkE F n tp) qp2_23 qs2_23 qk2_23 qn2_23 := by rw [← x1] <;> exact ht_23
    obtain ⟨y1, y2, y3, y4⟩ := id ht1
    refine lv_aload_n S.1 S.2.1 dX2_parseShot_26 rfl (lv_at hl 0 rfl) ?_
    refine g_iconst S dX2_parseShot_27 ?_
    refine g_bipush S dX2_parseShot_28 (by decide) ?_
    refine g_invV (As := [.int (iI 0), .int (iI 9)]) (rest := []) (gs' := (fun u : Int × Int => [gPrsC K qa tx sc qp2_23 qs2_23 qk2_23 qn2_23 qo qb u.1 u.2, gBuf K tx bb n F, gScn K sc la lb sa sb ou mi bo ln LF sn SF])) S C hG [0] (c_X2_isNumber l K qa tx sc qp2_23 qs2_23 qk2_23 qn2_23 qo qb qe qf bb n F (tkE F n tp) 0 9 h0 (by omega) ht1 (by omega) (by omega)) rfl rfl 0 rfl rfl (cwV 2 S.2.2.2.2 gX2_parseShot_X2_isNumber rfl rfl rfl (by decide +kernel) ⟨Nat.le_of_ble_eq_true rfl, Nat.le_of_ble_eq_true rfl⟩) rfl hl.1 rfl (Nat.le_of_ble_eq_true rfl) dX2_parseShot_30 ⟨Nat.le_of_ble_eq_true rfl, Nat.le_of_ble_eq_true rfl⟩ (fun _ => Nat.le_of_ble_eq_true rfl) (fun _ => rfl) (fun v u H locs hp hG => ?_)
    obtain ⟨qe2_30, qf2_30⟩ := u
    obtain ⟨rfl, he_30⟩ := hp
    have he_30 : ErI (numE F n (tkE F n tp) 0 9) qe2_30 qf2_30 := he_30
    have hG : gW K A s.heap [gPrsC K qa tx sc qp2_23 qs2_23 qk2_23 qn2_23 qo qb qe2_30 qf2_30, gBuf K tx bb n F, gScn K sc la lb sa sb ou mi bo ln LF sn SF] _ _ := hG
    refine g_ifne_b (B := (okE (numE F n (tkE F n tp) 0 9))) (tgt := 38) S dX2_parseShot_33 (by decide) (fun q33 => ?_) (fun q33 => ?_)
    · skip
      obtain ⟨rfl, rfl⟩ := erI_ok q33 he_30
      have ha9 : qn2_23 = tkV F n (tkE F n tp) := y4 (by rw [y3] <;> exact (numE_ok q33).2.1)
      have ha8 := (numE_ok q33).2.2
      have ha7 := t2.2.1 (by rw [(numE_ok q33).2.1] <;> decide)
      refine lv_aload_n S.1 S.2.1 dX2_parseShot_38 rfl (lv_at hl 0 rfl) ?_
      refine g_get S C hG iX20 0 rfl rfl 1 (by decide) (List.mem_of_getElem? (i := 1) rfl) rfl dX2_parseShot_39 ?_
      refine g_get S C hG iX50 3 rfl rfl 0 (by decide) (List.mem_of_getElem? (i := 4) rfl) rfl dX2_parseShot_42 ?_
      refine lv_aload_n S.1 S.2.1 dX2_parseShot_45 rfl (lv_at hl 0 rfl) ?_
      refine g_get S C hG iX20 0 rfl rfl 5 (by decide) (List.mem_of_getElem? (i := 5) rfl) rfl dX2_parseShot_46 ?_
      have hG : gW K A s.heap [gPrsC K qa tx sc qp2_23 qs2_23 qk2_23 qn2_23 qo qb 0 (-1), gBuf K tx bb n F, gScC K sc la sa ou mi bo, gTab K la lb ln LF, gTabC K sa sb sn, gArr K 60 sb SF] _ _ := hG
      refine g_invV (As := [.int (iI qn2_23)]) (rest := []) (gs' := (fun u : Unit => [gPrsC K qa tx sc qp2_23 qs2_23 qk2_23 qn2_23 qo qb 0 (-1), gBuf K tx bb n F, gScC K sc la sa ou mi bo, gTab K la lb ln LF, gTabC K sa sb sn, gArr K 60 sb SF])) S C hG [3] (c_X7_has l K la lb ln LF qn2_23 (by omega) (by omega)) rfl rfl 0 rfl rfl (cwV 1 S.2.2.2.2 gX2_parseShot_X7_has rfl rfl rfl (by decide +kernel) ⟨Nat.le_of_ble_eq_true rfl, Nat.le_of_ble_eq_true rfl⟩) rfl hl.1 rfl (Nat.le_of_ble_eq_true rfl) dX2_parseShot_49 ⟨Nat.le_of_ble_eq_true rfl, Nat.le_of_ble_eq_true rfl⟩ (fun _ => Nat.le_of_ble_eq_true rfl) (fun _ => rfl) (fun v u H locs hp hG => ?_)
      subst hp
      refine g_ifne_b (B := (0 ≤ qn2_23 ∧ qn2_23 < ln)) (tgt := 61) S dX2_parseShot_52 (by decide) (fun q52 => ?_) (fun q52 => ?_)
      · skip
        refine lv_aload_n S.1 S.2.1 dX2_parseShot_61 rfl (lv_at hl 0 rfl) ?_
        refine g_invV (As := []) (rest := []) (gs' := (fun u : Int × Int × Int × Int => [gPrsC K qa tx sc u.1 u.2.1 u.2.2.1 u.2.2.2 qo qb 0 (-1), gBuf K tx bb n F, gScC K sc la sa ou mi bo, gTab K la lb ln LF, gTabC K sa sb sn, gArr K 60 sb SF])) S C hG [0, 1] (c_X2_takeNumber l K qa tx sc qp2_23 qs2_23 qk2_23 qn2_23 qo qb 0 (-1) bb n F h0 (by omega) (by omega)) rfl rfl 0 rfl rfl (cwV 0 S.2.2.2.2 gX2_parseShot_X2_takeNumber rfl rfl rfl (by decide +kernel) ⟨Nat.le_of_ble_eq_true rfl, Nat.le_of_ble_eq_true rfl⟩) rfl hl.1 rfl (Nat.le_of_ble_eq_true rfl) dX2_parseShot_62 ⟨Nat.le_of_ble_eq_true rfl, Nat.le_of_ble_eq_true rfl⟩ (fun _ => Nat.le_of_ble_eq_true rfl) (fun _ => rfl) (fun v u H locs hp hG => ?_)
        obtain ⟨qp2_62, qs2_62, qk2_62, qn2_62⟩ := u
        obtain ⟨rfl, ht_62⟩ := hp
        have ht_62 : TokI F n qp2_23 qp2_62 qs2_62 qk2_62 qn2_62 := ht_62
        have hG : gW K A s.heap [gPrsC K qa tx sc qp2_62 qs2_62 qk2_62 qn2_62 qo qb 0 (-1), gBuf K tx bb n F, gScC K sc la sa ou mi bo, gTab K la lb ln LF, gTabC K sa sb sn, gArr K 60 sb SF] _ _ := hG
        have ht2 : TokI F n (tkE F n (tkE F n tp)) qp2_62 qs2_62 qk2_62 qn2_62 := by rw [← y1] <;> exact ht_62
        obtain ⟨u1, u2, u3, u4⟩ := id ht2
        refine lv_istore_n (lv' := [(1, .int (iI qn2_23)), (0, .ref qa)]) S.1 S.2.1 dX2_parseShot_65 rfl hl (by decide) rfl (fun ls hl => ?_)
        refine lv_aload_n S.1 S.2.1 dX2_parseShot_66 rfl (lv_at hl 1 rfl) ?_
        refine va_ldcS (q := K.2.2.2.1 8) S.1 S.2.1 S.2.2.2.1 (C.1.2.2.1 _ (List.mem_of_getElem? (l := strW) (i := 8) rfl)) dX2_parseShot_67 ?_
        refine g_invV (As := [.ref (K.2.2.2.1 8)]) (rest := []) (gs' := (fun u : Unit => [gPrsC K qa tx sc qp2_62 qs2_62 qk2_62 qn2_62 qo qb 0 (-1), gBuf K tx bb n F, gScC K sc la sa ou mi bo, gTab K la lb ln LF, gTabC K sa sb sn, gArr K 60 sb SF])) S C hG [0, 1] (c_X2_isWord l K qa tx sc qp2_62 qs2_62 qk2_62 qn2_62 qo qb 0 (-1) bb n F (tkE F n (tkE F n tp)) 8 wDown h0 (by omega) ht2 tx_down (by decide)) rfl rfl 0 rfl rfl (cwV 1 S.2.2.2.2 gX2_parseShot_X2_isWord rfl rfl rfl (by decide +kernel) ⟨Nat.le_of_ble_eq_true rfl, Nat.le_of_ble_eq_true rfl⟩) rfl hl.1 rfl (Nat.le_of_ble_eq_true rfl) dX2_parseShot_69 ⟨Nat.le_of_ble_eq_true rfl, Nat.le_of_ble_eq_true rfl⟩ (fun _ => Nat.le_of_ble_eq_true rfl) (fun _ => rfl) (fun v u H locs hp hG => ?_)
        subst hp
        refine lv_istore_n (lv' := [(2, .int (iI (bI (isWd F n (tkE F n (tkE F n tp)) wDown)))), (1, .int (iI qn2_23)), (0, .ref qa)]) S.1 S.2.1 dX2_parseShot_72 rfl hl (by decide) rfl (fun ls hl => ?_)
        refine lv_iload_n S.1 S.2.1 dX2_parseShot_73 rfl (lv_at hl 0 rfl) ?_
        refine g_ifne_b (B := (isWd F n (tkE F n (tkE F n tp)) wDown)) (tgt := 92) S dX2_parseShot_74 (by decide) (fun q74 => ?_) (fun q74 => ?_)
        · skip
          refine lv_aload_n S.1 S.2.1 dX2_parseShot_92 rfl (lv_at hl 2 rfl) ?_
          refine g_invVv (As := []) (rest := []) (gs' := (fun u : Int × Int × Int × Int => [gPrsC K qa tx sc u.1 u.2.1 u.2.2.1 u.2.2.2 qo qb 0 (-1), gBuf K tx bb n F, gScC K sc la sa ou mi bo, gTab K la lb ln LF, gTabC K sa sb sn, gArr K 60 sb SF])) S C hG [0, 1] (c_X2_readToken l K qa tx sc qp2_62 qs2_62 qk2_62 qn2_62 qo qb 0 (-1) bb n F h0 (by omega)) rfl rfl 0 rfl rfl (cwV 0 S.2.2.2.2 gX2_parseShot_X2_readToken rfl rfl rfl (by decide +kernel) ⟨Nat.le_of_ble_eq_true rfl, Nat.le_of_ble_eq_true rfl⟩) rfl hl.1 rfl (Nat.le_of_ble_eq_true rfl) dX2_parseShot_93 ⟨Nat.le_of_ble_eq_true rfl, Nat.le_of_ble_eq_true rfl⟩ (fun _ => Nat.le_of_ble_eq_true rfl) (fun _ => rfl) (fun u H locs hp hG => ?_)
          obtain ⟨qp2_93, qs2_93, qk2_93, qn2_93⟩ := u
          have ht_93 := hp
          have ht_93 : TokI F n qp2_62 qp2_93 qs2_93 qk2_93 qn2_93 := ht_93
          have hG : gW K A s.heap [gPrsC K qa tx sc qp2_93 qs2_93 qk2_93 qn2_93 qo qb 0 (-1), gBuf K tx bb n F, gScC K sc la sa ou mi bo, gTab K la lb ln LF, gTabC K sa sb sn, gArr K 60 sb SF] _ _ := hG
          have ht3 : TokI F n (tkE F n (tkE F n (tkE F n tp))) qp2_93 qs2_93 qk2_93 qn2_93 := by rw [← u1] <;> exact ht_93
          obtain ⟨v1, v2, v3, v4⟩ := id ht3
          refine lv_aload_n S.1 S.2.1 dX2_parseShot_96 rfl (lv_at hl 2 rfl) ?_
          refine g_iconst S dX2_parseShot_97 ?_
          refine g_sipush S dX2_parseShot_98 (by decide) ?_
          refine g_invV (As := [.int (iI 0), .int (iI 3999)]) (rest := []) (gs' := (fun u : Int × Int => [gPrsC K qa tx sc qp2_93 qs2_93 qk2_93 qn2_93 qo qb u.1 u.2, gBuf K tx bb n F, gScC K sc la sa ou mi bo, gTab K la lb ln LF, gTabC K sa sb sn, gArr K 60 sb SF])) S C hG [0] (c_X2_isNumber l K qa tx sc qp2_93 qs2_93 qk2_93 qn2_93 qo qb qe qf bb n F (tkE F n (tkE F n (tkE F n tp))) 0 3999 h0 (by omega) ht3 (by omega) (by omega)) rfl rfl 0 rfl rfl (cwV 2 S.2.2.2.2 gX2_parseShot_X2_isNumber rfl rfl rfl (by decide +kernel) ⟨Nat.le_of_ble_eq_true rfl, Nat.le_of_ble_eq_true rfl⟩) rfl hl.1 rfl (Nat.le_of_ble_eq_true rfl) dX2_parseShot_101 ⟨Nat.le_of_ble_eq_true rfl, Nat.le_of_ble_eq_true rfl⟩ (fun _ => Nat.le_of_ble_eq_true rfl) (fun _ => rfl) (fun v u H locs hp hG => ?_)
          obtain ⟨qe2_101, qf2_101⟩ := u
          obtain ⟨rfl, he_101⟩ := hp
          have he_101 : ErI (numE F n (tkE F n (tkE F n (tkE F n tp))) 0 3999) qe2_101 qf2_101 := he_101
          have hG : gW K A s.heap [gPrsC K qa tx sc qp2_93 qs2_93 qk2_93 qn2_93 qo qb qe2_101 qf2_101, gBuf K tx bb n F, gScC K sc la sa ou mi bo, gTab K la lb ln LF, gTabC K sa sb sn, gArr K 60 sb SF] _ _ := hG
          refine g_ifne_b (B := (okE (numE F n (tkE F n (tkE F n (tkE F n tp))) 0 3999))) (tgt := 109) S dX2_parseShot_104 (by decide) (fun q104 => ?_) (fun q104 => ?_)
          · skip
            obtain ⟨rfl, rfl⟩ := erI_ok q104 he_101
            have hb9 : qn2_93 = tkV F n (tkE F n (tkE F n (tkE F n tp))) := v4 (by rw [v3] <;> exact (numE_ok q104).2.1)
            have hb8 := (numE_ok q104).2.2
            have hb7 := t4.2.1 (by rw [(numE_ok q104).2.1] <;> decide)
            refine lv_aload_n S.1 S.2.1 dX2_parseShot_109 rfl (lv_at hl 2 rfl) ?_
            refine g_get S C hG iX20 0 rfl rfl 1 (by decide) (List.mem_of_getElem? (i := 1) rfl) rfl dX2_parseShot_110 ?_
            refine lv_iload_n S.1 S.2.1 dX2_parseShot_113 rfl (lv_at hl 1 rfl) ?_
            refine lv_aload_n S.1 S.2.1 dX2_parseShot_114 rfl (lv_at hl 2 rfl) ?_
            refine g_get S C hG iX20 0 rfl rfl 5 (by decide) (List.mem_of_getElem? (i := 5) rfl) rfl dX2_parseShot_115 ?_
            have hG : gW K A s.heap [gPrsC K qa tx sc qp2_93 qs2_93 qk2_93 qn2_93 qo qb 0 (-1), gBuf K tx bb n F, gScn K sc la lb sa sb ou mi bo ln LF sn SF] _ _ := hG
            refine g_invV (As := [.int (iI qn2_23), .int (iI qn2_93)]) (rest := []) (gs' := (fun u : Unit => [gPrsC K qa tx sc qp2_93 qs2_93 qk2_93 qn2_93 qo qb 0 (-1), gBuf K tx bb n F, gScn K sc la lb sa sb ou mi bo ln LF sn SF])) S C hG [2] (c_X5_canBegin l K sc la lb sa sb ou mi bo ln LF sn SF N qn2_23 qn2_93 hS hN (by omega) (by omega)) rfl rfl 0 rfl rfl (cwV 2 S.2.2.2.2 gX2_parseShot_X5_canBegin rfl rfl rfl (by decide +kernel) ⟨Nat.le_of_ble_eq_true rfl, Nat.le_of_ble_eq_true rfl⟩) rfl hl.1 rfl (Nat.le_of_ble_eq_true rfl) dX2_parseShot_118 ⟨Nat.le_of_ble_eq_true rfl, Nat.le_of_ble_eq_true rfl⟩ (fun _ => Nat.le_of_ble_eq_true rfl) (fun _ => rfl) (fun v u H locs hp hG => ?_)
            subst hp
            refine g_ifne_b (B := (begN N qn2_23 qn2_93)) (tgt := 130) S dX2_parseShot_121 (by decide) (fun q121 => ?_) (fun q121 => ?_)
            · skip
              have z9 : 0 ≤ qn2_23 ∧ qn2_23 < N 0 ∧ qn2_93 < N (5 + 3 * qn2_23 + 0) := q121
              rw [ha9, hb9] at z9
              have q9 : ¬ N (5 + 3 * tkV F n (tkE F n tp) + 0) ≤ tkV F n (tkE F n (tkE F n (tkE F n tp))) := by omega
              refine lv_aload_n S.1 S.2.1 dX2_parseShot_130 rfl (lv_at hl 2 rfl) ?_
              refine g_get S C hG iX20 0 rfl rfl 1 (by decide) (List.mem_of_getElem? (i := 1) rfl) rfl dX2_parseShot_131 ?_
              refine g_get S C hG iX50 3 rfl rfl 1 (by decide) (List.mem_of_getElem? (i := 2) rfl) rfl dX2_parseShot_134 ?_
              refine lv_aload_n S.1 S.2.1 dX2_parseShot_137 rfl (lv_at hl 2 rfl) ?_
              refine g_get S C hG iX20 0 rfl rfl 1 (by decide) (List.mem_of_getElem? (i := 1) rfl) rfl dX2_parseShot_138 ?_
              refine g_get S C hG iX50 3 rfl rfl 1 (by decide) (List.mem_of_getElem? (i := 2) rfl) rfl dX2_parseShot_141 ?_
              refine g_get S C hG iX70 6 rfl rfl 1 (by decide) (List.mem_of_getElem? (i := 3) rfl) rfl dX2_parseShot_144 ?_
              refine lv_iload_n S.1 S.2.1 dX2_parseShot_147 rfl (lv_at hl 1 rfl) ?_
              refine lv_iload_n S.1 S.2.1 dX2_parseShot_148 rfl (lv_at hl 0 rfl) ?_
              refine g_ifeq_b (B := (isWd F n (tkE F n (tkE F n tp)) wDown)) (tgt := 156) S dX2_parseShot_149 (by decide) (fun q149 => ?_) (fun q149 => ?_)
              · skip
                exact absurd q74 q149
              · skip
                refine g_iconst S dX2_parseShot_152 ?_
                refine lv_goto (tgt := 157) S.1 S.2.1 dX2_parseShot_153 (by decide) ?_
                refine lv_aload_n S.1 S.2.1 dX2_parseShot_157 rfl (lv_at hl 2 rfl) ?_
                refine g_invV (As := []) (rest := [.int (iI 1), .int (iI qn2_23), .int (iI sn), .ref sa]) (gs' := (fun u : Int × Int × Int × Int => [gPrsC K qa tx sc u.1 u.2.1 u.2.2.1 u.2.2.2 qo qb 0 (-1), gBuf K tx bb n F, gScn K sc la lb sa sb ou mi bo ln LF sn SF])) S C hG [0, 1] (c_X2_takeNumber l K qa tx sc qp2_93 qs2_93 qk2_93 qn2_93 qo qb 0 (-1) bb n F h0 (by omega) (by omega)) rfl rfl 0 rfl rfl (cwV 0 S.2.2.2.2 gX2_parseShot_X2_takeNumber rfl rfl rfl (by decide +kernel) ⟨Nat.le_of_ble_eq_true rfl, Nat.le_of_ble_eq_true rfl⟩) rfl hl.1 rfl (Nat.le_of_ble_eq_true rfl) dX2_parseShot_158 ⟨Nat.le_of_ble_eq_true rfl, Nat.le_of_ble_eq_true rfl⟩ (fun _ => Nat.le_of_ble_eq_true rfl) (fun _ => rfl) (fun v u H locs hp hG => ?_)
                obtain ⟨qp2_158, qs2_158, qk2_158, qn2_158⟩ := u
                obtain ⟨rfl, ht_158⟩ := hp
                have ht_158 : TokI F n qp2_93 qp2_158 qs2_158 qk2_158 qn2_158 := ht_158
                have hG : gW K A s.heap [gPrsC K qa tx sc qp2_158 qs2_158 qk2_158 qn2_158 qo qb 0 (-1), gBuf K tx bb n F, gScn K sc la lb sa sb ou mi bo ln LF sn SF] _ _ := hG
                have ht4 : TokI F n (tkE F n (tkE F n (tkE F n (tkE F n tp)))) qp2_158 qs2_158 qk2_158 qn2_158 := by rw [← v1] <;> exact ht_158
                obtain ⟨w1, w2, w3, w4⟩ := id ht4
                have hG : gW K A s.heap [gPrsC K qa tx sc qp2_158 qs2_158 qk2_158 qn2_158 qo qb 0 (-1), gBuf K tx bb n F, gScC K sc la sa ou mi bo, gTabC K la lb ln, gArr K 60 lb LF, gTab K sa sb sn SF] _ _ := hG
                refine g_invVv (As := [.int (iI sn), .int (iI qn2_23), .int (iI 1), .int (iI qn2_93)]) (rest := []) (gs' := (fun u : (Int → Int) => [gPrsC K qa tx sc qp2_158 qs2_158 qk2_158 qn2_158 qo qb 0 (-1), gBuf K tx bb n F, gScC K sc la sa ou mi bo, gTabC K la lb ln, gArr K 60 lb LF, gTab K sa sb (sn + 1) u])) S C hG [5] (c_X7_insert l K sa sb sn SF sn qn2_23 1 qn2_93 (by omega) (by omega)) rfl rfl 0 rfl rfl (cwV 4 S.2.2.2.2 gX2_parseShot_X7_insert rfl rfl rfl (by decide +kernel) ⟨Nat.le_of_ble_eq_true rfl, Nat.le_of_ble_eq_true rfl⟩) rfl hl.1 rfl (Nat.le_of_ble_eq_true rfl) dX2_parseShot_161 ⟨Nat.le_of_ble_eq_true rfl, Nat.le_of_ble_eq_true rfl⟩ (fun _ => Nat.le_of_ble_eq_true rfl) (fun _ => rfl) (fun u H locs hp hG => ?_)
                obtain ⟨F2_161, rfl⟩ : ∃ z, z = u := ⟨_, rfl⟩
                have hF_161 := hp
                have hF_161 : ∀ r k : Int, 0 ≤ k → k < 3 → F2_161 (r * 3 + k) = if r = sn then sel3 k qn2_23 1 qn2_93 else if sn < r ∧ r ≤ sn then SF ((r - 1) * 3 + k) else SF (r * 3 + k) := hF_161
                have hG : gW K A s.heap [gPrsC K qa tx sc qp2_158 qs2_158 qk2_158 qn2_158 qo qb 0 (-1), gBuf K tx bb n F, gScC K sc la sa ou mi bo, gTabC K la lb ln, gArr K 60 lb LF, gTab K sa sb (sn + 1) F2_161] _ _ := hG
                refine lv_aload_n S.1 S.2.1 dX2_parseShot_164 rfl (lv_at hl 2 rfl) ?_
                refine g_invV (As := []) (rest := []) (gs' := (fun u : Int × Int × Int × Int × Int × Int => [gPrsC K qa tx sc u.1 u.2.1 u.2.2.1 u.2.2.2.1 qo qb u.2.2.2.2.1 u.2.2.2.2.2, gBuf K tx bb n F, gScC K sc la sa ou mi bo, gTabC K la lb ln, gArr K 60 lb LF, gTab K sa sb (sn + 1) F2_161])) S C hG [0, 1] (c_X2_takeSemicolon l K qa tx sc qp2_158 qs2_158 qk2_158 qn2_158 qo qb qe qf bb n F (tkE F n (tkE F n (tkE F n (tkE F n tp)))) h0 (by omega) ht4) rfl rfl 0 rfl rfl (cwV 0 S.2.2.2.2 gX2_parseShot_X2_takeSemicolon rfl rfl rfl (by decide +kernel) ⟨Nat.le_of_ble_eq_true rfl, Nat.le_of_ble_eq_true rfl⟩) rfl hl.1 rfl (Nat.le_of_ble_eq_true rfl) dX2_parseShot_165 ⟨Nat.le_of_ble_eq_true rfl, Nat.le_of_ble_eq_true rfl⟩ (fun _ => Nat.le_of_ble_eq_true rfl) (fun _ => rfl) (fun v u H locs hp hG => ?_)
                obtain ⟨qp2_165, qs2_165, qk2_165, qn2_165, qe2_165, qf2_165⟩ := u
                obtain ⟨rfl, he_165, ht2_165⟩ := hp
                have he_165 : ErI (smE F n (tkE F n (tkE F n (tkE F n (tkE F n tp))))) qe2_165 qf2_165 := he_165
                have ht2_165 : okE (smE F n (tkE F n (tkE F n (tkE F n (tkE F n tp))))) → TokI F n (tkE F n (tkE F n (tkE F n (tkE F n (tkE F n tp))))) qp2_165 qs2_165 qk2_165 qn2_165 := ht2_165
                have hG : gW K A s.heap [gPrsC K qa tx sc qp2_165 qs2_165 qk2_165 qn2_165 qo qb qe2_165 qf2_165, gBuf K tx bb n F, gScC K sc la sa ou mi bo, gTabC K la lb ln, gArr K 60 lb LF, gTab K sa sb (sn + 1) F2_161] _ _ := hG
                have hG : gW K A s.heap [gPrsC K qa tx sc qp2_165 qs2_165 qk2_165 qn2_165 qo qb qe2_165 qf2_165, gBuf K tx bb n F, gScn K sc la lb sa sb ou mi bo ln LF (sn + 1) F2_161] _ _ := hG
                exact g_zret S hr hlk hQ (bI_01 _) dX2_parseShot_168 (Nat.le_of_ble_eq_true rfl) (Nat.le_of_ble_eq_true rfl) ((qp2_165, qs2_165, qk2_165, qn2_165, qo, qb, qe2_165, qf2_165, ou, mi, bo, ln, LF, (sn + 1), F2_161) : Int × Int × Int × Int × Int × Int × Int × Int × Int × Int × Int × Int × (Int → Int) × Int × (Int → Int)) ⟨(congrArg (fun z : Int => Value.int (iI z)) (by rw [shoE_n (by omega), pb_inr (numE_ok q33).1, if_neg (by omega), if_pos (Or.inl q74), pb_inr (numE_ok q104).1, if_neg q9] <;> exact bI_pb _ _)), (by rw [shoE_n (by omega), pb_inr (numE_ok q33).1, if_neg (by omega), if_pos (Or.inl q74), pb_inr (numE_ok q104).1, if_neg q9] <;> exact erI_pb he_165), (by rw [shoE_n (by omega), pb_inr (numE_ok q33).1, if_neg (by omega), if_pos (Or.inl q74), pb_inr (numE_ok q104).1, if_neg q9] <;> exact StmR.pb (fun q => ⟨ht2_165 q, by omega, by rw [bI_t q74, ← ha9, ← hb9] <;> exact hS.addS hN hF_161, hN.addS (by omega) (by omega) (bI_01 _) hb8, ⟨rfl, rfl⟩, hqo, hqb⟩))⟩ hG
            · skip
              have z9 : ¬ (0 ≤ qn2_23 ∧ qn2_23 < N 0 ∧ qn2_93 < N (5 + 3 * qn2_23 + 0)) := q121
              rw [ha9, hb9] at z9
              have q9 : N (5 + 3 * tkV F n (tkE F n tp) + 0) ≤ tkV F n (tkE F n (tkE F n (tkE F n tp))) := by omega
              refine lv_aload_n S.1 S.2.1 dX2_parseShot_124 rfl (lv_at hl 2 rfl) ?_
              refine g_iconst S dX2_parseShot_125 ?_
              refine g_invV (As := [.int (iI 5)]) (rest := []) (gs' := (fun u : Unit => [gPrsC K qa tx sc qp2_93 qs2_93 qk2_93 qn2_93 qo qb 5 qs2_93, gBuf K tx bb n F, gScn K sc la lb sa sb ou mi bo ln LF sn SF])) S C hG [0] (c_X2_fail l K qa tx sc qp2_93 qs2_93 qk2_93 qn2_93 qo qb 0 (-1) 5) rfl rfl 0 rfl rfl (cwV 1 S.2.2.2.2 gX2_parseShot_X2_fail rfl rfl rfl (by decide +kernel) ⟨Nat.le_of_ble_eq_true rfl, Nat.le_of_ble_eq_true rfl⟩) rfl hl.1 rfl (Nat.le_of_ble_eq_true rfl) dX2_parseShot_126 ⟨Nat.le_of_ble_eq_true rfl, Nat.le_of_ble_eq_true rfl⟩ (fun _ => Nat.le_of_ble_eq_true rfl) (fun _ => rfl) (fun v u H locs hp hG => ?_)
              subst hp
              have hG : gW K A s.heap [gPrsC K qa tx sc qp2_93 qs2_93 qk2_93 qn2_93 qo qb 5 qs2_93, gBuf K tx bb n F, gScn K sc la lb sa sb ou mi bo ln LF sn SF] _ _ := hG
              exact g_zret S hr hlk hQ (Or.inl rfl) dX2_parseShot_129 (Nat.le_of_ble_eq_true rfl) (Nat.le_of_ble_eq_true rfl) ((qp2_93, qs2_93, qk2_93, qn2_93, qo, qb, 5, qs2_93, ou, mi, bo, ln, LF, sn, SF) : Int × Int × Int × Int × Int × Int × Int × Int × Int × Int × Int × Int × (Int → Int) × Int × (Int → Int)) ⟨(congrArg (fun z : Int => Value.int (iI z)) (bI_f (by rw [shoE_n (by omega), pb_inr (numE_ok q33).1, if_neg (by omega), if_pos (Or.inl q74), pb_inr (numE_ok q104).1, if_pos q9] <;> exact (fl_er F n (tkE F n (tkE F n (tkE F n tp))) 5).1)).symm), (by rw [shoE_n (by omega), pb_inr (numE_ok q33).1, if_neg (by omega), if_pos (Or.inl q74), pb_inr (numE_ok q104).1, if_pos q9] <;> exact ⟨rfl, v2⟩), (StmR.no (by rw [shoE_n (by omega), pb_inr (numE_ok q33).1, if_neg (by omega), if_pos (Or.inl q74), pb_inr (numE_ok q104).1, if_pos q9] <;> exact (fl_er F n (tkE F n (tkE F n (tkE F n tp))) 5).1))⟩ hG
          · skip
            refine g_iconst S dX2_parseShot_107 ?_
            have hG : gW K A s.heap [gPrsC K qa tx sc qp2_93 qs2_93 qk2_93 qn2_93 qo qb qe2_101 qf2_101, gBuf K tx bb n F, gScn K sc la lb sa sb ou mi bo ln LF sn SF] _ _ := hG
            exact g_zret S hr hlk hQ (Or.inl rfl) dX2_parseShot_108 (Nat.le_of_ble_eq_true rfl) (Nat.le_of_ble_eq_true rfl) ((qp2_93, qs2_93, qk2_93, qn2_93, qo, qb, qe2_101, qf2_101, ou, mi, bo, ln, LF, sn, SF) : Int × Int × Int × Int × Int × Int × Int × Int × Int × Int × Int × Int × (Int → Int) × Int × (Int → Int)) ⟨(congrArg (fun z : Int => Value.int (iI z)) (bI_f (by rw [shoE_n (by omega), pb_inr (numE_ok q33).1, if_neg (by omega), if_pos (Or.inl q74)] <;> exact (pb_no q104 he_101).1)).symm), (by rw [shoE_n (by omega), pb_inr (numE_ok q33).1, if_neg (by omega), if_pos (Or.inl q74)] <;> exact (pb_no q104 he_101).2), (StmR.no (by rw [shoE_n (by omega), pb_inr (numE_ok q33).1, if_neg (by omega), if_pos (Or.inl q74)] <;> exact (pb_no q104 he_101).1))⟩ hG
        · skip
          refine lv_aload_n S.1 S.2.1 dX2_parseShot_77 rfl (lv_at hl 2 rfl) ?_
          refine va_ldcS (q := K.2.2.2.1 9) S.1 S.2.1 S.2.2.2.1 (C.1.2.2.1 _ (List.mem_of_getElem? (l := strW) (i := 9) rfl)) dX2_parseShot_78 ?_
          refine g_invV (As := [.ref (K.2.2.2.1 9)]) (rest := []) (gs' := (fun u : Unit => [gPrsC K qa tx sc qp2_62 qs2_62 qk2_62 qn2_62 qo qb 0 (-1), gBuf K tx bb n F, gScC K sc la sa ou mi bo, gTab K la lb ln LF, gTabC K sa sb sn, gArr K 60 sb SF])) S C hG [0, 1] (c_X2_isWord l K qa tx sc qp2_62 qs2_62 qk2_62 qn2_62 qo qb 0 (-1) bb n F (tkE F n (tkE F n tp)) 9 wUp h0 (by omega) ht2 tx_up (by decide)) rfl rfl 0 rfl rfl (cwV 1 S.2.2.2.2 gX2_parseShot_X2_isWord rfl rfl rfl (by decide +kernel) ⟨Nat.le_of_ble_eq_true rfl, Nat.le_of_ble_eq_true rfl⟩) rfl hl.1 rfl (Nat.le_of_ble_eq_true rfl) dX2_parseShot_80 ⟨Nat.le_of_ble_eq_true rfl, Nat.le_of_ble_eq_true rfl⟩ (fun _ => Nat.le_of_ble_eq_true rfl) (fun _ => rfl) (fun v u H locs hp hG => ?_)
          subst hp
          refine g_ifne_b (B := (isWd F n (tkE F n (tkE F n tp)) wUp)) (tgt := 92) S dX2_parseShot_83 (by decide) (fun q83 => ?_) (fun q83 => ?_)
          · skip
            refine lv_aload_n S.1 S.2.1 dX2_parseShot_92 rfl (lv_at hl 2 rfl) ?_
            refine g_invVv (As := []) (rest := []) (gs' := (fun u : Int × Int × Int × Int => [gPrsC K qa tx sc u.1 u.2.1 u.2.2.1 u.2.2.2 qo qb 0 (-1), gBuf K tx bb n F, gScC K sc la sa ou mi bo, gTab K la lb ln LF, gTabC K sa sb sn, gArr K 60 sb SF])) S C hG [0, 1] (c_X2_readToken l K qa tx sc qp2_62 qs2_62 qk2_62 qn2_62 qo qb 0 (-1) bb n F h0 (by omega)) rfl rfl 0 rfl rfl (cwV 0 S.2.2.2.2 gX2_parseShot_X2_readToken rfl rfl rfl (by decide +kernel) ⟨Nat.le_of_ble_eq_true rfl, Nat.le_of_ble_eq_true rfl⟩) rfl hl.1 rfl (Nat.le_of_ble_eq_true rfl) dX2_parseShot_93 ⟨Nat.le_of_ble_eq_true rfl, Nat.le_of_ble_eq_true rfl⟩ (fun _ => Nat.le_of_ble_eq_true rfl) (fun _ => rfl) (fun u H locs hp hG => ?_)
            obtain ⟨qp2_93, qs2_93, qk2_93, qn2_93⟩ := u
            have ht_93 := hp
            have ht_93 : TokI F n qp2_62 qp2_93 qs2_93 qk2_93 qn2_93 := ht_93
            have hG : gW K A s.heap [gPrsC K qa tx sc qp2_93 qs2_93 qk2_93 qn2_93 qo qb 0 (-1), gBuf K tx bb n F, gScC K sc la sa ou mi bo, gTab K la lb ln LF, gTabC K sa sb sn, gArr K 60 sb SF] _ _ := hG
            have ht3 : TokI F n (tkE F n (tkE F n (tkE F n tp))) qp2_93 qs2_93 qk2_93 qn2_93 := by rw [← u1] <;> exact ht_93
            obtain ⟨v1, v2, v3, v4⟩ := id ht3
            refine lv_aload_n S.1 S.2.1 dX2_parseShot_96 rfl (lv_at hl 2 rfl) ?_
            refine g_iconst S dX2_parseShot_97 ?_
            refine g_sipush S dX2_parseShot_98 (by decide) ?_
            refine g_invV (As := [.int (iI 0), .int (iI 3999)]) (rest := []) (gs' := (fun u : Int × Int => [gPrsC K qa tx sc qp2_93 qs2_93 qk2_93 qn2_93 qo qb u.1 u.2, gBuf K tx bb n F, gScC K sc la sa ou mi bo, gTab K la lb ln LF, gTabC K sa sb sn, gArr K 60 sb SF])) S C hG [0] (c_X2_isNumber l K qa tx sc qp2_93 qs2_93 qk2_93 qn2_93 qo qb qe qf bb n F (tkE F n (tkE F n (tkE F n tp))) 0 3999 h0 (by omega) ht3 (by omega) (by omega)) rfl rfl 0 rfl rfl (cwV 2 S.2.2.2.2 gX2_parseShot_X2_isNumber rfl rfl rfl (by decide +kernel) ⟨Nat.le_of_ble_eq_true rfl, Nat.le_of_ble_eq_true rfl⟩) rfl hl.1 rfl (Nat.le_of_ble_eq_true rfl) dX2_parseShot_101 ⟨Nat.le_of_ble_eq_true rfl, Nat.le_of_ble_eq_true rfl⟩ (fun _ => Nat.le_of_ble_eq_true rfl) (fun _ => rfl) (fun v u H locs hp hG => ?_)
            obtain ⟨qe2_101, qf2_101⟩ := u
            obtain ⟨rfl, he_101⟩ := hp
            have he_101 : ErI (numE F n (tkE F n (tkE F n (tkE F n tp))) 0 3999) qe2_101 qf2_101 := he_101
            have hG : gW K A s.heap [gPrsC K qa tx sc qp2_93 qs2_93 qk2_93 qn2_93 qo qb qe2_101 qf2_101, gBuf K tx bb n F, gScC K sc la sa ou mi bo, gTab K la lb ln LF, gTabC K sa sb sn, gArr K 60 sb SF] _ _ := hG
            refine g_ifne_b (B := (okE (numE F n (tkE F n (tkE F n (tkE F n tp))) 0 3999))) (tgt := 109) S dX2_parseShot_104 (by decide) (fun q104 => ?_) (fun q104 => ?_)
            · skip
              obtain ⟨rfl, rfl⟩ := erI_ok q104 he_101
              have hb9 : qn2_93 = tkV F n (tkE F n (tkE F n (tkE F n tp))) := v4 (by rw [v3] <;> exact (numE_ok q104).2.1)
              have hb8 := (numE_ok q104).2.2
              have hb7 := t4.2.1 (by rw [(numE_ok q104).2.1] <;> decide)
              refine lv_aload_n S.1 S.2.1 dX2_parseShot_109 rfl (lv_at hl 2 rfl) ?_
              refine g_get S C hG iX20 0 rfl rfl 1 (by decide) (List.mem_of_getElem? (i := 1) rfl) rfl dX2_parseShot_110 ?_
              refine lv_iload_n S.1 S.2.1 dX2_parseShot_113 rfl (lv_at hl 1 rfl) ?_
              refine lv_aload_n S.1 S.2.1 dX2_parseShot_114 rfl (lv_at hl 2 rfl) ?_
              refine g_get S C hG iX20 0 rfl rfl 5 (by decide) (List.mem_of_getElem? (i := 5) rfl) rfl dX2_parseShot_115 ?_
              have hG : gW K A s.heap [gPrsC K qa tx sc qp2_93 qs2_93 qk2_93 qn2_93 qo qb 0 (-1), gBuf K tx bb n F, gScn K sc la lb sa sb ou mi bo ln LF sn SF] _ _ := hG
              refine g_invV (As := [.int (iI qn2_23), .int (iI qn2_93)]) (rest := []) (gs' := (fun u : Unit => [gPrsC K qa tx sc qp2_93 qs2_93 qk2_93 qn2_93 qo qb 0 (-1), gBuf K tx bb n F, gScn K sc la lb sa sb ou mi bo ln LF sn SF])) S C hG [2] (c_X5_canBegin l K sc la lb sa sb ou mi bo ln LF sn SF N qn2_23 qn2_93 hS hN (by omega) (by omega)) rfl rfl 0 rfl rfl (cwV 2 S.2.2.2.2 gX2_parseShot_X5_canBegin rfl rfl rfl (by decide +kernel) ⟨Nat.le_of_ble_eq_true rfl, Nat.le_of_ble_eq_true rfl⟩) rfl hl.1 rfl (Nat.le_of_ble_eq_true rfl) dX2_parseShot_118 ⟨Nat.le_of_ble_eq_true rfl, Nat.le_of_ble_eq_true rfl⟩ (fun _ => Nat.le_of_ble_eq_true rfl) (fun _ => rfl) (fun v u H locs hp hG => ?_)
              subst hp
              refine g_ifne_b (B := (begN N qn2_23 qn2_93)) (tgt := 130) S dX2_parseShot_121 (by decide) (fun q121 => ?_) (fun q121 => ?_)
              · skip
                have z9 : 0 ≤ qn2_23 ∧ qn2_23 < N 0 ∧ qn2_93 < N (5 + 3 * qn2_23 + 0) := q121
                rw [ha9, hb9] at z9
                have q9 : ¬ N (5 + 3 * tkV F n (tkE F n tp) + 0) ≤ tkV F n (tkE F n (tkE F n (tkE F n tp))) := by omega
                refine lv_aload_n S.1 S.2.1 dX2_parseShot_130 rfl (lv_at hl 2 rfl) ?_
                refine g_get S C hG iX20 0 rfl rfl 1 (by decide) (List.mem_of_getElem? (i := 1) rfl) rfl dX2_parseShot_131 ?_
                refine g_get S C hG iX50 3 rfl rfl 1 (by decide) (List.mem_of_getElem? (i := 2) rfl) rfl dX2_parseShot_134 ?_
                refine lv_aload_n S.1 S.2.1 dX2_parseShot_137 rfl (lv_at hl 2 rfl) ?_
                refine g_get S C hG iX20 0 rfl rfl 1 (by decide) (List.mem_of_getElem? (i := 1) rfl) rfl dX2_parseShot_138 ?_
                refine g_get S C hG iX50 3 rfl rfl 1 (by decide) (List.mem_of_getElem? (i := 2) rfl) rfl dX2_parseShot_141 ?_
                refine g_get S C hG iX70 6 rfl rfl 1 (by decide) (List.mem_of_getElem? (i := 3) rfl) rfl dX2_parseShot_144 ?_
                refine lv_iload_n S.1 S.2.1 dX2_parseShot_147 rfl (lv_at hl 1 rfl) ?_
                refine lv_iload_n S.1 S.2.1 dX2_parseShot_148 rfl (lv_at hl 0 rfl) ?_
                refine g_ifeq_b (B := (isWd F n (tkE F n (tkE F n tp)) wDown)) (tgt := 156) S dX2_parseShot_149 (by decide) (fun q149 => ?_) (fun q149 => ?_)
                · skip
                  refine g_iconst S dX2_parseShot_156 ?_
                  refine lv_aload_n S.1 S.2.1 dX2_parseShot_157 rfl (lv_at hl 2 rfl) ?_
                  refine g_invV (As := []) (rest := [.int (iI 0), .int (iI qn2_23), .int (iI sn), .ref sa]) (gs' := (fun u : Int × Int × Int × Int => [gPrsC K qa tx sc u.1 u.2.1 u.2.2.1 u.2.2.2 qo qb 0 (-1), gBuf K tx bb n F, gScn K sc la lb sa sb ou mi bo ln LF sn SF])) S C hG [0, 1] (c_X2_takeNumber l K qa tx sc qp2_93 qs2_93 qk2_93 qn2_93 qo qb 0 (-1) bb n F h0 (by omega) (by omega)) rfl rfl 0 rfl rfl (cwV 0 S.2.2.2.2 gX2_parseShot_X2_takeNumber rfl rfl rfl (by decide +kernel) ⟨Nat.le_of_ble_eq_true rfl, Nat.le_of_ble_eq_true rfl⟩) rfl hl.1 rfl (Nat.le_of_ble_eq_true rfl) dX2_parseShot_158 ⟨Nat.le_of_ble_eq_true rfl, Nat.le_of_ble_eq_true rfl⟩ (fun _ => Nat.le_of_ble_eq_true rfl) (fun _ => rfl) (fun v u H locs hp hG => ?_)
                  obtain ⟨qp2_158, qs2_158, qk2_158, qn2_158⟩ := u
                  obtain ⟨rfl, ht_158⟩ := hp
                  have ht_158 : TokI F n qp2_93 qp2_158 qs2_158 qk2_158 qn2_158 := ht_158
                  have hG : gW K A s.heap [gPrsC K qa tx sc qp2_158 qs2_158 qk2_158 qn2_158 qo qb 0 (-1), gBuf K tx bb n F, gScn K sc la lb sa sb ou mi bo ln LF sn SF] _ _ := hG
                  have ht4 : TokI F n (tkE F n (tkE F n (tkE F n (tkE F n tp)))) qp2_158 qs2_158 qk2_158 qn2_158 := by rw [← v1] <;> exact ht_158
                  obtain ⟨w1, w2, w3, w4⟩ := id ht4
                  have hG : gW K A s.heap [gPrsC K qa tx sc qp2_158 qs2_158 qk2_158 qn2_158 qo qb 0 (-1), gBuf K tx bb n F, gScC K sc la sa ou mi bo, gTabC K la lb ln, gArr K 60 lb LF, gTab K sa sb sn SF] _ _ := hG
                  refine g_invVv (As := [.int (iI sn), .int (iI qn2_23), .int (iI 0), .int (iI qn2_93)]) (rest := []) (gs' := (fun u : (Int → Int) => [gPrsC K qa tx sc qp2_158 qs2_158 qk2_158 qn2_158 qo qb 0 (-1), gBuf K tx bb n F, gScC K sc la sa ou mi bo, gTabC K la lb ln, gArr K 60 lb LF, gTab K sa sb (sn + 1) u])) S C hG [5] (c_X7_insert l K sa sb sn SF sn qn2_23 0 qn2_93 (by omega) (by omega)) rfl rfl 0 rfl rfl (cwV 4 S.2.2.2.2 gX2_parseShot_X7_insert rfl rfl rfl (by decide +kernel) ⟨Nat.le_of_ble_eq_true rfl, Nat.le_of_ble_eq_true rfl⟩) rfl hl.1 rfl (Nat.le_of_ble_eq_true rfl) dX2_parseShot_161 ⟨Nat.le_of_ble_eq_true rfl, Nat.le_of_ble_eq_true rfl⟩ (fun _ => Nat.le_of_ble_eq_true rfl) (fun _ => rfl) (fun u H locs hp hG => ?_)
                  obtain ⟨F2_161, rfl⟩ : ∃ z, z = u := ⟨_, rfl⟩
                  have hF_161 := hp
                  have hF_161 : ∀ r k : Int, 0 ≤ k → k < 3 → F2_161 (r * 3 + k) = if r = sn then sel3 k qn2_23 0 qn2_93 else if sn < r ∧ r ≤ sn then SF ((r - 1) * 3 + k) else SF (r * 3 + k) := hF_161
                  have hG : gW K A s.heap [gPrsC K qa tx sc qp2_158 qs2_158 qk2_158 qn2_158 qo qb 0 (-1), gBuf K tx bb n F, gScC K sc la sa ou mi bo, gTabC K la lb ln, gArr K 60 lb LF, gTab K sa sb (sn + 1) F2_161] _ _ := hG
                  refine lv_aload_n S.1 S.2.1 dX2_parseShot_164 rfl (lv_at hl 2 rfl) ?_
                  refine g_invV (As := []) (rest := []) (gs' := (fun u : Int × Int × Int × Int × Int × Int => [gPrsC K qa tx sc u.1 u.2.1 u.2.2.1 u.2.2.2.1 qo qb u.2.2.2.2.1 u.2.2.2.2.2, gBuf K tx bb n F, gScC K sc la sa ou mi bo, gTabC K la lb ln, gArr K 60 lb LF, gTab K sa sb (sn + 1) F2_161])) S C hG [0, 1] (c_X2_takeSemicolon l K qa tx sc qp2_158 qs2_158 qk2_158 qn2_158 qo qb qe qf bb n F (tkE F n (tkE F n (tkE F n (tkE F n tp)))) h0 (by omega) ht4) rfl rfl 0 rfl rfl (cwV 0 S.2.2.2.2 gX2_parseShot_X2_takeSemicolon rfl rfl rfl (by decide +kernel) ⟨Nat.le_of_ble_eq_true rfl, Nat.le_of_ble_eq_true rfl⟩) rfl hl.1 rfl (Nat.le_of_ble_eq_true rfl) dX2_parseShot_165 ⟨Nat.le_of_ble_eq_true rfl, Nat.le_of_ble_eq_true rfl⟩ (fun _ => Nat.le_of_ble_eq_true rfl) (fun _ => rfl) (fun v u H locs hp hG => ?_)
                  obtain ⟨qp2_165, qs2_165, qk2_165, qn2_165, qe2_165, qf2_165⟩ := u
                  obtain ⟨rfl, he_165, ht2_165⟩ := hp
                  have he_165 : ErI (smE F n (tkE F n (tkE F n (tkE F n (tkE F n tp))))) qe2_165 qf2_165 := he_165
                  have ht2_165 : okE (smE F n (tkE F n (tkE F n (tkE F n (tkE F n tp))))) → TokI F n (tkE F n (tkE F n (tkE F n (tkE F n (tkE F n tp))))) qp2_165 qs2_165 qk2_165 qn2_165 := ht2_165
                  have hG : gW K A s.heap [gPrsC K qa tx sc qp2_165 qs2_165 qk2_165 qn2_165 qo qb qe2_165 qf2_165, gBuf K tx bb n F, gScC K sc la sa ou mi bo, gTabC K la lb ln, gArr K 60 lb LF, gTab K sa sb (sn + 1) F2_161] _ _ := hG
                  have hG : gW K A s.heap [gPrsC K qa tx sc qp2_165 qs2_165 qk2_165 qn2_165 qo qb qe2_165 qf2_165, gBuf K tx bb n F, gScn K sc la lb sa sb ou mi bo ln LF (sn + 1) F2_161] _ _ := hG
                  exact g_zret S hr hlk hQ (bI_01 _) dX2_parseShot_168 (Nat.le_of_ble_eq_true rfl) (Nat.le_of_ble_eq_true rfl) ((qp2_165, qs2_165, qk2_165, qn2_165, qo, qb, qe2_165, qf2_165, ou, mi, bo, ln, LF, (sn + 1), F2_161) : Int × Int × Int × Int × Int × Int × Int × Int × Int × Int × Int × Int × (Int → Int) × Int × (Int → Int)) ⟨(congrArg (fun z : Int => Value.int (iI z)) (by rw [shoE_n (by omega), pb_inr (numE_ok q33).1, if_neg (by omega), if_pos (Or.inr q83), pb_inr (numE_ok q104).1, if_neg q9] <;> exact bI_pb _ _)), (by rw [shoE_n (by omega), pb_inr (numE_ok q33).1, if_neg (by omega), if_pos (Or.inr q83), pb_inr (numE_ok q104).1, if_neg q9] <;> exact erI_pb he_165), (by rw [shoE_n (by omega), pb_inr (numE_ok q33).1, if_neg (by omega), if_pos (Or.inr q83), pb_inr (numE_ok q104).1, if_neg q9] <;> exact StmR.pb (fun q => ⟨ht2_165 q, by omega, by rw [bI_f q74, ← ha9, ← hb9] <;> exact hS.addS hN hF_161, hN.addS (by omega) (by omega) (bI_01 _) hb8, ⟨rfl, rfl⟩, hqo, hqb⟩))⟩ hG
                · skip
                  exact absurd q149 q74
              · skip
                have z9 : ¬ (0 ≤ qn2_23 ∧ qn2_23 < N 0 ∧ qn2_93 < N (5 + 3 * qn2_23 + 0)) := q121
                rw [ha9, hb9] at z9
                have q9 : N (5 + 3 * tkV F n (tkE F n tp) + 0) ≤ tkV F n (tkE F n (tkE F n (tkE F n tp))) := by omega
                refine lv_aload_n S.1 S.2.1 dX2_parseShot_124 rfl (lv_at hl 2 rfl) ?_
                refine g_iconst S dX2_parseShot_125 ?_
                refine g_invV (As := [.int (iI 5)]) (rest := []) (gs' := (fun u : Unit => [gPrsC K qa tx sc qp2_93 qs2_93 qk2_93 qn2_93 qo qb 5 qs2_93, gBuf K tx bb n F, gScn K sc la lb sa sb ou mi bo ln LF sn SF])) S C hG [0] (c_X2_fail l K qa tx sc qp2_93 qs2_93 qk2_93 qn2_93 qo qb 0 (-1) 5) rfl rfl 0 rfl rfl (cwV 1 S.2.2.2.2 gX2_parseShot_X2_fail rfl rfl rfl (by decide +kernel) ⟨Nat.le_of_ble_eq_true rfl, Nat.le_of_ble_eq_true rfl⟩) rfl hl.1 rfl (Nat.le_of_ble_eq_true rfl) dX2_parseShot_126 ⟨Nat.le_of_ble_eq_true rfl, Nat.le_of_ble_eq_true rfl⟩ (fun _ => Nat.le_of_ble_eq_true rfl) (fun _ => rfl) (fun v u H locs hp hG => ?_)
                subst hp
                have hG : gW K A s.heap [gPrsC K qa tx sc qp2_93 qs2_93 qk2_93 qn2_93 qo qb 5 qs2_93, gBuf K tx bb n F, gScn K sc la lb sa sb ou mi bo ln LF sn SF] _ _ := hG
                exact g_zret S hr hlk hQ (Or.inl rfl) dX2_parseShot_129 (Nat.le_of_ble_eq_true rfl) (Nat.le_of_ble_eq_true rfl) ((qp2_93, qs2_93, qk2_93, qn2_93, qo, qb, 5, qs2_93, ou, mi, bo, ln, LF, sn, SF) : Int × Int × Int × Int × Int × Int × Int × Int × Int × Int × Int × Int × (Int → Int) × Int × (Int → Int)) ⟨(congrArg (fun z : Int => Value.int (iI z)) (bI_f (by rw [shoE_n (by omega), pb_inr (numE_ok q33).1, if_neg (by omega), if_pos (Or.inr q83), pb_inr (numE_ok q104).1, if_pos q9] <;> exact (fl_er F n (tkE F n (tkE F n (tkE F n tp))) 5).1)).symm), (by rw [shoE_n (by omega), pb_inr (numE_ok q33).1, if_neg (by omega), if_pos (Or.inr q83), pb_inr (numE_ok q104).1, if_pos q9] <;> exact ⟨rfl, v2⟩), (StmR.no (by rw [shoE_n (by omega), pb_inr (numE_ok q33).1, if_neg (by omega), if_pos (Or.inr q83), pb_inr (numE_ok q104).1, if_pos q9] <;> exact (fl_er F n (tkE F n (tkE F n (tkE F n tp))) 5).1))⟩ hG
            · skip
              refine g_iconst S dX2_parseShot_107 ?_
              have hG : gW K A s.heap [gPrsC K qa tx sc qp2_93 qs2_93 qk2_93 qn2_93 qo qb qe2_101 qf2_101, gBuf K tx bb n F, gScn K sc la lb sa sb ou mi bo ln LF sn SF] _ _ := hG
              exact g_zret S hr hlk hQ (Or.inl rfl) dX2_parseShot_108 (Nat.le_of_ble_eq_true rfl) (Nat.le_of_ble_eq_true rfl) ((qp2_93, qs2_93, qk2_93, qn2_93, qo, qb, qe2_101, qf2_101, ou, mi, bo, ln, LF, sn, SF) : Int × Int × Int × Int × Int × Int × Int × Int × Int × Int × Int × Int × (Int → Int) × Int × (Int → Int)) ⟨(congrArg (fun z : Int => Value.int (iI z)) (bI_f (by rw [shoE_n (by omega), pb_inr (numE_ok q33).1, if_neg (by omega), if_pos (Or.inr q83)] <;> exact (pb_no q104 he_101).1)).symm), (by rw [shoE_n (by omega), pb_inr (numE_ok q33).1, if_neg (by omega), if_pos (Or.inr q83)] <;> exact (pb_no q104 he_101).2), (StmR.no (by rw [shoE_n (by omega), pb_inr (numE_ok q33).1, if_neg (by omega), if_pos (Or.inr q83)] <;> exact (pb_no q104 he_101).1))⟩ hG
          · skip
            refine lv_aload_n S.1 S.2.1 dX2_parseShot_86 rfl (lv_at hl 2 rfl) ?_
            refine g_iconst S dX2_parseShot_87 ?_
            refine g_invV (As := [.int (iI 1)]) (rest := []) (gs' := (fun u : Unit => [gPrsC K qa tx sc qp2_62 qs2_62 qk2_62 qn2_62 qo qb 1 qs2_62, gBuf K tx bb n F, gScC K sc la sa ou mi bo, gTab K la lb ln LF, gTabC K sa sb sn, gArr K 60 sb SF])) S C hG [0] (c_X2_fail l K qa tx sc qp2_62 qs2_62 qk2_62 qn2_62 qo qb 0 (-1) 1) rfl rfl 0 rfl rfl (cwV 1 S.2.2.2.2 gX2_parseShot_X2_fail rfl rfl rfl (by decide +kernel) ⟨Nat.le_of_ble_eq_true rfl, Nat.le_of_ble_eq_true rfl⟩) rfl hl.1 rfl (Nat.le_of_ble_eq_true rfl) dX2_parseShot_88 ⟨Nat.le_of_ble_eq_true rfl, Nat.le_of_ble_eq_true rfl⟩ (fun _ => Nat.le_of_ble_eq_true rfl) (fun _ => rfl) (fun v u H locs hp hG => ?_)
            subst hp
            have hG : gW K A s.heap [gPrsC K qa tx sc qp2_62 qs2_62 qk2_62 qn2_62 qo qb 1 qs2_62, gBuf K tx bb n F, gScn K sc la lb sa sb ou mi bo ln LF sn SF] _ _ := hG
            exact g_zret S hr hlk hQ (Or.inl rfl) dX2_parseShot_91 (Nat.le_of_ble_eq_true rfl) (Nat.le_of_ble_eq_true rfl) ((qp2_62, qs2_62, qk2_62, qn2_62, qo, qb, 1, qs2_62, ou, mi, bo, ln, LF, sn, SF) : Int × Int × Int × Int × Int × Int × Int × Int × Int × Int × Int × Int × (Int → Int) × Int × (Int → Int)) ⟨(congrArg (fun z : Int => Value.int (iI z)) (bI_f (by rw [shoE_n (by omega), pb_inr (numE_ok q33).1, if_neg (by omega), if_neg (fun o => o.elim q74 q83)] <;> exact (fl_er F n (tkE F n (tkE F n tp)) 1).1)).symm), (by rw [shoE_n (by omega), pb_inr (numE_ok q33).1, if_neg (by omega), if_neg (fun o => o.elim q74 q83)] <;> exact ⟨rfl, u2⟩), (StmR.no (by rw [shoE_n (by omega), pb_inr (numE_ok q33).1, if_neg (by omega), if_neg (fun o => o.elim q74 q83)] <;> exact (fl_er F n (tkE F n (tkE F n tp)) 1).1))⟩ hG
      · skip
        refine lv_aload_n S.1 S.2.1 dX2_parseShot_55 rfl (lv_at hl 0 rfl) ?_
        refine g_iconst S dX2_parseShot_56 ?_
        refine g_invV (As := [.int (iI 4)]) (rest := []) (gs' := (fun u : Unit => [gPrsC K qa tx sc qp2_23 qs2_23 qk2_23 qn2_23 qo qb 4 qs2_23, gBuf K tx bb n F, gScC K sc la sa ou mi bo, gTab K la lb ln LF, gTabC K sa sb sn, gArr K 60 sb SF])) S C hG [0] (c_X2_fail l K qa tx sc qp2_23 qs2_23 qk2_23 qn2_23 qo qb 0 (-1) 4) rfl rfl 0 rfl rfl (cwV 1 S.2.2.2.2 gX2_parseShot_X2_fail rfl rfl rfl (by decide +kernel) ⟨Nat.le_of_ble_eq_true rfl, Nat.le_of_ble_eq_true rfl⟩) rfl hl.1 rfl (Nat.le_of_ble_eq_true rfl) dX2_parseShot_57 ⟨Nat.le_of_ble_eq_true rfl, Nat.le_of_ble_eq_true rfl⟩ (fun _ => Nat.le_of_ble_eq_true rfl) (fun _ => rfl) (fun v u H locs hp hG => ?_)
        subst hp
        have hG : gW K A s.heap [gPrsC K qa tx sc qp2_23 qs2_23 qk2_23 qn2_23 qo qb 4 qs2_23, gBuf K tx bb n F, gScn K sc la lb sa sb ou mi bo ln LF sn SF] _ _ := hG
        exact g_zret S hr hlk hQ (Or.inl rfl) dX2_parseShot_60 (Nat.le_of_ble_eq_true rfl) (Nat.le_of_ble_eq_true rfl) ((qp2_23, qs2_23, qk2_23, qn2_23, qo, qb, 4, qs2_23, ou, mi, bo, ln, LF, sn, SF) : Int × Int × Int × Int × Int × Int × Int × Int × Int × Int × Int × Int × (Int → Int) × Int × (Int → Int)) ⟨(congrArg (fun z : Int => Value.int (iI z)) (bI_f (by rw [shoE_n (by omega), pb_inr (numE_ok q33).1, if_pos (by omega)] <;> exact (fl_er F n (tkE F n tp) 4).1)).symm), (by rw [shoE_n (by omega), pb_inr (numE_ok q33).1, if_pos (by omega)] <;> exact ⟨rfl, y2⟩), (StmR.no (by rw [shoE_n (by omega), pb_inr (numE_ok q33).1, if_pos (by omega)] <;> exact (fl_er F n (tkE F n tp) 4).1))⟩ hG
    · skip
      refine g_iconst S dX2_parseShot_36 ?_
      have hG : gW K A s.heap [gPrsC K qa tx sc qp2_23 qs2_23 qk2_23 qn2_23 qo qb qe2_30 qf2_30, gBuf K tx bb n F, gScn K sc la lb sa sb ou mi bo ln LF sn SF] _ _ := hG
      exact g_zret S hr hlk hQ (Or.inl rfl) dX2_parseShot_37 (Nat.le_of_ble_eq_true rfl) (Nat.le_of_ble_eq_true rfl) ((qp2_23, qs2_23, qk2_23, qn2_23, qo, qb, qe2_30, qf2_30, ou, mi, bo, ln, LF, sn, SF) : Int × Int × Int × Int × Int × Int × Int × Int × Int × Int × Int × Int × (Int → Int) × Int × (Int → Int)) ⟨(congrArg (fun z : Int => Value.int (iI z)) (bI_f (by rw [shoE_n (by omega)] <;> exact (pb_no q33 he_30).1)).symm), (by rw [shoE_n (by omega)] <;> exact (pb_no q33 he_30).2), (StmR.no (by rw [shoE_n (by omega)] <;> exact (pb_no q33 he_30).1))⟩ hG
  · skip
    refine lv_aload_n S.1 S.2.1 dX2_parseShot_15 rfl (lv_at hl 0 rfl) ?_
    refine g_bipush S dX2_parseShot_16 (by decide) ?_
    refine g_invV (As := [.int (iI 6)]) (rest := []) (gs' := (fun u : Unit => [gPrsC K qa tx sc qp qs qk qn qo qb 6 qs, gBuf K tx bb n F, gScn K sc la lb sa sb ou mi bo ln LF sn SF])) S C hG [0] (c_X2_fail l K qa tx sc qp qs qk qn qo qb 0 (-1) 6) rfl rfl 0 rfl rfl (cwV 1 S.2.2.2.2 gX2_parseShot_X2_fail rfl rfl rfl (by decide +kernel) ⟨Nat.le_of_ble_eq_true rfl, Nat.le_of_ble_eq_true rfl⟩) rfl hl.1 rfl (Nat.le_of_ble_eq_true rfl) dX2_parseShot_18 ⟨Nat.le_of_ble_eq_true rfl, Nat.le_of_ble_eq_true rfl⟩ (fun _ => Nat.le_of_ble_eq_true rfl) (fun _ => rfl) (fun v u H locs hp hG => ?_)
    subst hp
    have hG : gW K A s.heap [gPrsC K qa tx sc qp qs qk qn qo qb 6 qs, gBuf K tx bb n F, gScn K sc la lb sa sb ou mi bo ln LF sn SF] _ _ := hG
    exact g_zret S hr hlk hQ (Or.inl rfl) dX2_parseShot_21 (Nat.le_of_ble_eq_true rfl) (Nat.le_of_ble_eq_true rfl) ((qp, qs, qk, qn, qo, qb, 6, qs, ou, mi, bo, ln, LF, sn, SF) : Int × Int × Int × Int × Int × Int × Int × Int × Int × Int × Int × Int × (Int → Int) × Int × (Int → Int)) ⟨(congrArg (fun z : Int => Value.int (iI z)) (bI_f (by rw [shoE_6 (by omega)] <;> exact (fl_er F n tp 6).1)).symm), (by rw [shoE_6 (by omega)] <;> exact ⟨rfl, x2⟩), (StmR.no (by rw [shoE_6 (by omega)] <;> exact (fl_er F n tp 6).1))⟩ hG
