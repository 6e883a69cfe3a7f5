set_option maxHeartbeats 1000000 in
set_option maxRecDepth 100000 in
theorem c_X2_parseBottom (l : Launch) (K : KC) (qa : Nat) (tx : Nat) (sc : Nat) (qp : Int) (qs : Int) (qk : Int) (qn : Int) (qo : Int) (qb : Int) (qe : Int) (qf : Int) (bb : Nat) (n : Int) (F : Int → Int) (la : Nat) (lb : Nat) (sa : Nat) (sb : Nat) (ou : Int) (mi : Int) (bo : Int) (ln : Int) (LF : Int → Int) (sn : Int) (SF : Int → Int) (N : Int → Int) (tp : Int) (h0 : 0 ≤ n ∧ n ≤ 400) (h1 : 0 ≤ tp ∧ tp ≤ n) (htk : TokI F n tp qp qs qk qn) (hS : ScOk N ou mi bo ln LF sn SF) (hN : NOk0 N) (hqo : qo = 0 ∨ qo = 1) (hqb : qb = 0 ∨ qb = 1) : mG l yX2_parseBottom wsX2_parseBottom 5 107 K [.ref qa] [gPrsC K qa tx sc qp qs qk qn qo qb 0 (-1), gBuf K tx bb n F, gScn K sc la lb sa sb ou mi bo ln LF sn SF] (fun (v : Value) (u : Int × Int × Int × Int × Int × Int × Int × Int × Int × Int × Int × Int × (Int → Int) × Int × (Int → Int)) => (v = .int (iI (bI (okE (botE F n tp N qo qb))))) ∧ (ErI (botE F n tp N qo qb) u.2.2.2.2.2.2.1 u.2.2.2.2.2.2.2.1) ∧ (StmR F n tp (botE F n tp N qo qb) u.1 u.2.1 u.2.2.1 u.2.2.2.1 u.2.2.2.2.1 u.2.2.2.2.2.1 u.2.2.2.2.2.2.2.2.1 u.2.2.2.2.2.2.2.2.2.1 u.2.2.2.2.2.2.2.2.2.2.1 u.2.2.2.2.2.2.2.2.2.2.2.1 u.2.2.2.2.2.2.2.2.2.2.2.2.1 u.2.2.2.2.2.2.2.2.2.2.2.2.2.1 u.2.2.2.2.2.2.2.2.2.2.2.2.2.2)) (fun (u : Int × Int × Int × Int × Int × Int × Int × Int × Int × Int × Int × Int × (Int → Int) × Int × (Int → Int)) => [gPrsC K qa tx sc u.1 u.2.1 u.2.2.1 u.2.2.2.1 u.2.2.2.2.1 u.2.2.2.2.2.1 u.2.2.2.2.2.2.1 u.2.2.2.2.2.2.2.1, gBuf K tx bb n F, gScn K sc la lb sa sb u.2.2.2.2.2.2.2.2.1 u.2.2.2.2.2.2.2.2.2.1 u.2.2.2.2.2.2.2.2.2.2.1 u.2.2.2.2.2.2.2.2.2.2.2.1 u.2.2.2.2.2.2.2.2.2.2.2.2.1 u.2.2.2.2.2.2.2.2.2.2.2.2.2.1 u.2.2.2.2.2.2.2.2.2.2.2.2.2.2]) 0 0 := by
  refine mG_of cX2_parseBottom 2 (by decide) rfl (Nat.le_of_ble_eq_true rfl) ?_
  intro p e s m below meth c A ls Q S C hG hl hr hlk hin hQ
  have S : CallFix p m c cX2_parseBottom 2 s ([.ref qa] : List Value).toArray wsX2_parseBottom RX2 := S
  have iX20 : ∀ w ∈ wsX20, w ∈ wsX2_parseBottom := fun _ h => List.mem_cons_of_mem _ (List.mem_append_left _ (List.mem_append_left _ (List.mem_append_left _ (List.mem_append_right _ (h)))))
  have iX00 : ∀ w ∈ wsX00, w ∈ wsX2_parseBottom := fun _ h => List.mem_cons_of_mem _ (List.mem_append_left _ (List.mem_append_left _ (List.mem_append_right _ (h))))
  have iX50 : ∀ w ∈ wsX50, w ∈ wsX2_parseBottom := fun _ h => List.mem_cons_of_mem _ (List.mem_append_right _ (h))
  have hl : lv_has ls 2 [(0, .ref qa)] := hl
  have hG : gW K A s.heap [gPrsC K qa tx sc qp qs qk qn qo qb 0 (-1), gBuf K tx bb n F, gScn K sc la lb sa sb ou mi bo ln LF sn SF] s.heap [] := hG
  obtain ⟨x1, x2, x3, x4⟩ := id htk
  have xb := htk.bd h1.1 h1.2
  have t1 := tk_bd F h1.1 h1.2
  have t2 := tk_bd F (n := n) (i := tkE F n tp) (by omega) (by omega)
  have t3 := tk_bd F (n := n) (i := tkE F n (tkE F n tp)) (by omega) (by omega)
  have t4 := tk_bd F (n := n) (i := tkE F n (tkE F n (tkE F n tp))) (by omega) (by omega)
  refine lv_aload_n S.1 S.2.1 dX2_parseBottom_0 rfl (lv_at hl 0 rfl) ?_
  refine g_get S C hG iX20 0 rfl rfl 7 (by decide) (List.mem_of_getElem? (i := 1) rfl) rfl dX2_parseBottom_1 ?_
  refine g_if_eq (tgt := 13) S dX2_parseBottom_4 (by decide) (by omega) (fun q4 => ?_) (fun q4 => ?_)
  · skip
    refine lv_aload_n S.1 S.2.1 dX2_parseBottom_13 rfl (lv_at hl 0 rfl) ?_
    refine g_iconst S dX2_parseBottom_14 ?_
    refine g_put (gs' := [gPrsC K qa tx sc qp qs qk qn qo 1 0 (-1), gBuf K tx bb n F, gScn K sc la lb sa sb ou mi bo ln LF sn SF]) S C hG iX20 tyX2 tyX2_ok nmX2 0 rfl rfl 7 (by decide) (List.mem_of_getElem? (i := 1) rfl) rfl (nz_b (Or.inr rfl)) (fz_b (Or.inr rfl)) (Nat.le_of_ble_eq_true rfl) rfl dX2_parseBottom_15 (fun H locs hG => ?_)
    refine lv_aload_n S.1 S.2.1 dX2_parseBottom_18 rfl (lv_at hl 0 rfl) ?_
    refine g_invVv (As := []) (rest := []) (gs' := (fun u : Int × Int × Int × Int => [gPrsC K qa tx sc u.1 u.2.1 u.2.2.1 u.2.2.2 qo 1 0 (-1), gBuf K tx bb n F, gScn K sc la lb sa sb ou mi bo ln LF sn SF])) S C hG [0, 1] (c_X2_readToken l K qa tx sc qp qs qk qn qo 1 0 (-1) bb n F h0 (by omega)) rfl rfl 0 rfl rfl (cwV 0 S.2.2.2.2 gX2_parseBottom_X2_readToken rfl rfl rfl (by decide +kernel) ⟨Nat.le_of_ble_eq_true rfl, Nat.le_of_ble_eq_true rfl⟩) rfl hl.1 rfl (Nat.le_of_ble_eq_true rfl) dX2_parseBottom_19 ⟨Nat.le_of_ble_eq_true rfl, Nat.le_of_ble_eq_true rfl⟩ (fun _ => Nat.le_of_ble_eq_true rfl) (fun _ => rfl) (fun u H locs hp hG => ?_)
    obtain ⟨qp2_19, qs2_19, qk2_19, qn2_19⟩ := u
    have ht_19 := hp
    have ht_19 : TokI F n qp qp2_19 qs2_19 qk2_19 qn2_19 := ht_19
    have hG : gW K A s.heap [gPrsC K qa tx sc qp2_19 qs2_19 qk2_19 qn2_19 qo 1 0 (-1), gBuf K tx bb n F, gScn K sc la lb sa sb ou mi bo ln LF sn SF] _ _ := hG
    have htk2 : TokI F n (tkE F n tp) qp2_19 qs2_19 qk2_19 qn2_19 := by rw [← x1] <;> exact ht_19
    obtain ⟨y1, y2, y3, y4⟩ := id htk2
    refine lv_aload_n S.1 S.2.1 dX2_parseBottom_22 rfl (lv_at hl 0 rfl) ?_
    refine va_ldcS (q := K.2.2.2.1 5) S.1 S.2.1 S.2.2.2.1 (C.1.2.2.1 _ (List.mem_of_getElem? (l := strW) (i := 5) rfl)) dX2_parseBottom_23 ?_
    refine g_invV (As := [.ref (K.2.2.2.1 5)]) (rest := []) (gs' := (fun u : Unit => [gPrsC K qa tx sc qp2_19 qs2_19 qk2_19 qn2_19 qo 1 0 (-1), gBuf K tx bb n F, gScn K sc la lb sa sb ou mi bo ln LF sn SF])) S C hG [0, 1] (c_X2_isWord l K qa tx sc qp2_19 qs2_19 qk2_19 qn2_19 qo 1 0 (-1) bb n F (tkE F n tp) 5 wMirror h0 (by omega) htk2 tx_mirror (by decide)) rfl rfl 0 rfl rfl (cwV 1 S.2.2.2.2 gX2_parseBottom_X2_isWord rfl rfl rfl (by decide +kernel) ⟨Nat.le_of_ble_eq_true rfl, Nat.le_of_ble_eq_true rfl⟩) rfl hl.1 rfl (Nat.le_of_ble_eq_true rfl) dX2_parseBottom_25 ⟨Nat.le_of_ble_eq_true rfl, Nat.le_of_ble_eq_true rfl⟩ (fun _ => Nat.le_of_ble_eq_true rfl) (fun _ => rfl) (fun v u H locs hp hG => ?_)
    subst hp
    refine lv_istore_n (lv' := [(1, .int (iI (bI (isWd F n (tkE F n tp) wMirror)))), (0, .ref qa)]) S.1 S.2.1 dX2_parseBottom_28 rfl hl (by decide) rfl (fun ls hl => ?_)
    refine lv_iload_n S.1 S.2.1 dX2_parseBottom_29 rfl (lv_at hl 0 rfl) ?_
    refine g_ifne_b (B := (isWd F n (tkE F n tp) wMirror)) (tgt := 48) S dX2_parseBottom_30 (by decide) (fun q30 => ?_) (fun q30 => ?_)
    · skip
      refine lv_aload_n S.1 S.2.1 dX2_parseBottom_48 rfl (lv_at hl 1 rfl) ?_
      refine g_invVv (As := []) (rest := []) (gs' := (fun u : Int × Int × Int × Int => [gPrsC K qa tx sc u.1 u.2.1 u.2.2.1 u.2.2.2 qo 1 0 (-1), gBuf K tx bb n F, gScn K sc la lb sa sb ou mi bo ln LF sn SF])) S C hG [0, 1] (c_X2_readToken l K qa tx sc qp2_19 qs2_19 qk2_19 qn2_19 qo 1 0 (-1) bb n F h0 (by omega)) rfl rfl 0 rfl rfl (cwV 0 S.2.2.2.2 gX2_parseBottom_X2_readToken rfl rfl rfl (by decide +kernel) ⟨Nat.le_of_ble_eq_true rfl, Nat.le_of_ble_eq_true rfl⟩) rfl hl.1 rfl (Nat.le_of_ble_eq_true rfl) dX2_parseBottom_49 ⟨Nat.le_of_ble_eq_true rfl, Nat.le_of_ble_eq_true rfl⟩ (fun _ => Nat.le_of_ble_eq_true rfl) (fun _ => rfl) (fun u H locs hp hG => ?_)
      obtain ⟨qp2_49, qs2_49, qk2_49, qn2_49⟩ := u
      have ht_49 := hp
      have ht_49 : TokI F n qp2_19 qp2_49 qs2_49 qk2_49 qn2_49 := ht_49
      have hG : gW K A s.heap [gPrsC K qa tx sc qp2_49 qs2_49 qk2_49 qn2_49 qo 1 0 (-1), gBuf K tx bb n F, gScn K sc la lb sa sb ou mi bo ln LF sn SF] _ _ := hG
      have htk3 : TokI F n (tkE F n (tkE F n tp)) qp2_49 qs2_49 qk2_49 qn2_49 := by rw [← y1] <;> exact ht_49
      obtain ⟨v1, v2, v3, v4⟩ := id htk3
      refine lv_aload_n S.1 S.2.1 dX2_parseBottom_52 rfl (lv_at hl 1 rfl) ?_
      refine lv_iload_n S.1 S.2.1 dX2_parseBottom_53 rfl (lv_at hl 0 rfl) ?_
      refine g_ifeq_b (B := (isWd F n (tkE F n tp) wMirror)) (tgt := 61) S dX2_parseBottom_54 (by decide) (fun q54 => ?_) (fun q54 => ?_)
      · skip
        exact absurd q30 q54
      · skip
        refine g_iconst S dX2_parseBottom_57 ?_
        refine lv_goto (tgt := 64) S.1 S.2.1 dX2_parseBottom_58 (by decide) ?_
        refine lv_iload_n S.1 S.2.1 dX2_parseBottom_64 rfl (lv_at hl 0 rfl) ?_
        refine g_ifeq_b (B := (isWd F n (tkE F n tp) wMirror)) (tgt := 73) S dX2_parseBottom_65 (by decide) (fun q65 => ?_) (fun q65 => ?_)
        · skip
          exact absurd q30 q65
        · skip
          refine g_bipush S dX2_parseBottom_68 (by decide) ?_
          refine lv_goto (tgt := 76) S.1 S.2.1 dX2_parseBottom_70 (by decide) ?_
          refine g_invV (As := [.int (iI 0), .int (iI 100)]) (rest := []) (gs' := (fun u : Int × Int => [gPrsC K qa tx sc qp2_49 qs2_49 qk2_49 qn2_49 qo 1 u.1 u.2, gBuf K tx bb n F, gScn K sc la lb sa sb ou mi bo ln LF sn SF])) S C hG [0] (c_X2_isNumber l K qa tx sc qp2_49 qs2_49 qk2_49 qn2_49 qo 1 qe qf bb n F (tkE F n (tkE F n tp)) 0 100 h0 (by omega) htk3 (by omega) (by omega)) rfl rfl 0 rfl rfl (cwV 2 S.2.2.2.2 gX2_parseBottom_X2_isNumber rfl rfl rfl (by decide +kernel) ⟨Nat.le_of_ble_eq_true rfl, Nat.le_of_ble_eq_true rfl⟩) rfl hl.1 rfl (Nat.le_of_ble_eq_true rfl) dX2_parseBottom_76 ⟨Nat.le_of_ble_eq_true rfl, Nat.le_of_ble_eq_true rfl⟩ (fun _ => Nat.le_of_ble_eq_true rfl) (fun _ => rfl) (fun v u H locs hp hG => ?_)
          obtain ⟨qe2_76, qf2_76⟩ := u
          obtain ⟨rfl, he_76⟩ := hp
          have he_76 : ErI (numE F n (tkE F n (tkE F n tp)) 0 100) qe2_76 qf2_76 := he_76
          have hG : gW K A s.heap [gPrsC K qa tx sc qp2_49 qs2_49 qk2_49 qn2_49 qo 1 qe2_76 qf2_76, gBuf K tx bb n F, gScn K sc la lb sa sb ou mi bo ln LF sn SF] _ _ := hG
          refine g_ifne_b (B := (okE (numE F n (tkE F n (tkE F n tp)) 0 100))) (tgt := 84) S dX2_parseBottom_79 (by decide) (fun q79 => ?_) (fun q79 => ?_)
          · skip
            obtain ⟨rfl, rfl⟩ := erI_ok q79 he_76
            have hv9 : qn2_49 = tkV F n (tkE F n (tkE F n tp)) := v4 (by rw [v3] <;> exact (numE_ok q79).2.1)
            have hv8 := (numE_ok q79).2.2
            have hs9 := t3.2.1 (by rw [(numE_ok q79).2.1] <;> decide)
            refine lv_aload_n S.1 S.2.1 dX2_parseBottom_84 rfl (lv_at hl 1 rfl) ?_
            refine g_get S C hG iX20 0 rfl rfl 1 (by decide) (List.mem_of_getElem? (i := 2) rfl) rfl dX2_parseBottom_85 ?_
            refine lv_iload_n S.1 S.2.1 dX2_parseBottom_88 rfl (lv_at hl 0 rfl) ?_
            refine lv_aload_n S.1 S.2.1 dX2_parseBottom_89 rfl (lv_at hl 1 rfl) ?_
            refine g_invV (As := []) (rest := [.int (iI (bI (isWd F n (tkE F n tp) wMirror))), .ref sc]) (gs' := (fun u : Int × Int × Int × Int => [gPrsC K qa tx sc u.1 u.2.1 u.2.2.1 u.2.2.2 qo 1 0 (-1), gBuf K tx bb n F, gScn K sc la lb sa sb ou mi bo ln LF sn SF])) S C hG [0, 1] (c_X2_takeNumber l K qa tx sc qp2_49 qs2_49 qk2_49 qn2_49 qo 1 0 (-1) bb n F h0 (by omega) (by omega)) rfl rfl 0 rfl rfl (cwV 0 S.2.2.2.2 gX2_parseBottom_X2_takeNumber rfl rfl rfl (by decide +kernel) ⟨Nat.le_of_ble_eq_true rfl, Nat.le_of_ble_eq_true rfl⟩) rfl hl.1 rfl (Nat.le_of_ble_eq_true rfl) dX2_parseBottom_90 ⟨Nat.le_of_ble_eq_true rfl, Nat.le_of_ble_eq_true rfl⟩ (fun _ => Nat.le_of_ble_eq_true rfl) (fun _ => rfl) (fun v u H locs hp hG => ?_)
            obtain ⟨qp2_90, qs2_90, qk2_90, qn2_90⟩ := u
            obtain ⟨rfl, ht_90⟩ := hp
            have ht_90 : TokI F n qp2_49 qp2_90 qs2_90 qk2_90 qn2_90 := ht_90
            have hG : gW K A s.heap [gPrsC K qa tx sc qp2_90 qs2_90 qk2_90 qn2_90 qo 1 0 (-1), gBuf K tx bb n F, gScn K sc la lb sa sb ou mi bo ln LF sn SF] _ _ := hG
            have hG : gW K A s.heap [gPrsC K qa tx sc qp2_90 qs2_90 qk2_90 qn2_90 qo 1 0 (-1), gBuf K tx bb n F, gScC K sc la sa ou mi bo, gTabC K la lb ln, gArr K 60 lb LF, gTabC K sa sb sn, gArr K 60 sb SF] _ _ := hG
            refine g_invVv (As := [.int (iI (bI (isWd F n (tkE F n tp) wMirror))), .int (iI qn2_49)]) (rest := []) (gs' := (fun u : Unit => [gPrsC K qa tx sc qp2_90 qs2_90 qk2_90 qn2_90 qo 1 0 (-1), gBuf K tx bb n F, gScC K sc la sa ou (bI (isWd F n (tkE F n tp) wMirror)) qn2_49, gTabC K la lb ln, gArr K 60 lb LF, gTabC K sa sb sn, gArr K 60 sb SF])) S C hG [2] (c_X5_setBottom l K sc la sa ou mi bo (bI (isWd F n (tkE F n tp) wMirror)) qn2_49 (bI_01 _)) rfl rfl 0 rfl rfl (cwV 2 S.2.2.2.2 gX2_parseBottom_X5_setBottom rfl rfl rfl (by decide +kernel) ⟨Nat.le_of_ble_eq_true rfl, Nat.le_of_ble_eq_true rfl⟩) rfl hl.1 rfl (Nat.le_of_ble_eq_true rfl) dX2_parseBottom_93 ⟨Nat.le_of_ble_eq_true rfl, Nat.le_of_ble_eq_true rfl⟩ (fun _ => Nat.le_of_ble_eq_true rfl) (fun _ => rfl) (fun u H locs hp hG => ?_)
            refine lv_aload_n S.1 S.2.1 dX2_parseBottom_96 rfl (lv_at hl 1 rfl) ?_
            refine g_invV (As := []) (rest := []) (gs' := (fun u : Int × Int × Int × Int × Int × Int => [gPrsC K qa tx sc u.1 u.2.1 u.2.2.1 u.2.2.2.1 qo 1 u.2.2.2.2.1 u.2.2.2.2.2, gBuf K tx bb n F, gScC K sc la sa ou (bI (isWd F n (tkE F n tp) wMirror)) qn2_49, gTabC K la lb ln, gArr K 60 lb LF, gTabC K sa sb sn, gArr K 60 sb SF])) S C hG [0, 1] (c_X2_takeSemicolon l K qa tx sc qp2_90 qs2_90 qk2_90 qn2_90 qo 1 qe qf bb n F (tkE F n (tkE F n (tkE F n tp))) h0 (by omega) (by rw [← v1] <;> exact ht_90)) rfl rfl 0 rfl rfl (cwV 0 S.2.2.2.2 gX2_parseBottom_X2_takeSemicolon rfl rfl rfl (by decide +kernel) ⟨Nat.le_of_ble_eq_true rfl, Nat.le_of_ble_eq_true rfl⟩) rfl hl.1 rfl (Nat.le_of_ble_eq_true rfl) dX2_parseBottom_97 ⟨Nat.le_of_ble_eq_true rfl, Nat.le_of_ble_eq_true rfl⟩ (fun _ => Nat.le_of_ble_eq_true rfl) (fun _ => rfl) (fun v u H locs hp hG => ?_)
            obtain ⟨qp2_97, qs2_97, qk2_97, qn2_97, qe2_97, qf2_97⟩ := u
            obtain ⟨rfl, he_97, ht2_97⟩ := hp
            have he_97 : ErI (smE F n (tkE F n (tkE F n (tkE F n tp)))) qe2_97 qf2_97 := he_97
            have ht2_97 : okE (smE F n (tkE F n (tkE F n (tkE F n tp)))) → TokI F n (tkE F n (tkE F n (tkE F n (tkE F n tp)))) qp2_97 qs2_97 qk2_97 qn2_97 := ht2_97
            have hG : gW K A s.heap [gPrsC K qa tx sc qp2_97 qs2_97 qk2_97 qn2_97 qo 1 qe2_97 qf2_97, gBuf K tx bb n F, gScC K sc la sa ou (bI (isWd F n (tkE F n tp) wMirror)) qn2_49, gTabC K la lb ln, gArr K 60 lb LF, gTabC K sa sb sn, gArr K 60 sb SF] _ _ := hG
            have hG : gW K A s.heap [gPrsC K qa tx sc qp2_97 qs2_97 qk2_97 qn2_97 qo 1 qe2_97 qf2_97, gBuf K tx bb n F, gScn K sc la lb sa sb ou (bI (isWd F n (tkE F n tp) wMirror)) qn2_49 ln LF sn SF] _ _ := hG
            exact g_zret S hr hlk hQ (bI_01 _) dX2_parseBottom_100 (Nat.le_of_ble_eq_true rfl) (Nat.le_of_ble_eq_true rfl) ((qp2_97, qs2_97, qk2_97, qn2_97, qo, 1, qe2_97, qf2_97, ou, (bI (isWd F n (tkE F n tp) wMirror)), qn2_49, ln, LF, sn, SF) : Int × Int × Int × Int × Int × Int × Int × Int × Int × Int × Int × Int × (Int → Int) × Int × (Int → Int)) ⟨(congrArg (fun z : Int => Value.int (iI z)) (by rw [botE_m (by omega) q30, pb_inr (numE_ok q79).1] <;> exact bI_pb _ _)), (by rw [botE_m (by omega) q30, pb_inr (numE_ok q79).1] <;> exact erI_pb he_97), (by rw [botE_m (by omega) q30, pb_inr (numE_ok q79).1] <;> exact StmR.pb (fun q => ⟨ht2_97 q, by omega, by rw [bI_t q30, ← hv9] <;> exact hS.up23 1 _, hN.up23 (by omega), ⟨rfl, rfl⟩, hqo, Or.inr rfl⟩))⟩ hG
          · skip
            refine g_iconst S dX2_parseBottom_82 ?_
            have hG : gW K A s.heap [gPrsC K qa tx sc qp2_49 qs2_49 qk2_49 qn2_49 qo 1 qe2_76 qf2_76, gBuf K tx bb n F, gScn K sc la lb sa sb ou mi bo ln LF sn SF] _ _ := hG
            exact g_zret S hr hlk hQ (Or.inl rfl) dX2_parseBottom_83 (Nat.le_of_ble_eq_true rfl) (Nat.le_of_ble_eq_true rfl) ((qp2_49, qs2_49, qk2_49, qn2_49, qo, 1, qe2_76, qf2_76, ou, mi, bo, ln, LF, sn, SF) : Int × Int × Int × Int × Int × Int × Int × Int × Int × Int × Int × Int × (Int → Int) × Int × (Int → Int)) ⟨(congrArg (fun z : Int => Value.int (iI z)) (bI_f (by rw [botE_m (by omega) q30] <;> exact (pb_no q79 he_76).1)).symm), (by rw [botE_m (by omega) q30] <;> exact (pb_no q79 he_76).2), (StmR.no (by rw [botE_m (by omega) q30] <;> exact (pb_no q79 he_76).1))⟩ hG
    · skip
      refine lv_aload_n S.1 S.2.1 dX2_parseBottom_33 rfl (lv_at hl 1 rfl) ?_
      refine va_ldcS (q := K.2.2.2.1 6) S.1 S.2.1 S.2.2.2.1 (C.1.2.2.1 _ (List.mem_of_getElem? (l := strW) (i := 6) rfl)) dX2_parseBottom_34 ?_
      refine g_invV (As := [.ref (K.2.2.2.1 6)]) (rest := []) (gs' := (fun u : Unit => [gPrsC K qa tx sc qp2_19 qs2_19 qk2_19 qn2_19 qo 1 0 (-1), gBuf K tx bb n F, gScn K sc la lb sa sb ou mi bo ln LF sn SF])) S C hG [0, 1] (c_X2_isWord l K qa tx sc qp2_19 qs2_19 qk2_19 qn2_19 qo 1 0 (-1) bb n F (tkE F n tp) 6 wOpen h0 (by omega) htk2 tx_open (by decide)) rfl rfl 0 rfl rfl (cwV 1 S.2.2.2.2 gX2_parseBottom_X2_isWord rfl rfl rfl (by decide +kernel) ⟨Nat.le_of_ble_eq_true rfl, Nat.le_of_ble_eq_true rfl⟩) rfl hl.1 rfl (Nat.le_of_ble_eq_true rfl) dX2_parseBottom_36 ⟨Nat.le_of_ble_eq_true rfl, Nat.le_of_ble_eq_true rfl⟩ (fun _ => Nat.le_of_ble_eq_true rfl) (fun _ => rfl) (fun v u H locs hp hG => ?_)
      subst hp
      refine g_ifne_b (B := (isWd F n (tkE F n tp) wOpen)) (tgt := 48) S dX2_parseBottom_39 (by decide) (fun q39 => ?_) (fun q39 => ?_)
      · skip
        refine lv_aload_n S.1 S.2.1 dX2_parseBottom_48 rfl (lv_at hl 1 rfl) ?_
        refine g_invVv (As := []) (rest := []) (gs' := (fun u : Int × Int × Int × Int => [gPrsC K qa tx sc u.1 u.2.1 u.2.2.1 u.2.2.2 qo 1 0 (-1), gBuf K tx bb n F, gScn K sc la lb sa sb ou mi bo ln LF sn SF])) S C hG [0, 1] (c_X2_readToken l K qa tx sc qp2_19 qs2_19 qk2_19 qn2_19 qo 1 0 (-1) bb n F h0 (by omega)) rfl rfl 0 rfl rfl (cwV 0 S.2.2.2.2 gX2_parseBottom_X2_readToken rfl rfl rfl (by decide +kernel) ⟨Nat.le_of_ble_eq_true rfl, Nat.le_of_ble_eq_true rfl⟩) rfl hl.1 rfl (Nat.le_of_ble_eq_true rfl) dX2_parseBottom_49 ⟨Nat.le_of_ble_eq_true rfl, Nat.le_of_ble_eq_true rfl⟩ (fun _ => Nat.le_of_ble_eq_true rfl) (fun _ => rfl) (fun u H locs hp hG => ?_)
        obtain ⟨qp2_49, qs2_49, qk2_49, qn2_49⟩ := u
        have ht_49 := hp
        have ht_49 : TokI F n qp2_19 qp2_49 qs2_49 qk2_49 qn2_49 := ht_49
        have hG : gW K A s.heap [gPrsC K qa tx sc qp2_49 qs2_49 qk2_49 qn2_49 qo 1 0 (-1), gBuf K tx bb n F, gScn K sc la lb sa sb ou mi bo ln LF sn SF] _ _ := hG
        have htk3 : TokI F n (tkE F n (tkE F n tp)) qp2_49 qs2_49 qk2_49 qn2_49 := by rw [← y1] <;> exact ht_49
        obtain ⟨v1, v2, v3, v4⟩ := id htk3
        refine lv_aload_n S.1 S.2.1 dX2_parseBottom_52 rfl (lv_at hl 1 rfl) ?_
        refine lv_iload_n S.1 S.2.1 dX2_parseBottom_53 rfl (lv_at hl 0 rfl) ?_
        refine g_ifeq_b (B := (isWd F n (tkE F n tp) wMirror)) (tgt := 61) S dX2_parseBottom_54 (by decide) (fun q54 => ?_) (fun q54 => ?_)
        · skip
          refine g_sipush S dX2_parseBottom_61 (by decide) ?_
          refine lv_iload_n S.1 S.2.1 dX2_parseBottom_64 rfl (lv_at hl 0 rfl) ?_
          refine g_ifeq_b (B := (isWd F n (tkE F n tp) wMirror)) (tgt := 73) S dX2_parseBottom_65 (by decide) (fun q65 => ?_) (fun q65 => ?_)
          · skip
            refine g_sipush S dX2_parseBottom_73 (by decide) ?_
            refine g_invV (As := [.int (iI 1000), .int (iI 4000)]) (rest := []) (gs' := (fun u : Int × Int => [gPrsC K qa tx sc qp2_49 qs2_49 qk2_49 qn2_49 qo 1 u.1 u.2, gBuf K tx bb n F, gScn K sc la lb sa sb ou mi bo ln LF sn SF])) S C hG [0] (c_X2_isNumber l K qa tx sc qp2_49 qs2_49 qk2_49 qn2_49 qo 1 qe qf bb n F (tkE F n (tkE F n tp)) 1000 4000 h0 (by omega) htk3 (by omega) (by omega)) rfl rfl 0 rfl rfl (cwV 2 S.2.2.2.2 gX2_parseBottom_X2_isNumber rfl rfl rfl (by decide +kernel) ⟨Nat.le_of_ble_eq_true rfl, Nat.le_of_ble_eq_true rfl⟩) rfl hl.1 rfl (Nat.le_of_ble_eq_true rfl) dX2_parseBottom_76 ⟨Nat.le_of_ble_eq_true rfl, Nat.le_of_ble_eq_true rfl⟩ (fun _ => Nat.le_of_ble_eq_true rfl) (fun _ => rfl) (fun v u H locs hp hG => ?_)
            obtain ⟨qe2_76, qf2_76⟩ := u
            obtain ⟨rfl, he_76⟩ := hp
            have he_76 : ErI (numE F n (tkE F n (tkE F n tp)) 1000 4000) qe2_76 qf2_76 := he_76
            have hG : gW K A s.heap [gPrsC K qa tx sc qp2_49 qs2_49 qk2_49 qn2_49 qo 1 qe2_76 qf2_76, gBuf K tx bb n F, gScn K sc la lb sa sb ou mi bo ln LF sn SF] _ _ := hG
            refine g_ifne_b (B := (okE (numE F n (tkE F n (tkE F n tp)) 1000 4000))) (tgt := 84) S dX2_parseBottom_79 (by decide) (fun q79 => ?_) (fun q79 => ?_)
            · skip
              obtain ⟨rfl, rfl⟩ := erI_ok q79 he_76
              have hv9 : qn2_49 = tkV F n (tkE F n (tkE F n tp)) := v4 (by rw [v3] <;> exact (numE_ok q79).2.1)
              have hv8 := (numE_ok q79).2.2
              have hs9 := t3.2.1 (by rw [(numE_ok q79).2.1] <;> decide)
              refine lv_aload_n S.1 S.2.1 dX2_parseBottom_84 rfl (lv_at hl 1 rfl) ?_
              refine g_get S C hG iX20 0 rfl rfl 1 (by decide) (List.mem_of_getElem? (i := 2) rfl) rfl dX2_parseBottom_85 ?_
              refine lv_iload_n S.1 S.2.1 dX2_parseBottom_88 rfl (lv_at hl 0 rfl) ?_
              refine lv_aload_n S.1 S.2.1 dX2_parseBottom_89 rfl (lv_at hl 1 rfl) ?_
              refine g_invV (As := []) (rest := [.int (iI (bI (isWd F n (tkE F n tp) wMirror))), .ref sc]) (gs' := (fun u : Int × Int × Int × Int => [gPrsC K qa tx sc u.1 u.2.1 u.2.2.1 u.2.2.2 qo 1 0 (-1), gBuf K tx bb n F, gScn K sc la lb sa sb ou mi bo ln LF sn SF])) S C hG [0, 1] (c_X2_takeNumber l K qa tx sc qp2_49 qs2_49 qk2_49 qn2_49 qo 1 0 (-1) bb n F h0 (by omega) (by omega)) rfl rfl 0 rfl rfl (cwV 0 S.2.2.2.2 gX2_parseBottom_X2_takeNumber rfl rfl rfl (by decide +kernel) ⟨Nat.le_of_ble_eq_true rfl, Nat.le_of_ble_eq_true rfl⟩) rfl hl.1 rfl (Nat.le_of_ble_eq_true rfl) dX2_parseBottom_90 ⟨Nat.le_of_ble_eq_true rfl, Nat.le_of_ble_eq_true rfl⟩ (fun _ => Nat.le_of_ble_eq_true rfl) (fun _ => rfl) (fun v u H locs hp hG => ?_)
              obtain ⟨qp2_90, qs2_90, qk2_90, qn2_90⟩ := u
              obtain ⟨rfl, ht_90⟩ := hp
              have ht_90 : TokI F n qp2_49 qp2_90 qs2_90 qk2_90 qn2_90 := ht_90
              have hG : gW K A s.heap [gPrsC K qa tx sc qp2_90 qs2_90 qk2_90 qn2_90 qo 1 0 (-1), gBuf K tx bb n F, gScn K sc la lb sa sb ou mi bo ln LF sn SF] _ _ := hG
              have hG : gW K A s.heap [gPrsC K qa tx sc qp2_90 qs2_90 qk2_90 qn2_90 qo 1 0 (-1), gBuf K tx bb n F, gScC K sc la sa ou mi bo, gTabC K la lb ln, gArr K 60 lb LF, gTabC K sa sb sn, gArr K 60 sb SF] _ _ := hG
              refine g_invVv (As := [.int (iI (bI (isWd F n (tkE F n tp) wMirror))), .int (iI qn2_49)]) (rest := []) (gs' := (fun u : Unit => [gPrsC K qa tx sc qp2_90 qs2_90 qk2_90 qn2_90 qo 1 0 (-1), gBuf K tx bb n F, gScC K sc la sa ou (bI (isWd F n (tkE F n tp) wMirror)) qn2_49, gTabC K la lb ln, gArr K 60 lb LF, gTabC K sa sb sn, gArr K 60 sb SF])) S C hG [2] (c_X5_setBottom l K sc la sa ou mi bo (bI (isWd F n (tkE F n tp) wMirror)) qn2_49 (bI_01 _)) rfl rfl 0 rfl rfl (cwV 2 S.2.2.2.2 gX2_parseBottom_X5_setBottom rfl rfl rfl (by decide +kernel) ⟨Nat.le_of_ble_eq_true rfl, Nat.le_of_ble_eq_true rfl⟩) rfl hl.1 rfl (Nat.le_of_ble_eq_true rfl) dX2_parseBottom_93 ⟨Nat.le_of_ble_eq_true rfl, Nat.le_of_ble_eq_true rfl⟩ (fun _ => Nat.le_of_ble_eq_true rfl) (fun _ => rfl) (fun u H locs hp hG => ?_)
              refine lv_aload_n S.1 S.2.1 dX2_parseBottom_96 rfl (lv_at hl 1 rfl) ?_
              refine g_invV (As := []) (rest := []) (gs' := (fun u : Int × Int × Int × Int × Int × Int => [gPrsC K qa tx sc u.1 u.2.1 u.2.2.1 u.2.2.2.1 qo 1 u.2.2.2.2.1 u.2.2.2.2.2, gBuf K tx bb n F, gScC K sc la sa ou (bI (isWd F n (tkE F n tp) wMirror)) qn2_49, gTabC K la lb ln, gArr K 60 lb LF, gTabC K sa sb sn, gArr K 60 sb SF])) S C hG [0, 1] (c_X2_takeSemicolon l K qa tx sc qp2_90 qs2_90 qk2_90 qn2_90 qo 1 qe qf bb n F (tkE F n (tkE F n (tkE F n tp))) h0 (by omega) (by rw [← v1] <;> exact ht_90)) rfl rfl 0 rfl rfl (cwV 0 S.2.2.2.2 gX2_parseBottom_X2_takeSemicolon rfl rfl rfl (by decide +kernel) ⟨Nat.le_of_ble_eq_true rfl, Nat.le_of_ble_eq_true rfl⟩) rfl hl.1 rfl (Nat.le_of_ble_eq_true rfl) dX2_parseBottom_97 ⟨Nat.le_of_ble_eq_true rfl, Nat.le_of_ble_eq_true rfl⟩ (fun _ => Nat.le_of_ble_eq_true rfl) (fun _ => rfl) (fun v u H locs hp hG => ?_)
              obtain ⟨qp2_97, qs2_97, qk2_97, qn2_97, qe2_97, qf2_97⟩ := u
              obtain ⟨rfl, he_97, ht2_97⟩ := hp
              have he_97 : ErI (smE F n (tkE F n (tkE F n (tkE F n tp)))) qe2_97 qf2_97 := he_97
              have ht2_97 : okE (smE F n (tkE F n (tkE F n (tkE F n tp)))) → TokI F n (tkE F n (tkE F n (tkE F n (tkE F n tp)))) qp2_97 qs2_97 qk2_97 qn2_97 := ht2_97
              have hG : gW K A s.heap [gPrsC K qa tx sc qp2_97 qs2_97 qk2_97 qn2_97 qo 1 qe2_97 qf2_97, gBuf K tx bb n F, gScC K sc la sa ou (bI (isWd F n (tkE F n tp) wMirror)) qn2_49, gTabC K la lb ln, gArr K 60 lb LF, gTabC K sa sb sn, gArr K 60 sb SF] _ _ := hG
              have hG : gW K A s.heap [gPrsC K qa tx sc qp2_97 qs2_97 qk2_97 qn2_97 qo 1 qe2_97 qf2_97, gBuf K tx bb n F, gScn K sc la lb sa sb ou (bI (isWd F n (tkE F n tp) wMirror)) qn2_49 ln LF sn SF] _ _ := hG
              exact g_zret S hr hlk hQ (bI_01 _) dX2_parseBottom_100 (Nat.le_of_ble_eq_true rfl) (Nat.le_of_ble_eq_true rfl) ((qp2_97, qs2_97, qk2_97, qn2_97, qo, 1, qe2_97, qf2_97, ou, (bI (isWd F n (tkE F n tp) wMirror)), qn2_49, ln, LF, sn, SF) : Int × Int × Int × Int × Int × Int × Int × Int × Int × Int × Int × Int × (Int → Int) × Int × (Int → Int)) ⟨(congrArg (fun z : Int => Value.int (iI z)) (by rw [botE_o (by omega) q30 q39, pb_inr (numE_ok q79).1] <;> exact bI_pb _ _)), (by rw [botE_o (by omega) q30 q39, pb_inr (numE_ok q79).1] <;> exact erI_pb he_97), (by rw [botE_o (by omega) q30 q39, pb_inr (numE_ok q79).1] <;> exact StmR.pb (fun q => ⟨ht2_97 q, by omega, by rw [bI_f q30, ← hv9] <;> exact hS.up23 0 _, hN.up23 (by omega), ⟨rfl, rfl⟩, hqo, Or.inr rfl⟩))⟩ hG
            · skip
              refine g_iconst S dX2_parseBottom_82 ?_
              have hG : gW K A s.heap [gPrsC K qa tx sc qp2_49 qs2_49 qk2_49 qn2_49 qo 1 qe2_76 qf2_76, gBuf K tx bb n F, gScn K sc la lb sa sb ou mi bo ln LF sn SF] _ _ := hG
              exact g_zret S hr hlk hQ (Or.inl rfl) dX2_parseBottom_83 (Nat.le_of_ble_eq_true rfl) (Nat.le_of_ble_eq_true rfl) ((qp2_49, qs2_49, qk2_49, qn2_49, qo, 1, qe2_76, qf2_76, ou, mi, bo, ln, LF, sn, SF) : Int × Int × Int × Int × Int × Int × Int × Int × Int × Int × Int × Int × (Int → Int) × Int × (Int → Int)) ⟨(congrArg (fun z : Int => Value.int (iI z)) (bI_f (by rw [botE_o (by omega) q30 q39] <;> exact (pb_no q79 he_76).1)).symm), (by rw [botE_o (by omega) q30 q39] <;> exact (pb_no q79 he_76).2), (StmR.no (by rw [botE_o (by omega) q30 q39] <;> exact (pb_no q79 he_76).1))⟩ hG
          · skip
            exact absurd q65 q30
        · skip
          exact absurd q54 q30
      · skip
        refine lv_aload_n S.1 S.2.1 dX2_parseBottom_42 rfl (lv_at hl 1 rfl) ?_
        refine g_iconst S dX2_parseBottom_43 ?_
        refine g_invV (As := [.int (iI 1)]) (rest := []) (gs' := (fun u : Unit => [gPrsC K qa tx sc qp2_19 qs2_19 qk2_19 qn2_19 qo 1 1 qs2_19, gBuf K tx bb n F, gScn K sc la lb sa sb ou mi bo ln LF sn SF])) S C hG [0] (c_X2_fail l K qa tx sc qp2_19 qs2_19 qk2_19 qn2_19 qo 1 0 (-1) 1) rfl rfl 0 rfl rfl (cwV 1 S.2.2.2.2 gX2_parseBottom_X2_fail rfl rfl rfl (by decide +kernel) ⟨Nat.le_of_ble_eq_true rfl, Nat.le_of_ble_eq_true rfl⟩) rfl hl.1 rfl (Nat.le_of_ble_eq_true rfl) dX2_parseBottom_44 ⟨Nat.le_of_ble_eq_true rfl, Nat.le_of_ble_eq_true rfl⟩ (fun _ => Nat.le_of_ble_eq_true rfl) (fun _ => rfl) (fun v u H locs hp hG => ?_)
        subst hp
        have hG : gW K A s.heap [gPrsC K qa tx sc qp2_19 qs2_19 qk2_19 qn2_19 qo 1 1 qs2_19, gBuf K tx bb n F, gScn K sc la lb sa sb ou mi bo ln LF sn SF] _ _ := hG
        exact g_zret S hr hlk hQ (Or.inl rfl) dX2_parseBottom_47 (Nat.le_of_ble_eq_true rfl) (Nat.le_of_ble_eq_true rfl) ((qp2_19, qs2_19, qk2_19, qn2_19, qo, 1, 1, qs2_19, ou, mi, bo, ln, LF, sn, SF) : Int × Int × Int × Int × Int × Int × Int × Int × Int × Int × Int × Int × (Int → Int) × Int × (Int → Int)) ⟨(congrArg (fun z : Int => Value.int (iI z)) (bI_f (by rw [botE_x (by omega) q30 q39] <;> exact (fl_er F n (tkE F n tp) 1).1)).symm), (by rw [botE_x (by omega) q30 q39] <;> exact ⟨rfl, y2⟩), (StmR.no (by rw [botE_x (by omega) q30 q39] <;> exact (fl_er F n (tkE F n tp) 1).1))⟩ hG
  · skip
    refine lv_aload_n S.1 S.2.1 dX2_parseBottom_7 rfl (lv_at hl 0 rfl) ?_
    refine g_iconst S dX2_parseBottom_8 ?_
    refine g_invV (As := [.int (iI 3)]) (rest := []) (gs' := (fun u : Unit => [gPrsC K qa tx sc qp qs qk qn qo qb 3 qs, gBuf K tx bb n F, gScn K sc la lb sa sb ou mi bo ln LF sn SF])) S C hG [0] (c_X2_fail l K qa tx sc qp qs qk qn qo qb 0 (-1) 3) rfl rfl 0 rfl rfl (cwV 1 S.2.2.2.2 gX2_parseBottom_X2_fail rfl rfl rfl (by decide +kernel) ⟨Nat.le_of_ble_eq_true rfl, Nat.le_of_ble_eq_true rfl⟩) rfl hl.1 rfl (Nat.le_of_ble_eq_true rfl) dX2_parseBottom_9 ⟨Nat.le_of_ble_eq_true rfl, Nat.le_of_ble_eq_true rfl⟩ (fun _ => Nat.le_of_ble_eq_true rfl) (fun _ => rfl) (fun v u H locs hp hG => ?_)
    subst hp
    have hG : gW K A s.heap [gPrsC K qa tx sc qp qs qk qn qo qb 3 qs, gBuf K tx bb n F, gScn K sc la lb sa sb ou mi bo ln LF sn SF] _ _ := hG
    exact g_zret S hr hlk hQ (Or.inl rfl) dX2_parseBottom_12 (Nat.le_of_ble_eq_true rfl) (Nat.le_of_ble_eq_true rfl) ((qp, qs, qk, qn, qo, qb, 3, qs, ou, mi, bo, ln, LF, sn, SF) : Int × Int × Int × Int × Int × Int × Int × Int × Int × Int × Int × Int × (Int → Int) × Int × (Int → Int)) ⟨(congrArg (fun z : Int => Value.int (iI z)) (bI_f (by rw [botE_3 (by omega)] <;> exact (fl_er F n tp 3).1)).symm), (by rw [botE_3 (by omega)] <;> exact ⟨rfl, x2⟩), (StmR.no (by rw [botE_3 (by omega)] <;> exact (fl_er F n tp 3).1))⟩ hG
