set_option maxHeartbeats 4000000 in
set_option maxRecDepth 100000 in
theorem c_X2_parse (l : Launch) (K : KC) (qa : Nat) (tx : Nat) (sc : Nat) (qp : Int) (qs : Int) (qk : Int) (qn : Int) (qo : Int) (qb : Int) (qe : Int) (qf : Int) (bb : Nat) (n : Int) (F : Int → Int) (la : Nat) (lb : Nat) (sa : Nat) (sb : Nat) (ou : Int) (mi : Int) (bo : Int) (ln : Int) (LF : Int → Int) (sn : Int) (SF : Int → Int) (h0 : 0 ≤ n ∧ n ≤ 400) : mG l yX2_parse wsX2_parse 8 171 K [.ref qa] [gPrsC K qa tx sc qp qs qk qn qo qb qe qf, gBuf K tx bb n F, gScn K sc la lb sa sb ou mi bo ln LF sn SF] (fun (v : Value) (u : Int × Int × Int × Int × Int × Int × Int × Int × Int × Int × Int × Int × (Int → Int) × Int × (Int → Int)) => (v = .int (iI (bI (okE (prsX F n))))) ∧ (ErI (prsX F n) u.2.2.2.2.2.2.1 u.2.2.2.2.2.2.2.1) ∧ (PrsR (prsX F n) u.2.2.2.2.2.2.2.2.1 u.2.2.2.2.2.2.2.2.2.1 u.2.2.2.2.2.2.2.2.2.2.1 u.2.2.2.2.2.2.2.2.2.2.2.1 u.2.2.2.2.2.2.2.2.2.2.2.2.1 u.2.2.2.2.2.2.2.2.2.2.2.2.2.1 u.2.2.2.2.2.2.2.2.2.2.2.2.2.2)) (fun (u : Int × Int × Int × Int × Int × Int × Int × Int × Int × Int × Int × Int × (Int → Int) × Int × (Int → Int)) => [gPrsC K qa tx sc u.1 u.2.1 u.2.2.1 u.2.2.2.1 u.2.2.2.2.1 u.2.2.2.2.2.1 u.2.2.2.2.2.2.1 u.2.2.2.2.2.2.2.1, gBuf K tx bb n F, gScn K sc la lb sa sb u.2.2.2.2.2.2.2.2.1 u.2.2.2.2.2.2.2.2.2.1 u.2.2.2.2.2.2.2.2.2.2.1 u.2.2.2.2.2.2.2.2.2.2.2.1 u.2.2.2.2.2.2.2.2.2.2.2.2.1 u.2.2.2.2.2.2.2.2.2.2.2.2.2.1 u.2.2.2.2.2.2.2.2.2.2.2.2.2.2]) 0 0 := by
  refine mG_of cX2_parse 3 (by decide) rfl (Nat.le_of_ble_eq_true rfl) ?_
  intro p e s m below meth c A ls Q S C hG hl hr hlk hin hQ
  have S : CallFix p m c cX2_parse 3 s ([.ref qa] : List Value).toArray wsX2_parse RX2 := S
  have iX20 : ∀ w ∈ wsX20, w ∈ wsX2_parse := fun _ h => List.mem_cons_of_mem _ (List.mem_append_left _ (List.mem_append_left _ (List.mem_append_left _ (List.mem_append_left _ (List.mem_append_right _ (h))))))
  have iX50 : ∀ w ∈ wsX50, w ∈ wsX2_parse := fun _ h => List.mem_cons_of_mem _ (List.mem_append_left _ (List.mem_append_left _ (List.mem_append_left _ (List.mem_append_right _ (h)))))
  have iX70 : ∀ w ∈ wsX70, w ∈ wsX2_parse := fun _ h => List.mem_cons_of_mem _ (List.mem_append_left _ (List.mem_append_left _ (List.mem_append_right _ (h))))
  have iX00 : ∀ w ∈ wsX00, w ∈ wsX2_parse := fun _ h => List.mem_cons_of_mem _ (List.mem_append_left _ (List.mem_append_right _ (h)))
  have hl : lv_has ls 3 [(0, .ref qa)] := hl
  have hG : gW K A s.heap [gPrsC K qa tx sc qp qs qk qn qo qb qe qf, gBuf K tx bb n F, gScn K sc la lb sa sb ou mi bo ln LF sn SF] s.heap [] := hG
  refine lv_aload_n S.1 S.2.1 dX2_parse_0 rfl (lv_at hl 0 rfl) ?_
  refine g_get S C hG iX20 0 rfl rfl 1 (by decide) (List.mem_of_getElem? (i := 1) rfl) rfl dX2_parse_1 ?_
  refine g_invVv (As := []) (rest := []) (gs' := (fun u : Unit => [gPrsC K qa tx sc qp qs qk qn qo qb qe qf, gBuf K tx bb n F, gScn K sc la lb sa sb 1000 0 1000 0 LF 0 SF])) S C hG [2] (c_X5_empty l K sc la lb sa sb ou mi bo ln LF sn SF) rfl rfl 0 rfl rfl (cwV 0 S.2.2.2.2 gX2_parse_X5_empty rfl rfl rfl (by decide +kernel) ⟨Nat.le_of_ble_eq_true rfl, Nat.le_of_ble_eq_true rfl⟩) rfl hl.1 rfl (Nat.le_of_ble_eq_true rfl) dX2_parse_4 ⟨Nat.le_of_ble_eq_true rfl, Nat.le_of_ble_eq_true rfl⟩ (fun _ => Nat.le_of_ble_eq_true rfl) (fun _ => rfl) (fun u H locs hp hG => ?_)
  refine lv_aload_n S.1 S.2.1 dX2_parse_7 rfl (lv_at hl 0 rfl) ?_
  refine g_iconst S dX2_parse_8 ?_
  refine g_put (gs' := [gPrsC K qa tx sc 0 qs qk qn qo qb qe qf, gBuf K tx bb n F, gScn K sc la lb sa sb 1000 0 1000 0 LF 0 SF]) S C hG iX20 tyX2 tyX2_ok nmX2 0 rfl rfl 2 (by decide) (List.mem_of_getElem? (i := 2) rfl) rfl rfl rfl (Nat.le_of_ble_eq_true rfl) rfl dX2_parse_9 (fun H locs hG => ?_)
  refine lv_aload_n S.1 S.2.1 dX2_parse_12 rfl (lv_at hl 0 rfl) ?_
  refine g_iconst S dX2_parse_13 ?_
  refine g_put (gs' := [gPrsC K qa tx sc 0 qs qk qn 0 qb qe qf, gBuf K tx bb n F, gScn K sc la lb sa sb 1000 0 1000 0 LF 0 SF]) S C hG iX20 tyX2 tyX2_ok nmX2 0 rfl rfl 6 (by decide) (List.mem_of_getElem? (i := 3) rfl) rfl (nz_b (Or.inl rfl)) (fz_b (Or.inl rfl)) (Nat.le_of_ble_eq_true rfl) rfl dX2_parse_14 (fun H locs hG => ?_)
  refine lv_aload_n S.1 S.2.1 dX2_parse_17 rfl (lv_at hl 0 rfl) ?_
  refine g_iconst S dX2_parse_18 ?_
  refine g_put (gs' := [gPrsC K qa tx sc 0 qs qk qn 0 0 qe qf, gBuf K tx bb n F, gScn K sc la lb sa sb 1000 0 1000 0 LF 0 SF]) S C hG iX20 tyX2 tyX2_ok nmX2 0 rfl rfl 7 (by decide) (List.mem_of_getElem? (i := 4) rfl) rfl (nz_b (Or.inl rfl)) (fz_b (Or.inl rfl)) (Nat.le_of_ble_eq_true rfl) rfl dX2_parse_19 (fun H locs hG => ?_)
  refine lv_aload_n S.1 S.2.1 dX2_parse_22 rfl (lv_at hl 0 rfl) ?_
  refine g_iconst S dX2_parse_23 ?_
  refine g_put (gs' := [gPrsC K qa tx sc 0 qs qk qn 0 0 0 qf, gBuf K tx bb n F, gScn K sc la lb sa sb 1000 0 1000 0 LF 0 SF]) S C hG iX20 tyX2 tyX2_ok nmX2 0 rfl rfl 8 (by decide) (List.mem_of_getElem? (i := 5) rfl) rfl rfl rfl (Nat.le_of_ble_eq_true rfl) rfl dX2_parse_24 (fun H locs hG => ?_)
  refine lv_aload_n S.1 S.2.1 dX2_parse_27 rfl (lv_at hl 0 rfl) ?_
  refine g_iconst S dX2_parse_28 ?_
  refine g_put (gs' := [gPrsC K qa tx sc 0 qs qk qn 0 0 0 (-1), gBuf K tx bb n F, gScn K sc la lb sa sb 1000 0 1000 0 LF 0 SF]) S C hG iX20 tyX2 tyX2_ok nmX2 0 rfl rfl 9 (by decide) (List.mem_of_getElem? (i := 6) rfl) rfl rfl rfl (Nat.le_of_ble_eq_true rfl) rfl dX2_parse_29 (fun H locs hG => ?_)
  refine lv_aload_n S.1 S.2.1 dX2_parse_32 rfl (lv_at hl 0 rfl) ?_
  refine g_invVv (As := []) (rest := []) (gs' := (fun u : Int × Int × Int × Int => [gPrsC K qa tx sc u.1 u.2.1 u.2.2.1 u.2.2.2 0 0 0 (-1), gBuf K tx bb n F, gScn K sc la lb sa sb 1000 0 1000 0 LF 0 SF])) S C hG [0, 1] (c_X2_readToken l K qa tx sc 0 qs qk qn 0 0 0 (-1) bb n F h0 (by omega)) rfl rfl 0 rfl rfl (cwV 0 S.2.2.2.2 gX2_parse_X2_readToken rfl rfl rfl (by decide +kernel) ⟨Nat.le_of_ble_eq_true rfl, Nat.le_of_ble_eq_true rfl⟩) rfl hl.1 rfl (Nat.le_of_ble_eq_true rfl) dX2_parse_33 ⟨Nat.le_of_ble_eq_true rfl, Nat.le_of_ble_eq_true rfl⟩ (fun _ => Nat.le_of_ble_eq_true rfl) (fun _ => rfl) (fun u H locs hp hG => ?_)
  obtain ⟨qp2_33, qs2_33, qk2_33, qn2_33⟩ := u
  have ht_33 := hp
  have ht_33 : TokI F n 0 qp2_33 qs2_33 qk2_33 qn2_33 := ht_33
  have hG : gW K A s.heap [gPrsC K qa tx sc qp2_33 qs2_33 qk2_33 qn2_33 0 0 0 (-1), gBuf K tx bb n F, gScn K sc la lb sa sb 1000 0 1000 0 LF 0 SF] _ _ := hG
  refine lv_aload_n S.1 S.2.1 dX2_parse_36 rfl (lv_at hl 0 rfl) ?_
  refine g_invV (As := []) (rest := []) (gs' := (fun u : Int × Int × Int × Int × Int × Int × Int × Int × Int × Int × Int × Int × (Int → Int) × Int × (Int → Int) => [gPrsC K qa tx sc u.1 u.2.1 u.2.2.1 u.2.2.2.1 u.2.2.2.2.1 u.2.2.2.2.2.1 u.2.2.2.2.2.2.1 u.2.2.2.2.2.2.2.1, gBuf K tx bb n F, gScn K sc la lb sa sb u.2.2.2.2.2.2.2.2.1 u.2.2.2.2.2.2.2.2.2.1 u.2.2.2.2.2.2.2.2.2.2.1 u.2.2.2.2.2.2.2.2.2.2.2.1 u.2.2.2.2.2.2.2.2.2.2.2.2.1 u.2.2.2.2.2.2.2.2.2.2.2.2.2.1 u.2.2.2.2.2.2.2.2.2.2.2.2.2.2])) S C hG [0, 1, 2] (c_X2_parseStatement l K qa tx sc qp2_33 qs2_33 qk2_33 qn2_33 0 0 qe qf bb n F la lb sa sb 1000 0 1000 0 LF 0 SF eN0 0 h0 (by omega) ht_33 (eN0_sc LF SF) eN0_ok (Or.inl rfl) (Or.inl rfl)) rfl rfl 0 rfl rfl (cwV 0 S.2.2.2.2 gX2_parse_X2_parseStatement rfl rfl rfl (by decide +kernel) ⟨Nat.le_of_ble_eq_true rfl, Nat.le_of_ble_eq_true rfl⟩) rfl hl.1 rfl (Nat.le_of_ble_eq_true rfl) dX2_parse_37 ⟨Nat.le_of_ble_eq_true rfl, Nat.le_of_ble_eq_true rfl⟩ (fun _ => Nat.le_of_ble_eq_true rfl) (fun _ => rfl) (fun v u H locs hp hG => ?_)
  obtain ⟨qp2_37, qs2_37, qk2_37, qn2_37, qo2_37, qb2_37, qe2_37, qf2_37, ou2_37, mi2_37, bo2_37, ln2_37, LF2_37, sn2_37, SF2_37⟩ := u
  obtain ⟨rfl, he_37, hres_37⟩ := hp
  have he_37 : ErI (stmE F n 0 eN0 0 0) qe2_37 qf2_37 := he_37
  have hres_37 : StmR F n 0 (stmE F n 0 eN0 0 0) qp2_37 qs2_37 qk2_37 qn2_37 qo2_37 qb2_37 ou2_37 mi2_37 bo2_37 ln2_37 LF2_37 sn2_37 SF2_37 := hres_37
  have hG : gW K A s.heap [gPrsC K qa tx sc qp2_37 qs2_37 qk2_37 qn2_37 qo2_37 qb2_37 qe2_37 qf2_37, gBuf K tx bb n F, gScn K sc la lb sa sb ou2_37 mi2_37 bo2_37 ln2_37 LF2_37 sn2_37 SF2_37] _ _ := hG
  refine lv_istore_n (lv' := [(1, .int (iI (bI (okE (stmE F n 0 eN0 0 0))))), (0, .ref qa)]) S.1 S.2.1 dX2_parse_40 rfl hl (by decide) rfl (fun ls hl => ?_)
  refine g_iconst S dX2_parse_41 ?_
  refine lv_istore_n (lv' := [(2, .int (iI 1)), (1, .int (iI (bI (okE (stmE F n 0 eN0 0 0))))), (0, .ref qa)]) S.1 S.2.1 dX2_parse_42 rfl hl (by decide) rfl (fun ls hl => ?_)
  have L43 : ∀ (fu : Nat) (w : Int) (qp9 : Int) (qs9 : Int) (qk9 : Int) (qn9 : Int) (qo9 : Int) (qb9 : Int) (qe9 : Int) (qf9 : Int) (ou9 : Int) (mi9 : Int) (bo9 : Int) (ln9 : Int) (LF9 : Int → Int) (sn9 : Int) (SF9 : Int → Int) (tp9 : Int) (N9 : Int → Int) (o9 : Int) (b9 : Int) (H : Heap) (locs : List Loc) (ls : Array Slot), (((402 : Int) - w).toNat) < fu → (1 ≤ w ∧ w ≤ 401) → (0 ≤ tp9 ∧ tp9 ≤ n) → (w = 1 ∨ w - 1 ≤ tp9 ∧ tp9 < n) → (prsX F n = prsE F n ((401 - w).toNat + 1) tp9 N9 o9 b9) → (ErI (stmE F n tp9 N9 o9 b9) qe9 qf9) → (StmR F n tp9 (stmE F n tp9 N9 o9 b9) qp9 qs9 qk9 qn9 qo9 qb9 ou9 mi9 bo9 ln9 LF9 sn9 SF9) → lv_has ls 3 [(0, .ref qa), (1, .int (iI (bI (okE (stmE F n tp9 N9 o9 b9))))), (2, .int (iI w))] → gW K A s.heap [gPrsC K qa tx sc qp9 qs9 qk9 qn9 qo9 qb9 qe9 qf9, gBuf K tx bb n F, gScn K sc la lb sa sb ou9 mi9 bo9 ln9 LF9 sn9 SF9] H locs → W p l e { frames := 8, cells := 0, slots := 0, locals := 171 } s m ([.ref qa] : List Value).toArray below meth c H locs 0 0 Q (F0 m 43 ls []) := by
    intro fu
    induction fu with
    | zero => intro w qp9 qs9 qk9 qn9 qo9 qb9 qe9 qf9 ou9 mi9 bo9 ln9 LF9 sn9 SF9 tp9 N9 o9 b9 H locs ls hfu; exact absurd hfu (Nat.not_lt_zero _)
    | succ fu ih =>
      intro w qp9 qs9 qk9 qn9 qo9 qb9 qe9 qf9 ou9 mi9 bo9 ln9 LF9 sn9 SF9 tp9 N9 o9 b9 H locs ls hfu hw ht9 hv9 hx9 he9 hr9 hl hG
      refine lv_iload_n S.1 S.2.1 dX2_parse_43 rfl (lv_at hl 2 rfl) ?_
      refine g_sipush S dX2_parse_44 (by decide) ?_
      refine g_icmp_gt (tgt := 72) S dX2_parse_47 (by decide) (by omega) (by omega) (fun q47 => ?_) (fun q47 => ?_)
      · skip
        omega
      · skip
        refine lv_iload_n S.1 S.2.1 dX2_parse_50 rfl (lv_at hl 1 rfl) ?_
        refine g_ifeq_b (B := (okE (stmE F n tp9 N9 o9 b9))) (tgt := 72) S dX2_parse_51 (by decide) (fun q51 => ?_) (fun q51 => ?_)
        · skip
          refine lv_iload_n S.1 S.2.1 dX2_parse_72 rfl (lv_at hl 1 rfl) ?_
          have hG : gW K A s.heap [gPrsC K qa tx sc qp9 qs9 qk9 qn9 qo9 qb9 qe9 qf9, gBuf K tx bb n F, gScn K sc la lb sa sb ou9 mi9 bo9 ln9 LF9 sn9 SF9] _ _ := hG
          exact g_zret S hr hlk hQ (bI_01 _) dX2_parse_73 (Nat.le_of_ble_eq_true rfl) (Nat.le_of_ble_eq_true rfl) ((qp9, qs9, qk9, qn9, qo9, qb9, qe9, qf9, ou9, mi9, bo9, ln9, LF9, sn9, SF9) : Int × Int × Int × Int × Int × Int × Int × Int × Int × Int × Int × Int × (Int → Int) × Int × (Int → Int)) ⟨(congrArg (fun z : Int => Value.int (iI z)) (by rw [bI_f q51, bI_f (prs_no hx9 q51 he9).1])), (prs_no hx9 q51 he9).2, (PrsR.no (prs_no hx9 q51 he9).1)⟩ hG
        · skip
          obtain ⟨rfl, rfl⟩ := erI_ok q51 he9
          obtain ⟨rr, hrr⟩ := okE_inr q51
          obtain ⟨k1, ⟨k2, k3⟩, k4, k5, ⟨k6, k7⟩, k8, k9⟩ := hr9 rr hrr
          obtain ⟨y1, y2, y3, y4⟩ := id k1
          have tb := tk_bd F (n := n) (i := rr.1) (by omega) k3
          refine lv_aload_n S.1 S.2.1 dX2_parse_54 rfl (lv_at hl 0 rfl) ?_
          refine g_get S C hG iX20 0 rfl rfl 4 (by decide) (List.mem_of_getElem? (i := 7) rfl) rfl dX2_parse_55 ?_
          refine g_if_eq (tgt := 72) S dX2_parse_58 (by decide) (by omega) (fun q58 => ?_) (fun q58 => ?_)
          · skip
            refine lv_iload_n S.1 S.2.1 dX2_parse_72 rfl (lv_at hl 1 rfl) ?_
            have hG : gW K A s.heap [gPrsC K qa tx sc qp9 qs9 qk9 qn9 qo9 qb9 0 (-1), gBuf K tx bb n F, gScn K sc la lb sa sb ou9 mi9 bo9 ln9 LF9 sn9 SF9] _ _ := hG
            exact g_zret S hr hlk hQ (bI_01 _) dX2_parse_73 (Nat.le_of_ble_eq_true rfl) (Nat.le_of_ble_eq_true rfl) ((qp9, qs9, qk9, qn9, qo9, qb9, 0, (-1), ou9, mi9, bo9, ln9, LF9, sn9, SF9) : Int × Int × Int × Int × Int × Int × Int × Int × Int × Int × Int × Int × (Int → Int) × Int × (Int → Int)) ⟨(congrArg (fun z : Int => Value.int (iI z)) (by rw [bI_t q51, bI_t (by rw [(prs_end hx9 hrr (by omega))] <;> rfl)])), (by rw [(prs_end hx9 hrr (by omega))] <;> exact ⟨rfl, rfl⟩), (PrsR.yes (prs_end hx9 hrr (by omega)) ⟨k4, k5⟩)⟩ hG
          · skip
            refine lv_aload_n S.1 S.2.1 dX2_parse_61 rfl (lv_at hl 0 rfl) ?_
            refine g_invV (As := []) (rest := []) (gs' := (fun u : Int × Int × Int × Int × Int × Int × Int × Int × Int × Int × Int × Int × (Int → Int) × Int × (Int → Int) => [gPrsC K qa tx sc u.1 u.2.1 u.2.2.1 u.2.2.2.1 u.2.2.2.2.1 u.2.2.2.2.2.1 u.2.2.2.2.2.2.1 u.2.2.2.2.2.2.2.1, gBuf K tx bb n F, gScn K sc la lb sa sb u.2.2.2.2.2.2.2.2.1 u.2.2.2.2.2.2.2.2.2.1 u.2.2.2.2.2.2.2.2.2.2.1 u.2.2.2.2.2.2.2.2.2.2.2.1 u.2.2.2.2.2.2.2.2.2.2.2.2.1 u.2.2.2.2.2.2.2.2.2.2.2.2.2.1 u.2.2.2.2.2.2.2.2.2.2.2.2.2.2])) S C hG [0, 1, 2] (c_X2_parseStatement l K qa tx sc qp9 qs9 qk9 qn9 qo9 qb9 qe qf bb n F la lb sa sb ou9 mi9 bo9 ln9 LF9 sn9 SF9 rr.2.1 rr.1 h0 ⟨by omega, k3⟩ k1 k4 k5 k8 k9) rfl rfl 0 rfl rfl (cwV 0 S.2.2.2.2 gX2_parse_X2_parseStatement rfl rfl rfl (by decide +kernel) ⟨Nat.le_of_ble_eq_true rfl, Nat.le_of_ble_eq_true rfl⟩) rfl hl.1 rfl (Nat.le_of_ble_eq_true rfl) dX2_parse_62 ⟨Nat.le_of_ble_eq_true rfl, Nat.le_of_ble_eq_true rfl⟩ (fun _ => Nat.le_of_ble_eq_true rfl) (fun _ => rfl) (fun v u H locs hp hG => ?_)
            obtain ⟨qp2_62, qs2_62, qk2_62, qn2_62, qo2_62, qb2_62, qe2_62, qf2_62, ou2_62, mi2_62, bo2_62, ln2_62, LF2_62, sn2_62, SF2_62⟩ := u
            obtain ⟨rfl, he_62, hres_62⟩ := hp
            have he_62 : ErI (stmE F n rr.1 rr.2.1 qo9 qb9) qe2_62 qf2_62 := he_62
            have hres_62 : StmR F n rr.1 (stmE F n rr.1 rr.2.1 qo9 qb9) qp2_62 qs2_62 qk2_62 qn2_62 qo2_62 qb2_62 ou2_62 mi2_62 bo2_62 ln2_62 LF2_62 sn2_62 SF2_62 := hres_62
            have hG : gW K A s.heap [gPrsC K qa tx sc qp2_62 qs2_62 qk2_62 qn2_62 qo2_62 qb2_62 qe2_62 qf2_62, gBuf K tx bb n F, gScn K sc la lb sa sb ou2_62 mi2_62 bo2_62 ln2_62 LF2_62 sn2_62 SF2_62] _ _ := hG
            refine lv_istore_n (lv' := [(1, .int (iI (bI (okE (stmE F n rr.1 rr.2.1 qo9 qb9))))), (0, .ref qa), (2, .int (iI w))]) S.1 S.2.1 dX2_parse_65 rfl hl (by decide) rfl (fun ls hl => ?_)
            refine lv_iinc (v := iI (w + 1)) (lv' := [(2, .int (iI (w + 1))), (1, .int (iI (bI (okE (stmE F n rr.1 rr.2.1 qo9 qb9))))), (0, .ref qa)]) S.1 S.2.1 dX2_parse_66 hl (k := 2) rfl (g_iinc rfl) (by decide) rfl (fun ls hl => ?_)
            refine lv_goto (tgt := 43) S.1 S.2.1 dX2_parse_69 (by decide) ?_
            exact ih (w + 1) qp2_62 qs2_62 qk2_62 qn2_62 qo2_62 qb2_62 qe2_62 qf2_62 ou2_62 mi2_62 bo2_62 ln2_62 LF2_62 sn2_62 SF2_62 rr.1 rr.2.1 qo9 qb9 _ _ _ (by omega) (by omega) (by omega) (Or.inr (by have z := tb.2.1 (by omega) <;> omega)) (by rw [prs_next hx9 hrr (by omega), ← k6, ← k7, show (401 - w).toNat = (401 - (w + 1)).toNat + 1 by omega]) he_62 hres_62 (lv_sub hl [2, 1, 0] rfl) hG
  exact L43 (Nat.succ (((402 : Int) - 1).toNat)) 1 qp2_37 qs2_37 qk2_37 qn2_37 qo2_37 qb2_37 qe2_37 qf2_37 ou2_37 mi2_37 bo2_37 ln2_37 LF2_37 sn2_37 SF2_37 0 eN0 0 0 _ _ _ (Nat.lt_succ_self _) (by omega) (by omega) (by omega) rfl he_37 hres_37 (lv_sub hl [2, 1, 0] rfl) hG
