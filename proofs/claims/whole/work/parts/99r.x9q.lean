set_option maxHeartbeats 1000000 in
set_option maxRecDepth 100000 in
theorem c_X9_numberHere (l : Launch) (K : KC) (am : Nat → Nat) (th : Int) (rw : Nat) (lg : Int) (mr : Int) (en : Int) (pw : Int) (sl : Int) (ly : Int) (dn : Int) (iz : Int) (tz : Int) (nx : Int) (st : Int) (tk : Int) (vl : Int) (ef : Int) (ep : Int) (hO : Int) (hB : Int) (ol : Int) (rm : Int) (oz : Int) (IF : Int → Int) (x9 : PE Int) (zlo : Int) (zhi : Int) (htz : 0 ≤ tz ∧ tz ≤ 400) (hM : MSt IF tz x9 nx st tk vl ef ep) (hlo : 0 ≤ zlo ∧ zlo ≤ zhi) (hhi : zhi ≤ 9998) : mG l yX9_numberHere wsX9_numberHere 2 41 K [.ref (am 0), .int (iI zlo), .int (iI zhi)] [gMdl K am th rw lg mr en pw sl ly dn iz tz nx st tk vl ef ep hO hB ol rm oz] (fun (v : Value) (u : Int × Int × Int) => (v = .int (iI u.1)) ∧ (MSt IF tz (pb x9 fun i => pb (numE IF tz i zlo zhi) fun _ => .inr i) nx st tk vl u.2.1 u.2.2) ∧ ((zlo ≤ u.1 ∧ u.1 ≤ zhi) ∧ ∀ i, x9 = .inr i → okE (numE IF tz i zlo zhi) → u.1 = tkV IF tz i)) (fun (u : Int × Int × Int) => [gMdl K am th rw lg mr en pw sl ly dn iz tz nx st tk vl u.2.1 u.2.2 hO hB ol rm oz]) 0 0 := by
  refine mG_of cX9_numberHere 3 (by decide) rfl (Nat.le_of_ble_eq_true rfl) ?_
  intro p e s m below meth c A ls Q S C hG hl hr hlk hin hQ
  have S : CallFix p m c cX9_numberHere 3 s ([.ref (am 0), .int (iI zlo), .int (iI zhi)] : List Value).toArray wsX9_numberHere RX9 := S
  have iX90 : ∀ w ∈ wsX90, w ∈ wsX9_numberHere := fun _ h => List.mem_cons_of_mem _ (List.mem_append_right _ (h))
  have hl : lv_has ls 3 [(0, .ref (am 0)), (1, .int (iI zlo)), (2, .int (iI zhi))] := hl
  have hG : gW K A s.heap [gMdl K am th rw lg mr en pw sl ly dn iz tz nx st tk vl ef ep hO hB ol rm oz] s.heap [] := hG
  have xr := hM.rg
  refine lv_aload_n S.1 S.2.1 dX9_numberHere_0 rfl (lv_at hl 0 rfl) ?_
  refine g_invV (As := []) (rest := []) (gs' := (fun u : Unit => [gMdl K am th rw lg mr en pw sl ly dn iz tz nx st tk vl ef ep hO hB ol rm oz])) S C hG [0] (c_X9_good l K am th rw lg mr en pw sl ly dn iz tz nx st tk vl ef ep hO hB ol rm oz (by omega)) rfl rfl 0 rfl rfl (cwV 0 S.2.2.2.2 gX9_numberHere_X9_good rfl rfl rfl (by decide +kernel) ⟨Nat.le_of_ble_eq_true rfl, Nat.le_of_ble_eq_true rfl⟩) rfl hl.1 rfl (Nat.le_of_ble_eq_true rfl) dX9_numberHere_1 ⟨Nat.le_of_ble_eq_true rfl, Nat.le_of_ble_eq_true rfl⟩ (fun _ => Nat.le_of_ble_eq_true rfl) (fun _ => rfl) (fun v u H locs hp hG => ?_)
  subst hp
  refine g_ifeq_b (B := (ef = 0)) (tgt := 20) S dX9_numberHere_4 (by decide) (fun q4 => ?_) (fun q4 => ?_)
  · skip
    refine lv_aload_n S.1 S.2.1 dX9_numberHere_20 rfl (lv_at hl 0 rfl) ?_
    refine g_invV (As := []) (rest := []) (gs' := (fun u : Unit => [gMdl K am th rw lg mr en pw sl ly dn iz tz nx st tk vl ef ep hO hB ol rm oz])) S C hG [0] (c_X9_good l K am th rw lg mr en pw sl ly dn iz tz nx st tk vl ef ep hO hB ol rm oz (by omega)) rfl rfl 0 rfl rfl (cwV 0 S.2.2.2.2 gX9_numberHere_X9_good rfl rfl rfl (by decide +kernel) ⟨Nat.le_of_ble_eq_true rfl, Nat.le_of_ble_eq_true rfl⟩) rfl hl.1 rfl (Nat.le_of_ble_eq_true rfl) dX9_numberHere_21 ⟨Nat.le_of_ble_eq_true rfl, Nat.le_of_ble_eq_true rfl⟩ (fun _ => Nat.le_of_ble_eq_true rfl) (fun _ => rfl) (fun v u H locs hp hG => ?_)
    subst hp
    refine g_ifeq_b (B := (ef = 0)) (tgt := 47) S dX9_numberHere_24 (by decide) (fun q24 => ?_) (fun q24 => ?_)
    · skip
      refine lv_aload_n S.1 S.2.1 dX9_numberHere_47 rfl (lv_at hl 0 rfl) ?_
      refine g_invV (As := []) (rest := []) (gs' := (fun u : Unit => [gMdl K am th rw lg mr en pw sl ly dn iz tz nx st tk vl ef ep hO hB ol rm oz])) S C hG [0] (c_X9_good l K am th rw lg mr en pw sl ly dn iz tz nx st tk vl ef ep hO hB ol rm oz (by omega)) rfl rfl 0 rfl rfl (cwV 0 S.2.2.2.2 gX9_numberHere_X9_good rfl rfl rfl (by decide +kernel) ⟨Nat.le_of_ble_eq_true rfl, Nat.le_of_ble_eq_true rfl⟩) rfl hl.1 rfl (Nat.le_of_ble_eq_true rfl) dX9_numberHere_48 ⟨Nat.le_of_ble_eq_true rfl, Nat.le_of_ble_eq_true rfl⟩ (fun _ => Nat.le_of_ble_eq_true rfl) (fun _ => rfl) (fun v u H locs hp hG => ?_)
      subst hp
      refine g_ifeq_b (B := (ef = 0)) (tgt := 61) S dX9_numberHere_51 (by decide) (fun q51 => ?_) (fun q51 => ?_)
      · skip
        refine lv_iload_n S.1 S.2.1 dX9_numberHere_61 rfl (lv_at hl 1 rfl) ?_
        have hG : gW K A s.heap [gMdl K am th rw lg mr en pw sl ly dn iz tz nx st tk vl ef ep hO hB ol rm oz] _ _ := hG
        exact g_iret S hr hlk hQ dX9_numberHere_62 (Nat.le_of_ble_eq_true rfl) (Nat.le_of_ble_eq_true rfl) ((zlo, ef, ep) : Int × Int × Int) ⟨rfl, (hM.keep q4 _), ⟨by omega, fun i hx _ => absurd hx (by obtain ⟨a, ha⟩ := hM.bad q4 <;> rw [ha] <;> exact fun z => nomatch z)⟩⟩ hG
      · skip
        omega
    · skip
      omega
  · skip
    obtain ⟨i9, hx9, e9, hi9, ht9⟩ := hM.good q4
    have b9 := ht9.bd hi9.1 hi9.2
    refine lv_aload_n S.1 S.2.1 dX9_numberHere_7 rfl (lv_at hl 0 rfl) ?_
    refine g_get S C hG iX90 0 rfl rfl 23 (by decide) (List.mem_of_getElem? (i := 1) rfl) rfl dX9_numberHere_8 ?_
    refine g_iconst S dX9_numberHere_11 ?_
    refine g_icmp_eq (tgt := 20) S dX9_numberHere_12 (by decide) (by omega) (by omega) (fun q12 => ?_) (fun q12 => ?_)
    · skip
      have b8 := b9.2.2.2.1 (by omega)
      refine lv_aload_n S.1 S.2.1 dX9_numberHere_20 rfl (lv_at hl 0 rfl) ?_
      refine g_invV (As := []) (rest := []) (gs' := (fun u : Unit => [gMdl K am th rw lg mr en pw sl ly dn iz tz nx st tk vl ef ep hO hB ol rm oz])) S C hG [0] (c_X9_good l K am th rw lg mr en pw sl ly dn iz tz nx st tk vl ef ep hO hB ol rm oz (by omega)) rfl rfl 0 rfl rfl (cwV 0 S.2.2.2.2 gX9_numberHere_X9_good rfl rfl rfl (by decide +kernel) ⟨Nat.le_of_ble_eq_true rfl, Nat.le_of_ble_eq_true rfl⟩) rfl hl.1 rfl (Nat.le_of_ble_eq_true rfl) dX9_numberHere_21 ⟨Nat.le_of_ble_eq_true rfl, Nat.le_of_ble_eq_true rfl⟩ (fun _ => Nat.le_of_ble_eq_true rfl) (fun _ => rfl) (fun v u H locs hp hG => ?_)
      subst hp
      refine g_ifeq_b (B := (ef = 0)) (tgt := 47) S dX9_numberHere_24 (by decide) (fun q24 => ?_) (fun q24 => ?_)
      · skip
        omega
      · skip
        refine lv_aload_n S.1 S.2.1 dX9_numberHere_27 rfl (lv_at hl 0 rfl) ?_
        refine g_get S C hG iX90 0 rfl rfl 24 (by decide) (List.mem_of_getElem? (i := 2) rfl) rfl dX9_numberHere_28 ?_
        refine g_i2l S dX9_numberHere_31 (by omega) ?_
        refine lv_iload_n S.1 S.2.1 dX9_numberHere_32 rfl (lv_at hl 1 rfl) ?_
        refine g_i2l S dX9_numberHere_33 (by omega) ?_
        refine lv_iload_n S.1 S.2.1 dX9_numberHere_34 rfl (lv_at hl 2 rfl) ?_
        refine g_i2l S dX9_numberHere_35 (by omega) ?_
        refine g_invS (As := [.long (iL vl), .long (iL zlo), .long (iL zhi)]) (rest := []) (gs' := (fun u : Unit => [gMdl K am th rw lg mr en pw sl ly dn iz tz nx st tk vl ef ep hO hB ol rm oz])) S C hG [] (c_X9_in l K vl zlo zhi (by omega) (by omega) (by omega)) rfl rfl (va_cwS 3 S.2.2.2.2 gX9_numberHere_X9_in rfl rfl rfl (by decide +kernel) ⟨Nat.le_of_ble_eq_true rfl, Nat.le_of_ble_eq_true rfl⟩) rfl hl.1 rfl (Nat.le_of_ble_eq_true rfl) dX9_numberHere_36 ⟨Nat.le_of_ble_eq_true rfl, Nat.le_of_ble_eq_true rfl⟩ (fun _ => Nat.le_of_ble_eq_true rfl) (fun _ => rfl) (fun v u H locs hp hG => ?_)
        subst hp
        refine g_ifne_b (B := (zlo ≤ vl ∧ vl ≤ zhi)) (tgt := 47) S dX9_numberHere_39 (by decide) (fun q39 => ?_) (fun q39 => ?_)
        · skip
          refine lv_aload_n S.1 S.2.1 dX9_numberHere_47 rfl (lv_at hl 0 rfl) ?_
          refine g_invV (As := []) (rest := []) (gs' := (fun u : Unit => [gMdl K am th rw lg mr en pw sl ly dn iz tz nx st tk vl ef ep hO hB ol rm oz])) S C hG [0] (c_X9_good l K am th rw lg mr en pw sl ly dn iz tz nx st tk vl ef ep hO hB ol rm oz (by omega)) rfl rfl 0 rfl rfl (cwV 0 S.2.2.2.2 gX9_numberHere_X9_good rfl rfl rfl (by decide +kernel) ⟨Nat.le_of_ble_eq_true rfl, Nat.le_of_ble_eq_true rfl⟩) rfl hl.1 rfl (Nat.le_of_ble_eq_true rfl) dX9_numberHere_48 ⟨Nat.le_of_ble_eq_true rfl, Nat.le_of_ble_eq_true rfl⟩ (fun _ => Nat.le_of_ble_eq_true rfl) (fun _ => rfl) (fun v u H locs hp hG => ?_)
          subst hp
          refine g_ifeq_b (B := (ef = 0)) (tgt := 61) S dX9_numberHere_51 (by decide) (fun q51 => ?_) (fun q51 => ?_)
          · skip
            omega
          · skip
            refine lv_aload_n S.1 S.2.1 dX9_numberHere_54 rfl (lv_at hl 0 rfl) ?_
            refine g_get S C hG iX90 0 rfl rfl 24 (by decide) (List.mem_of_getElem? (i := 2) rfl) rfl dX9_numberHere_55 ?_
            refine lv_goto (tgt := 62) S.1 S.2.1 dX9_numberHere_58 (by decide) ?_
            have hG : gW K A s.heap [gMdl K am th rw lg mr en pw sl ly dn iz tz nx st tk vl ef ep hO hB ol rm oz] _ _ := hG
            exact g_iret S hr hlk hQ dX9_numberHere_62 (Nat.le_of_ble_eq_true rfl) (Nat.le_of_ble_eq_true rfl) ((vl, ef, ep) : Int × Int × Int) ⟨rfl, (hM.nh3 q4 (by omega) hhi (by omega)).1, ⟨by omega, fun i hx _ => (hM.nh3 q4 (by omega) hhi (by omega)).2 i hx⟩⟩ hG
        · skip
          refine lv_aload_n S.1 S.2.1 dX9_numberHere_42 rfl (lv_at hl 0 rfl) ?_
          refine g_iconst S dX9_numberHere_43 ?_
          refine g_invVv (As := [.int (iI 2)]) (rest := []) (gs' := (fun u : Int × Int => [gMdl K am th rw lg mr en pw sl ly dn iz tz nx st tk vl u.1 u.2 hO hB ol rm oz])) S C hG [0] (c_X9_errs l K am th rw lg mr en pw sl ly dn iz tz nx st tk vl ef ep hO hB ol rm oz IF x9 2 hM (by omega)) rfl rfl 0 rfl rfl (cwV 1 S.2.2.2.2 gX9_numberHere_X9_errs rfl rfl rfl (by decide +kernel) ⟨Nat.le_of_ble_eq_true rfl, Nat.le_of_ble_eq_true rfl⟩) rfl hl.1 rfl (Nat.le_of_ble_eq_true rfl) dX9_numberHere_44 ⟨Nat.le_of_ble_eq_true rfl, Nat.le_of_ble_eq_true rfl⟩ (fun _ => Nat.le_of_ble_eq_true rfl) (fun _ => rfl) (fun u H locs hp hG => ?_)
          obtain ⟨ef2_44, ep2_44⟩ := u
          have hM2_44 := hp
          have hM2_44 : MSt IF tz (pb x9 fun i => fl IF tz i 2) nx st tk vl ef2_44 ep2_44 := hM2_44
          have hG : gW K A s.heap [gMdl K am th rw lg mr en pw sl ly dn iz tz nx st tk vl ef2_44 ep2_44 hO hB ol rm oz] _ _ := hG
          have xe9 := MSt.ne hM2_44
          have xr9 := hM2_44.rg
          refine lv_aload_n S.1 S.2.1 dX9_numberHere_47 rfl (lv_at hl 0 rfl) ?_
          refine g_invV (As := []) (rest := []) (gs' := (fun u : Unit => [gMdl K am th rw lg mr en pw sl ly dn iz tz nx st tk vl ef2_44 ep2_44 hO hB ol rm oz])) S C hG [0] (c_X9_good l K am th rw lg mr en pw sl ly dn iz tz nx st tk vl ef2_44 ep2_44 hO hB ol rm oz (by omega)) rfl rfl 0 rfl rfl (cwV 0 S.2.2.2.2 gX9_numberHere_X9_good rfl rfl rfl (by decide +kernel) ⟨Nat.le_of_ble_eq_true rfl, Nat.le_of_ble_eq_true rfl⟩) rfl hl.1 rfl (Nat.le_of_ble_eq_true rfl) dX9_numberHere_48 ⟨Nat.le_of_ble_eq_true rfl, Nat.le_of_ble_eq_true rfl⟩ (fun _ => Nat.le_of_ble_eq_true rfl) (fun _ => rfl) (fun v u H locs hp hG => ?_)
          subst hp
          refine g_ifeq_b (B := (ef2_44 = 0)) (tgt := 61) S dX9_numberHere_51 (by decide) (fun q51 => ?_) (fun q51 => ?_)
          · skip
            refine lv_iload_n S.1 S.2.1 dX9_numberHere_61 rfl (lv_at hl 1 rfl) ?_
            have hG : gW K A s.heap [gMdl K am th rw lg mr en pw sl ly dn iz tz nx st tk vl ef2_44 ep2_44 hO hB ol rm oz] _ _ := hG
            exact g_iret S hr hlk hQ dX9_numberHere_62 (Nat.le_of_ble_eq_true rfl) (Nat.le_of_ble_eq_true rfl) ((zlo, ef2_44, ep2_44) : Int × Int × Int) ⟨rfl, (hM.nh2 q4 (by omega) hhi (by omega) hM2_44), ⟨by omega, fun i hx ho => absurd (numE_ok ho).2.2 (by have z := hM.vv q4 (by omega) hx <;> omega)⟩⟩ hG
          · skip
            omega
    · skip
      refine lv_aload_n S.1 S.2.1 dX9_numberHere_15 rfl (lv_at hl 0 rfl) ?_
      refine g_iconst S dX9_numberHere_16 ?_
      refine g_invVv (As := [.int (iI 1)]) (rest := []) (gs' := (fun u : Int × Int => [gMdl K am th rw lg mr en pw sl ly dn iz tz nx st tk vl u.1 u.2 hO hB ol rm oz])) S C hG [0] (c_X9_errs l K am th rw lg mr en pw sl ly dn iz tz nx st tk vl ef ep hO hB ol rm oz IF x9 1 hM (by omega)) rfl rfl 0 rfl rfl (cwV 1 S.2.2.2.2 gX9_numberHere_X9_errs rfl rfl rfl (by decide +kernel) ⟨Nat.le_of_ble_eq_true rfl, Nat.le_of_ble_eq_true rfl⟩) rfl hl.1 rfl (Nat.le_of_ble_eq_true rfl) dX9_numberHere_17 ⟨Nat.le_of_ble_eq_true rfl, Nat.le_of_ble_eq_true rfl⟩ (fun _ => Nat.le_of_ble_eq_true rfl) (fun _ => rfl) (fun u H locs hp hG => ?_)
      obtain ⟨ef2_17, ep2_17⟩ := u
      have hM2_17 := hp
      have hM2_17 : MSt IF tz (pb x9 fun i => fl IF tz i 1) nx st tk vl ef2_17 ep2_17 := hM2_17
      have hG : gW K A s.heap [gMdl K am th rw lg mr en pw sl ly dn iz tz nx st tk vl ef2_17 ep2_17 hO hB ol rm oz] _ _ := hG
      have xe9 := MSt.ne hM2_17
      have xr9 := hM2_17.rg
      refine lv_aload_n S.1 S.2.1 dX9_numberHere_20 rfl (lv_at hl 0 rfl) ?_
      refine g_invV (As := []) (rest := []) (gs' := (fun u : Unit => [gMdl K am th rw lg mr en pw sl ly dn iz tz nx st tk vl ef2_17 ep2_17 hO hB ol rm oz])) S C hG [0] (c_X9_good l K am th rw lg mr en pw sl ly dn iz tz nx st tk vl ef2_17 ep2_17 hO hB ol rm oz (by omega)) rfl rfl 0 rfl rfl (cwV 0 S.2.2.2.2 gX9_numberHere_X9_good rfl rfl rfl (by decide +kernel) ⟨Nat.le_of_ble_eq_true rfl, Nat.le_of_ble_eq_true rfl⟩) rfl hl.1 rfl (Nat.le_of_ble_eq_true rfl) dX9_numberHere_21 ⟨Nat.le_of_ble_eq_true rfl, Nat.le_of_ble_eq_true rfl⟩ (fun _ => Nat.le_of_ble_eq_true rfl) (fun _ => rfl) (fun v u H locs hp hG => ?_)
      subst hp
      refine g_ifeq_b (B := (ef2_17 = 0)) (tgt := 47) S dX9_numberHere_24 (by decide) (fun q24 => ?_) (fun q24 => ?_)
      · skip
        refine lv_aload_n S.1 S.2.1 dX9_numberHere_47 rfl (lv_at hl 0 rfl) ?_
        refine g_invV (As := []) (rest := []) (gs' := (fun u : Unit => [gMdl K am th rw lg mr en pw sl ly dn iz tz nx st tk vl ef2_17 ep2_17 hO hB ol rm oz])) S C hG [0] (c_X9_good l K am th rw lg mr en pw sl ly dn iz tz nx st tk vl ef2_17 ep2_17 hO hB ol rm oz (by omega)) rfl rfl 0 rfl rfl (cwV 0 S.2.2.2.2 gX9_numberHere_X9_good rfl rfl rfl (by decide +kernel) ⟨Nat.le_of_ble_eq_true rfl, Nat.le_of_ble_eq_true rfl⟩) rfl hl.1 rfl (Nat.le_of_ble_eq_true rfl) dX9_numberHere_48 ⟨Nat.le_of_ble_eq_true rfl, Nat.le_of_ble_eq_true rfl⟩ (fun _ => Nat.le_of_ble_eq_true rfl) (fun _ => rfl) (fun v u H locs hp hG => ?_)
        subst hp
        refine g_ifeq_b (B := (ef2_17 = 0)) (tgt := 61) S dX9_numberHere_51 (by decide) (fun q51 => ?_) (fun q51 => ?_)
        · skip
          refine lv_iload_n S.1 S.2.1 dX9_numberHere_61 rfl (lv_at hl 1 rfl) ?_
          have hG : gW K A s.heap [gMdl K am th rw lg mr en pw sl ly dn iz tz nx st tk vl ef2_17 ep2_17 hO hB ol rm oz] _ _ := hG
          exact g_iret S hr hlk hQ dX9_numberHere_62 (Nat.le_of_ble_eq_true rfl) (Nat.le_of_ble_eq_true rfl) ((zlo, ef2_17, ep2_17) : Int × Int × Int) ⟨rfl, (hM.nh1 q4 (by omega) hM2_17), ⟨by omega, fun i hx ho => absurd (numE_ok ho).2.1 (by have z := hM.kk q4 hx <;> omega)⟩⟩ hG
        · skip
          omega
      · skip
        omega

set_option maxHeartbeats 1000000 in
set_option maxRecDepth 100000 in
theorem c_X9_number (l : Launch) (K : KC) (am : Nat → Nat) (th : Int) (rw : Nat) (lg : Int) (mr : Int) (en : Int) (pw : Int) (sl : Int) (ly : Int) (dn : Int) (iz : Int) (tz : Int) (nx : Int) (st : Int) (tk : Int) (vl : Int) (ef : Int) (ep : Int) (hO : Int) (hB : Int) (ol : Int) (rm : Int) (oz : Int) (IF : Int → Int) (x9 : PE Int) (zlo : Int) (zhi : Int) (htz : 0 ≤ tz ∧ tz ≤ 400) (hM : MSt IF tz x9 nx st tk vl ef ep) (hlo : 0 ≤ zlo ∧ zlo ≤ zhi) (hhi : zhi ≤ 9998) : mG l yX9_number wsX9_number 3 66 K [.ref (am 0), .int (iI zlo), .int (iI zhi)] [gMdl K am th rw lg mr en pw sl ly dn iz tz nx st tk vl ef ep hO hB ol rm oz, gArrB K 400 (am 10) IF] (fun (v : Value) (u : Int × Int × Int × Int × Int × Int × Int) => (v = .int (iI u.1)) ∧ (MSt IF tz (pb x9 fun i => pb (numE IF tz i zlo zhi) fun _ => .inr (tkE IF tz i)) u.2.1 u.2.2.1 u.2.2.2.1 u.2.2.2.2.1 u.2.2.2.2.2.1 u.2.2.2.2.2.2) ∧ ((zlo ≤ u.1 ∧ u.1 ≤ zhi) ∧ ∀ i, x9 = .inr i → okE (numE IF tz i zlo zhi) → u.1 = tkV IF tz i)) (fun (u : Int × Int × Int × Int × Int × Int × Int) => [gMdl K am th rw lg mr en pw sl ly dn iz tz u.2.1 u.2.2.1 u.2.2.2.1 u.2.2.2.2.1 u.2.2.2.2.2.1 u.2.2.2.2.2.2 hO hB ol rm oz, gArrB K 400 (am 10) IF]) 0 0 := by
  refine mG_of cX9_number 4 (by decide) rfl (Nat.le_of_ble_eq_true rfl) ?_
  intro p e s m below meth c A ls Q S C hG hl hr hlk hin hQ
  have S : CallFix p m c cX9_number 4 s ([.ref (am 0), .int (iI zlo), .int (iI zhi)] : List Value).toArray wsX9_number RX9 := S
  have iX90 : ∀ w ∈ wsX90, w ∈ wsX9_number := fun _ h => List.mem_cons_of_mem _ (List.mem_append_right _ (h))
  have hl : lv_has ls 4 [(0, .ref (am 0)), (1, .int (iI zlo)), (2, .int (iI zhi))] := hl
  have hG : gW K A s.heap [gMdl K am th rw lg mr en pw sl ly dn iz tz nx st tk vl ef ep hO hB ol rm oz, gArrB K 400 (am 10) IF] s.heap [] := hG
  refine lv_aload_n S.1 S.2.1 dX9_number_0 rfl (lv_at hl 0 rfl) ?_
  refine lv_iload_n S.1 S.2.1 dX9_number_1 rfl (lv_at hl 1 rfl) ?_
  refine lv_iload_n S.1 S.2.1 dX9_number_2 rfl (lv_at hl 2 rfl) ?_
  refine g_invV (As := [.int (iI zlo), .int (iI zhi)]) (rest := []) (gs' := (fun u : Int × Int × Int => [gMdl K am th rw lg mr en pw sl ly dn iz tz nx st tk vl u.2.1 u.2.2 hO hB ol rm oz, gArrB K 400 (am 10) IF])) S C hG [0] (c_X9_numberHere l K am th rw lg mr en pw sl ly dn iz tz nx st tk vl ef ep hO hB ol rm oz IF x9 zlo zhi htz hM hlo hhi) rfl rfl 0 rfl rfl (cwV 2 S.2.2.2.2 gX9_number_X9_numberHere rfl rfl rfl (by decide +kernel) ⟨Nat.le_of_ble_eq_true rfl, Nat.le_of_ble_eq_true rfl⟩) rfl hl.1 rfl (Nat.le_of_ble_eq_true rfl) dX9_number_3 ⟨Nat.le_of_ble_eq_true rfl, Nat.le_of_ble_eq_true rfl⟩ (fun _ => Nat.le_of_ble_eq_true rfl) (fun _ => rfl) (fun v u H locs hp hG => ?_)
  obtain ⟨r9_3, ef2_3, ep2_3⟩ := u
  obtain ⟨rfl, hM2_3, hr_3⟩ := hp
  have hM2_3 : MSt IF tz (pb x9 fun i => pb (numE IF tz i zlo zhi) fun _ => .inr i) nx st tk vl ef2_3 ep2_3 := hM2_3
  have hr_3 : (zlo ≤ r9_3 ∧ r9_3 ≤ zhi) ∧ ∀ i, x9 = .inr i → okE (numE IF tz i zlo zhi) → r9_3 = tkV IF tz i := hr_3
  have hG : gW K A s.heap [gMdl K am th rw lg mr en pw sl ly dn iz tz nx st tk vl ef2_3 ep2_3 hO hB ol rm oz, gArrB K 400 (am 10) IF] _ _ := hG
  refine lv_istore_n (lv' := [(3, .int (iI r9_3)), (0, .ref (am 0)), (1, .int (iI zlo)), (2, .int (iI zhi))]) S.1 S.2.1 dX9_number_6 rfl hl (by decide) rfl (fun ls hl => ?_)
  refine lv_aload_n S.1 S.2.1 dX9_number_7 rfl (lv_at hl 1 rfl) ?_
  refine g_invVv (As := []) (rest := []) (gs' := (fun u : Int × Int × Int × Int => [gMdl K am th rw lg mr en pw sl ly dn iz tz u.1 u.2.1 u.2.2.1 u.2.2.2 ef2_3 ep2_3 hO hB ol rm oz, gArrB K 400 (am 10) IF])) S C hG [0, 1] (c_X9_goOn l K am th rw lg mr en pw sl ly dn iz tz nx st tk vl ef2_3 ep2_3 hO hB ol rm oz IF (pb x9 fun i => pb (numE IF tz i zlo zhi) fun _ => .inr i) htz hM2_3) rfl rfl 0 rfl rfl (cwV 0 S.2.2.2.2 gX9_number_X9_goOn rfl rfl rfl (by decide +kernel) ⟨Nat.le_of_ble_eq_true rfl, Nat.le_of_ble_eq_true rfl⟩) rfl hl.1 rfl (Nat.le_of_ble_eq_true rfl) dX9_number_8 ⟨Nat.le_of_ble_eq_true rfl, Nat.le_of_ble_eq_true rfl⟩ (fun _ => Nat.le_of_ble_eq_true rfl) (fun _ => rfl) (fun u H locs hp hG => ?_)
  obtain ⟨nx2_8, st2_8, tk2_8, vl2_8⟩ := u
  have hM2_8 := hp
  have hM2_8 : MSt IF tz (pb (pb x9 fun i => pb (numE IF tz i zlo zhi) fun _ => .inr i) fun i => .inr (tkE IF tz i)) nx2_8 st2_8 tk2_8 vl2_8 ef2_3 ep2_3 := hM2_8
  have hG : gW K A s.heap [gMdl K am th rw lg mr en pw sl ly dn iz tz nx2_8 st2_8 tk2_8 vl2_8 ef2_3 ep2_3 hO hB ol rm oz, gArrB K 400 (am 10) IF] _ _ := hG
  refine lv_iload_n S.1 S.2.1 dX9_number_11 rfl (lv_at hl 0 rfl) ?_
  have hG : gW K A s.heap [gMdl K am th rw lg mr en pw sl ly dn iz tz nx2_8 st2_8 tk2_8 vl2_8 ef2_3 ep2_3 hO hB ol rm oz, gArrB K 400 (am 10) IF] _ _ := hG
  exact g_iret S hr hlk hQ dX9_number_12 (Nat.le_of_ble_eq_true rfl) (Nat.le_of_ble_eq_true rfl) ((r9_3, nx2_8, st2_8, tk2_8, vl2_8, ef2_3, ep2_3) : Int × Int × Int × Int × Int × Int × Int) ⟨rfl, (by have z := hM2_8 <;> rw [nb_eq] at z <;> exact z), hr_3⟩ hG

set_option maxHeartbeats 1000000 in
set_option maxRecDepth 100000 in
theorem c_X9_takeWord (l : Launch) (K : KC) (am : Nat → Nat) (th : Int) (rw : Nat) (lg : Int) (mr : Int) (en : Int) (pw : Int) (sl : Int) (ly : Int) (dn : Int) (iz : Int) (tz : Int) (nx : Int) (st : Int) (tk : Int) (vl : Int) (ef : Int) (ep : Int) (hO : Int) (hB : Int) (ol : Int) (rm : Int) (oz : Int) (IF : Int → Int) (x9 : PE Int) (i : Nat) (wd : List Int) (htz : 0 ≤ tz ∧ tz ≤ 400) (hM : MSt IF tz x9 nx st tk vl ef ep) (hT : txI i wd) (hl9 : wd.length ≤ 100) : mV l yX9_takeWord wsX9_takeWord 5 108 K [.ref (am 0), .ref (K.2.2.2.1 i)] [gMdl K am th rw lg mr en pw sl ly dn iz tz nx st tk vl ef ep hO hB ol rm oz, gArrB K 400 (am 10) IF] (fun (u : Int × Int × Int × Int × Int × Int) => (MSt IF tz (pb x9 fun iq => pb (wdE IF tz iq wd) fun _ => .inr (tkE IF tz iq)) u.1 u.2.1 u.2.2.1 u.2.2.2.1 u.2.2.2.2.1 u.2.2.2.2.2)) (fun (u : Int × Int × Int × Int × Int × Int) => [gMdl K am th rw lg mr en pw sl ly dn iz tz u.1 u.2.1 u.2.2.1 u.2.2.2.1 u.2.2.2.2.1 u.2.2.2.2.2 hO hB ol rm oz, gArrB K 400 (am 10) IF]) 0 0 := by
  refine mV_of cX9_takeWord 2 (by decide) rfl (Nat.le_of_ble_eq_true rfl) ?_
  intro p e s m below meth c A ls Q S C hG hl hr hlk hin hQ
  have S : CallFix p m c cX9_takeWord 2 s ([.ref (am 0), .ref (K.2.2.2.1 i)] : List Value).toArray wsX9_takeWord RX9 := S
  have iX90 : ∀ w ∈ wsX90, w ∈ wsX9_takeWord := fun _ h => List.mem_cons_of_mem _ (List.mem_append_right _ (h))
  have hl : lv_has ls 2 [(0, .ref (am 0)), (1, .ref (K.2.2.2.1 i))] := hl
  have hG : gW K A s.heap [gMdl K am th rw lg mr en pw sl ly dn iz tz nx st tk vl ef ep hO hB ol rm oz, gArrB K 400 (am 10) IF] s.heap [] := hG
  refine lv_aload_n S.1 S.2.1 dX9_takeWord_0 rfl (lv_at hl 0 rfl) ?_
  refine lv_aload_n S.1 S.2.1 dX9_takeWord_1 rfl (lv_at hl 1 rfl) ?_
  refine g_invV (As := [.ref (K.2.2.2.1 i)]) (rest := []) (gs' := (fun u : Unit => [gMdl K am th rw lg mr en pw sl ly dn iz tz nx st tk vl ef ep hO hB ol rm oz, gArrB K 400 (am 10) IF])) S C hG [0, 1] (c_X9_isWord l K am th rw lg mr en pw sl ly dn iz tz nx st tk vl ef ep hO hB ol rm oz IF x9 i wd htz hM hT hl9) rfl rfl 0 rfl rfl (cwV 1 S.2.2.2.2 gX9_takeWord_X9_isWord rfl rfl rfl (by decide +kernel) ⟨Nat.le_of_ble_eq_true rfl, Nat.le_of_ble_eq_true rfl⟩) rfl hl.1 rfl (Nat.le_of_ble_eq_true rfl) dX9_takeWord_2 ⟨Nat.le_of_ble_eq_true rfl, Nat.le_of_ble_eq_true rfl⟩ (fun _ => Nat.le_of_ble_eq_true rfl) (fun _ => rfl) (fun v u H locs hp hG => ?_)
  subst hp
  refine g_ifne_b (B := (wdX IF tz x9 wd = true)) (tgt := 13) S dX9_takeWord_5 (by decide) (fun q5 => ?_) (fun q5 => ?_)
  · skip
    refine lv_aload_n S.1 S.2.1 dX9_takeWord_13 rfl (lv_at hl 0 rfl) ?_
    refine g_invVv (As := []) (rest := []) (gs' := (fun u : Int × Int × Int × Int => [gMdl K am th rw lg mr en pw sl ly dn iz tz u.1 u.2.1 u.2.2.1 u.2.2.2 ef ep hO hB ol rm oz, gArrB K 400 (am 10) IF])) S C hG [0, 1] (c_X9_goOn l K am th rw lg mr en pw sl ly dn iz tz nx st tk vl ef ep hO hB ol rm oz IF x9 htz hM) rfl rfl 0 rfl rfl (cwV 0 S.2.2.2.2 gX9_takeWord_X9_goOn rfl rfl rfl (by decide +kernel) ⟨Nat.le_of_ble_eq_true rfl, Nat.le_of_ble_eq_true rfl⟩) rfl hl.1 rfl (Nat.le_of_ble_eq_true rfl) dX9_takeWord_14 ⟨Nat.le_of_ble_eq_true rfl, Nat.le_of_ble_eq_true rfl⟩ (fun _ => Nat.le_of_ble_eq_true rfl) (fun _ => rfl) (fun u H locs hp hG => ?_)
    obtain ⟨nx2_14, st2_14, tk2_14, vl2_14⟩ := u
    have hM2_14 := hp
    have hM2_14 : MSt IF tz (pb x9 fun i => .inr (tkE IF tz i)) nx2_14 st2_14 tk2_14 vl2_14 ef ep := hM2_14
    have hG : gW K A s.heap [gMdl K am th rw lg mr en pw sl ly dn iz tz nx2_14 st2_14 tk2_14 vl2_14 ef ep hO hB ol rm oz, gArrB K 400 (am 10) IF] _ _ := hG
    have hG : gW K A s.heap [gMdl K am th rw lg mr en pw sl ly dn iz tz nx2_14 st2_14 tk2_14 vl2_14 ef ep hO hB ol rm oz, gArrB K 400 (am 10) IF] _ _ := hG
    exact g_vret S hr hlk hQ dX9_takeWord_17 (Nat.le_of_ble_eq_true rfl) (Nat.le_of_ble_eq_true rfl) ((nx2_14, st2_14, tk2_14, vl2_14, ef, ep) : Int × Int × Int × Int × Int × Int) (by have z := hM2_14 <;> rw [tw_t q5] at z <;> exact z) hG
  · skip
    refine lv_aload_n S.1 S.2.1 dX9_takeWord_8 rfl (lv_at hl 0 rfl) ?_
    refine g_iconst S dX9_takeWord_9 ?_
    refine g_invVv (As := [.int (iI 1)]) (rest := []) (gs' := (fun u : Int × Int => [gMdl K am th rw lg mr en pw sl ly dn iz tz nx st tk vl u.1 u.2 hO hB ol rm oz, gArrB K 400 (am 10) IF])) S C hG [0] (c_X9_errs l K am th rw lg mr en pw sl ly dn iz tz nx st tk vl ef ep hO hB ol rm oz IF x9 1 hM (by omega)) rfl rfl 0 rfl rfl (cwV 1 S.2.2.2.2 gX9_takeWord_X9_errs rfl rfl rfl (by decide +kernel) ⟨Nat.le_of_ble_eq_true rfl, Nat.le_of_ble_eq_true rfl⟩) rfl hl.1 rfl (Nat.le_of_ble_eq_true rfl) dX9_takeWord_10 ⟨Nat.le_of_ble_eq_true rfl, Nat.le_of_ble_eq_true rfl⟩ (fun _ => Nat.le_of_ble_eq_true rfl) (fun _ => rfl) (fun u H locs hp hG => ?_)
    obtain ⟨ef2_10, ep2_10⟩ := u
    have hM2_10 := hp
    have hM2_10 : MSt IF tz (pb x9 fun i => fl IF tz i 1) nx st tk vl ef2_10 ep2_10 := hM2_10
    have hG : gW K A s.heap [gMdl K am th rw lg mr en pw sl ly dn iz tz nx st tk vl ef2_10 ep2_10 hO hB ol rm oz, gArrB K 400 (am 10) IF] _ _ := hG
    refine lv_aload_n S.1 S.2.1 dX9_takeWord_13 rfl (lv_at hl 0 rfl) ?_
    refine g_invVv (As := []) (rest := []) (gs' := (fun u : Int × Int × Int × Int => [gMdl K am th rw lg mr en pw sl ly dn iz tz u.1 u.2.1 u.2.2.1 u.2.2.2 ef2_10 ep2_10 hO hB ol rm oz, gArrB K 400 (am 10) IF])) S C hG [0, 1] (c_X9_goOn l K am th rw lg mr en pw sl ly dn iz tz nx st tk vl ef2_10 ep2_10 hO hB ol rm oz IF (pb x9 fun iq => fl IF tz iq 1) htz hM2_10) rfl rfl 0 rfl rfl (cwV 0 S.2.2.2.2 gX9_takeWord_X9_goOn rfl rfl rfl (by decide +kernel) ⟨Nat.le_of_ble_eq_true rfl, Nat.le_of_ble_eq_true rfl⟩) rfl hl.1 rfl (Nat.le_of_ble_eq_true rfl) dX9_takeWord_14 ⟨Nat.le_of_ble_eq_true rfl, Nat.le_of_ble_eq_true rfl⟩ (fun _ => Nat.le_of_ble_eq_true rfl) (fun _ => rfl) (fun u H locs hp hG => ?_)
    obtain ⟨nx2_14, st2_14, tk2_14, vl2_14⟩ := u
    have hM2_14 := hp
    have hM2_14 : MSt IF tz (pb (pb x9 fun iq => fl IF tz iq 1) fun i => .inr (tkE IF tz i)) nx2_14 st2_14 tk2_14 vl2_14 ef2_10 ep2_10 := hM2_14
    have hG : gW K A s.heap [gMdl K am th rw lg mr en pw sl ly dn iz tz nx2_14 st2_14 tk2_14 vl2_14 ef2_10 ep2_10 hO hB ol rm oz, gArrB K 400 (am 10) IF] _ _ := hG
    have hG : gW K A s.heap [gMdl K am th rw lg mr en pw sl ly dn iz tz nx2_14 st2_14 tk2_14 vl2_14 ef2_10 ep2_10 hO hB ol rm oz, gArrB K 400 (am 10) IF] _ _ := hG
    exact g_vret S hr hlk hQ dX9_takeWord_17 (Nat.le_of_ble_eq_true rfl) (Nat.le_of_ble_eq_true rfl) ((nx2_14, st2_14, tk2_14, vl2_14, ef2_10, ep2_10) : Int × Int × Int × Int × Int × Int) (by have z := hM2_14 <;> rw [tw_f q5] at z <;> exact z) hG

set_option maxHeartbeats 1000000 in
set_option maxRecDepth 100000 in
theorem c_X9_semicolon (l : Launch) (K : KC) (am : Nat → Nat) (th : Int) (rw : Nat) (lg : Int) (mr : Int) (en : Int) (pw : Int) (sl : Int) (ly : Int) (dn : Int) (iz : Int) (tz : Int) (nx : Int) (st : Int) (tk : Int) (vl : Int) (ef : Int) (ep : Int) (hO : Int) (hB : Int) (ol : Int) (rm : Int) (oz : Int) (IF : Int → Int) (x9 : PE Int) (htz : 0 ≤ tz ∧ tz ≤ 400) (hM : MSt IF tz x9 nx st tk vl ef ep) : mV l yX9_semicolon wsX9_semicolon 3 66 K [.ref (am 0)] [gMdl K am th rw lg mr en pw sl ly dn iz tz nx st tk vl ef ep hO hB ol rm oz, gArrB K 400 (am 10) IF] (fun (u : Int × Int × Int × Int × Int × Int) => (MSt IF tz (pb x9 fun i => pb (smE IF tz i) fun _ => .inr (tkE IF tz i)) u.1 u.2.1 u.2.2.1 u.2.2.2.1 u.2.2.2.2.1 u.2.2.2.2.2)) (fun (u : Int × Int × Int × Int × Int × Int) => [gMdl K am th rw lg mr en pw sl ly dn iz tz u.1 u.2.1 u.2.2.1 u.2.2.2.1 u.2.2.2.2.1 u.2.2.2.2.2 hO hB ol rm oz, gArrB K 400 (am 10) IF]) 0 0 := by
  refine mV_of cX9_semicolon 1 (by decide) rfl (Nat.le_of_ble_eq_true rfl) ?_
  intro p e s m below meth c A ls Q S C hG hl hr hlk hin hQ
  have S : CallFix p m c cX9_semicolon 1 s ([.ref (am 0)] : List Value).toArray wsX9_semicolon RX9 := S
  have iX90 : ∀ w ∈ wsX90, w ∈ wsX9_semicolon := fun _ h => List.mem_cons_of_mem _ (List.mem_append_right _ (h))
  have hl : lv_has ls 1 [(0, .ref (am 0))] := hl
  have hG : gW K A s.heap [gMdl K am th rw lg mr en pw sl ly dn iz tz nx st tk vl ef ep hO hB ol rm oz, gArrB K 400 (am 10) IF] s.heap [] := hG
  have xr := hM.rg
  refine lv_aload_n S.1 S.2.1 dX9_semicolon_0 rfl (lv_at hl 0 rfl) ?_
  refine g_invV (As := []) (rest := []) (gs' := (fun u : Unit => [gMdl K am th rw lg mr en pw sl ly dn iz tz nx st tk vl ef ep hO hB ol rm oz, gArrB K 400 (am 10) IF])) S C hG [0] (c_X9_good l K am th rw lg mr en pw sl ly dn iz tz nx st tk vl ef ep hO hB ol rm oz (by omega)) rfl rfl 0 rfl rfl (cwV 0 S.2.2.2.2 gX9_semicolon_X9_good rfl rfl rfl (by decide +kernel) ⟨Nat.le_of_ble_eq_true rfl, Nat.le_of_ble_eq_true rfl⟩) rfl hl.1 rfl (Nat.le_of_ble_eq_true rfl) dX9_semicolon_1 ⟨Nat.le_of_ble_eq_true rfl, Nat.le_of_ble_eq_true rfl⟩ (fun _ => Nat.le_of_ble_eq_true rfl) (fun _ => rfl) (fun v u H locs hp hG => ?_)
  subst hp
  refine g_ifeq_b (B := (ef = 0)) (tgt := 24) S dX9_semicolon_4 (by decide) (fun q4 => ?_) (fun q4 => ?_)
  · skip
    refine lv_aload_n S.1 S.2.1 dX9_semicolon_24 rfl (lv_at hl 0 rfl) ?_
    refine g_iconst S dX9_semicolon_25 ?_
    refine g_invVv (As := [.int (iI 1)]) (rest := []) (gs' := (fun u : Int × Int => [gMdl K am th rw lg mr en pw sl ly dn iz tz nx st tk vl u.1 u.2 hO hB ol rm oz, gArrB K 400 (am 10) IF])) S C hG [0] (c_X9_errs l K am th rw lg mr en pw sl ly dn iz tz nx st tk vl ef ep hO hB ol rm oz IF x9 1 hM (by omega)) rfl rfl 0 rfl rfl (cwV 1 S.2.2.2.2 gX9_semicolon_X9_errs rfl rfl rfl (by decide +kernel) ⟨Nat.le_of_ble_eq_true rfl, Nat.le_of_ble_eq_true rfl⟩) rfl hl.1 rfl (Nat.le_of_ble_eq_true rfl) dX9_semicolon_26 ⟨Nat.le_of_ble_eq_true rfl, Nat.le_of_ble_eq_true rfl⟩ (fun _ => Nat.le_of_ble_eq_true rfl) (fun _ => rfl) (fun u H locs hp hG => ?_)
    obtain ⟨ef2_26, ep2_26⟩ := u
    have hM2_26 := hp
    have hM2_26 : MSt IF tz (pb x9 fun i => fl IF tz i 1) nx st tk vl ef2_26 ep2_26 := hM2_26
    have hG : gW K A s.heap [gMdl K am th rw lg mr en pw sl ly dn iz tz nx st tk vl ef2_26 ep2_26 hO hB ol rm oz, gArrB K 400 (am 10) IF] _ _ := hG
    refine lv_aload_n S.1 S.2.1 dX9_semicolon_29 rfl (lv_at hl 0 rfl) ?_
    refine g_invVv (As := []) (rest := []) (gs' := (fun u : Int × Int × Int × Int => [gMdl K am th rw lg mr en pw sl ly dn iz tz u.1 u.2.1 u.2.2.1 u.2.2.2 ef2_26 ep2_26 hO hB ol rm oz, gArrB K 400 (am 10) IF])) S C hG [0, 1] (c_X9_goOn l K am th rw lg mr en pw sl ly dn iz tz nx st tk vl ef2_26 ep2_26 hO hB ol rm oz IF (pb x9 fun iq => fl IF tz iq 1) htz hM2_26) rfl rfl 0 rfl rfl (cwV 0 S.2.2.2.2 gX9_semicolon_X9_goOn rfl rfl rfl (by decide +kernel) ⟨Nat.le_of_ble_eq_true rfl, Nat.le_of_ble_eq_true rfl⟩) rfl hl.1 rfl (Nat.le_of_ble_eq_true rfl) dX9_semicolon_30 ⟨Nat.le_of_ble_eq_true rfl, Nat.le_of_ble_eq_true rfl⟩ (fun _ => Nat.le_of_ble_eq_true rfl) (fun _ => rfl) (fun u H locs hp hG => ?_)
    obtain ⟨nx2_30, st2_30, tk2_30, vl2_30⟩ := u
    have hM2_30 := hp
    have hM2_30 : MSt IF tz (pb (pb x9 fun iq => fl IF tz iq 1) fun i => .inr (tkE IF tz i)) nx2_30 st2_30 tk2_30 vl2_30 ef2_26 ep2_26 := hM2_30
    have hG : gW K A s.heap [gMdl K am th rw lg mr en pw sl ly dn iz tz nx2_30 st2_30 tk2_30 vl2_30 ef2_26 ep2_26 hO hB ol rm oz, gArrB K 400 (am 10) IF] _ _ := hG
    have hG : gW K A s.heap [gMdl K am th rw lg mr en pw sl ly dn iz tz nx2_30 st2_30 tk2_30 vl2_30 ef2_26 ep2_26 hO hB ol rm oz, gArrB K 400 (am 10) IF] _ _ := hG
    exact g_vret S hr hlk hQ dX9_semicolon_33 (Nat.le_of_ble_eq_true rfl) (Nat.le_of_ble_eq_true rfl) ((nx2_30, st2_30, tk2_30, vl2_30, ef2_26, ep2_26) : Int × Int × Int × Int × Int × Int) (by have z := hM2_30 <;> rw [hM.sm_f (fun _ => by omega)] at z <;> exact z) hG
  · skip
    obtain ⟨i9, hx9, e9, hi9, ht9⟩ := hM.good q4
    have b9 := ht9.bd hi9.1 hi9.2
    refine lv_aload_n S.1 S.2.1 dX9_semicolon_7 rfl (lv_at hl 0 rfl) ?_
    refine g_get S C hG iX90 0 rfl rfl 23 (by decide) (List.mem_of_getElem? (i := 1) rfl) rfl dX9_semicolon_8 ?_
    refine g_iconst S dX9_semicolon_11 ?_
    refine g_icmp_ne (tgt := 24) S dX9_semicolon_12 (by decide) (by omega) (by omega) (fun q12 => ?_) (fun q12 => ?_)
    · skip
      refine lv_aload_n S.1 S.2.1 dX9_semicolon_24 rfl (lv_at hl 0 rfl) ?_
      refine g_iconst S dX9_semicolon_25 ?_
      refine g_invVv (As := [.int (iI 1)]) (rest := []) (gs' := (fun u : Int × Int => [gMdl K am th rw lg mr en pw sl ly dn iz tz nx st tk vl u.1 u.2 hO hB ol rm oz, gArrB K 400 (am 10) IF])) S C hG [0] (c_X9_errs l K am th rw lg mr en pw sl ly dn iz tz nx st tk vl ef ep hO hB ol rm oz IF x9 1 hM (by omega)) rfl rfl 0 rfl rfl (cwV 1 S.2.2.2.2 gX9_semicolon_X9_errs rfl rfl rfl (by decide +kernel) ⟨Nat.le_of_ble_eq_true rfl, Nat.le_of_ble_eq_true rfl⟩) rfl hl.1 rfl (Nat.le_of_ble_eq_true rfl) dX9_semicolon_26 ⟨Nat.le_of_ble_eq_true rfl, Nat.le_of_ble_eq_true rfl⟩ (fun _ => Nat.le_of_ble_eq_true rfl) (fun _ => rfl) (fun u H locs hp hG => ?_)
      obtain ⟨ef2_26, ep2_26⟩ := u
      have hM2_26 := hp
      have hM2_26 : MSt IF tz (pb x9 fun i => fl IF tz i 1) nx st tk vl ef2_26 ep2_26 := hM2_26
      have hG : gW K A s.heap [gMdl K am th rw lg mr en pw sl ly dn iz tz nx st tk vl ef2_26 ep2_26 hO hB ol rm oz, gArrB K 400 (am 10) IF] _ _ := hG
      refine lv_aload_n S.1 S.2.1 dX9_semicolon_29 rfl (lv_at hl 0 rfl) ?_
      refine g_invVv (As := []) (rest := []) (gs' := (fun u : Int × Int × Int × Int => [gMdl K am th rw lg mr en pw sl ly dn iz tz u.1 u.2.1 u.2.2.1 u.2.2.2 ef2_26 ep2_26 hO hB ol rm oz, gArrB K 400 (am 10) IF])) S C hG [0, 1] (c_X9_goOn l K am th rw lg mr en pw sl ly dn iz tz nx st tk vl ef2_26 ep2_26 hO hB ol rm oz IF (pb x9 fun iq => fl IF tz iq 1) htz hM2_26) rfl rfl 0 rfl rfl (cwV 0 S.2.2.2.2 gX9_semicolon_X9_goOn rfl rfl rfl (by decide +kernel) ⟨Nat.le_of_ble_eq_true rfl, Nat.le_of_ble_eq_true rfl⟩) rfl hl.1 rfl (Nat.le_of_ble_eq_true rfl) dX9_semicolon_30 ⟨Nat.le_of_ble_eq_true rfl, Nat.le_of_ble_eq_true rfl⟩ (fun _ => Nat.le_of_ble_eq_true rfl) (fun _ => rfl) (fun u H locs hp hG => ?_)
      obtain ⟨nx2_30, st2_30, tk2_30, vl2_30⟩ := u
      have hM2_30 := hp
      have hM2_30 : MSt IF tz (pb (pb x9 fun iq => fl IF tz iq 1) fun i => .inr (tkE IF tz i)) nx2_30 st2_30 tk2_30 vl2_30 ef2_26 ep2_26 := hM2_30
      have hG : gW K A s.heap [gMdl K am th rw lg mr en pw sl ly dn iz tz nx2_30 st2_30 tk2_30 vl2_30 ef2_26 ep2_26 hO hB ol rm oz, gArrB K 400 (am 10) IF] _ _ := hG
      have hG : gW K A s.heap [gMdl K am th rw lg mr en pw sl ly dn iz tz nx2_30 st2_30 tk2_30 vl2_30 ef2_26 ep2_26 hO hB ol rm oz, gArrB K 400 (am 10) IF] _ _ := hG
      exact g_vret S hr hlk hQ dX9_semicolon_33 (Nat.le_of_ble_eq_true rfl) (Nat.le_of_ble_eq_true rfl) ((nx2_30, st2_30, tk2_30, vl2_30, ef2_26, ep2_26) : Int × Int × Int × Int × Int × Int) (by have z := hM2_30 <;> rw [hM.sm_f (fun _ => by omega)] at z <;> exact z) hG
    · skip
      have b8 := b9.2.2.2.2 (by omega)
      refine lv_aload_n S.1 S.2.1 dX9_semicolon_15 rfl (lv_at hl 0 rfl) ?_
      refine g_get S C hG iX90 0 rfl rfl 24 (by decide) (List.mem_of_getElem? (i := 2) rfl) rfl dX9_semicolon_16 ?_
      refine g_bipush S dX9_semicolon_19 (by decide) ?_
      refine g_icmp_eq (tgt := 29) S dX9_semicolon_21 (by decide) (by omega) (by omega) (fun q21 => ?_) (fun q21 => ?_)
      · skip
        refine lv_aload_n S.1 S.2.1 dX9_semicolon_29 rfl (lv_at hl 0 rfl) ?_
        refine g_invVv (As := []) (rest := []) (gs' := (fun u : Int × Int × Int × Int => [gMdl K am th rw lg mr en pw sl ly dn iz tz u.1 u.2.1 u.2.2.1 u.2.2.2 ef ep hO hB ol rm oz, gArrB K 400 (am 10) IF])) S C hG [0, 1] (c_X9_goOn l K am th rw lg mr en pw sl ly dn iz tz nx st tk vl ef ep hO hB ol rm oz IF x9 htz hM) rfl rfl 0 rfl rfl (cwV 0 S.2.2.2.2 gX9_semicolon_X9_goOn rfl rfl rfl (by decide +kernel) ⟨Nat.le_of_ble_eq_true rfl, Nat.le_of_ble_eq_true rfl⟩) rfl hl.1 rfl (Nat.le_of_ble_eq_true rfl) dX9_semicolon_30 ⟨Nat.le_of_ble_eq_true rfl, Nat.le_of_ble_eq_true rfl⟩ (fun _ => Nat.le_of_ble_eq_true rfl) (fun _ => rfl) (fun u H locs hp hG => ?_)
        obtain ⟨nx2_30, st2_30, tk2_30, vl2_30⟩ := u
        have hM2_30 := hp
        have hM2_30 : MSt IF tz (pb x9 fun i => .inr (tkE IF tz i)) nx2_30 st2_30 tk2_30 vl2_30 ef ep := hM2_30
        have hG : gW K A s.heap [gMdl K am th rw lg mr en pw sl ly dn iz tz nx2_30 st2_30 tk2_30 vl2_30 ef ep hO hB ol rm oz, gArrB K 400 (am 10) IF] _ _ := hG
        have hG : gW K A s.heap [gMdl K am th rw lg mr en pw sl ly dn iz tz nx2_30 st2_30 tk2_30 vl2_30 ef ep hO hB ol rm oz, gArrB K 400 (am 10) IF] _ _ := hG
        exact g_vret S hr hlk hQ dX9_semicolon_33 (Nat.le_of_ble_eq_true rfl) (Nat.le_of_ble_eq_true rfl) ((nx2_30, st2_30, tk2_30, vl2_30, ef, ep) : Int × Int × Int × Int × Int × Int) (by have z := hM2_30 <;> rw [hM.sm_t q4 (by omega) (by omega)] at z <;> exact z) hG
      · skip
        refine lv_aload_n S.1 S.2.1 dX9_semicolon_24 rfl (lv_at hl 0 rfl) ?_
        refine g_iconst S dX9_semicolon_25 ?_
        refine g_invVv (As := [.int (iI 1)]) (rest := []) (gs' := (fun u : Int × Int => [gMdl K am th rw lg mr en pw sl ly dn iz tz nx st tk vl u.1 u.2 hO hB ol rm oz, gArrB K 400 (am 10) IF])) S C hG [0] (c_X9_errs l K am th rw lg mr en pw sl ly dn iz tz nx st tk vl ef ep hO hB ol rm oz IF x9 1 hM (by omega)) rfl rfl 0 rfl rfl (cwV 1 S.2.2.2.2 gX9_semicolon_X9_errs rfl rfl rfl (by decide +kernel) ⟨Nat.le_of_ble_eq_true rfl, Nat.le_of_ble_eq_true rfl⟩) rfl hl.1 rfl (Nat.le_of_ble_eq_true rfl) dX9_semicolon_26 ⟨Nat.le_of_ble_eq_true rfl, Nat.le_of_ble_eq_true rfl⟩ (fun _ => Nat.le_of_ble_eq_true rfl) (fun _ => rfl) (fun u H locs hp hG => ?_)
        obtain ⟨ef2_26, ep2_26⟩ := u
        have hM2_26 := hp
        have hM2_26 : MSt IF tz (pb x9 fun i => fl IF tz i 1) nx st tk vl ef2_26 ep2_26 := hM2_26
        have hG : gW K A s.heap [gMdl K am th rw lg mr en pw sl ly dn iz tz nx st tk vl ef2_26 ep2_26 hO hB ol rm oz, gArrB K 400 (am 10) IF] _ _ := hG
        refine lv_aload_n S.1 S.2.1 dX9_semicolon_29 rfl (lv_at hl 0 rfl) ?_
        refine g_invVv (As := []) (rest := []) (gs' := (fun u : Int × Int × Int × Int => [gMdl K am th rw lg mr en pw sl ly dn iz tz u.1 u.2.1 u.2.2.1 u.2.2.2 ef2_26 ep2_26 hO hB ol rm oz, gArrB K 400 (am 10) IF])) S C hG [0, 1] (c_X9_goOn l K am th rw lg mr en pw sl ly dn iz tz nx st tk vl ef2_26 ep2_26 hO hB ol rm oz IF (pb x9 fun iq => fl IF tz iq 1) htz hM2_26) rfl rfl 0 rfl rfl (cwV 0 S.2.2.2.2 gX9_semicolon_X9_goOn rfl rfl rfl (by decide +kernel) ⟨Nat.le_of_ble_eq_true rfl, Nat.le_of_ble_eq_true rfl⟩) rfl hl.1 rfl (Nat.le_of_ble_eq_true rfl) dX9_semicolon_30 ⟨Nat.le_of_ble_eq_true rfl, Nat.le_of_ble_eq_true rfl⟩ (fun _ => Nat.le_of_ble_eq_true rfl) (fun _ => rfl) (fun u H locs hp hG => ?_)
        obtain ⟨nx2_30, st2_30, tk2_30, vl2_30⟩ := u
        have hM2_30 := hp
        have hM2_30 : MSt IF tz (pb (pb x9 fun iq => fl IF tz iq 1) fun i => .inr (tkE IF tz i)) nx2_30 st2_30 tk2_30 vl2_30 ef2_26 ep2_26 := hM2_30
        have hG : gW K A s.heap [gMdl K am th rw lg mr en pw sl ly dn iz tz nx2_30 st2_30 tk2_30 vl2_30 ef2_26 ep2_26 hO hB ol rm oz, gArrB K 400 (am 10) IF] _ _ := hG
        have hG : gW K A s.heap [gMdl K am th rw lg mr en pw sl ly dn iz tz nx2_30 st2_30 tk2_30 vl2_30 ef2_26 ep2_26 hO hB ol rm oz, gArrB K 400 (am 10) IF] _ _ := hG
        exact g_vret S hr hlk hQ dX9_semicolon_33 (Nat.le_of_ble_eq_true rfl) (Nat.le_of_ble_eq_true rfl) ((nx2_30, st2_30, tk2_30, vl2_30, ef2_26, ep2_26) : Int × Int × Int × Int × Int × Int) (by have z := hM2_30 <;> rw [hM.sm_f (fun _ => by omega)] at z <;> exact z) hG

set_option maxHeartbeats 1000000 in
set_option maxRecDepth 100000 in
theorem c_X9_numberAfter (l : Launch) (K : KC) (am : Nat → Nat) (th : Int) (rw : Nat) (lg : Int) (mr : Int) (en : Int) (pw : Int) (sl : Int) (ly : Int) (dn : Int) (iz : Int) (tz : Int) (nx : Int) (st : Int) (tk : Int) (vl : Int) (ef : Int) (ep : Int) (hO : Int) (hB : Int) (ol : Int) (rm : Int) (oz : Int) (IF : Int → Int) (x9 : PE Int) (i : Nat) (wd : List Int) (zlo : Int) (zhi : Int) (htz : 0 ≤ tz ∧ tz ≤ 400) (hM : MSt IF tz x9 nx st tk vl ef ep) (hT : txI i wd) (hl9 : wd.length ≤ 100) (hlo : 0 ≤ zlo ∧ zlo ≤ zhi) (hhi : zhi ≤ 9998) : mG l yX9_numberAfter wsX9_numberAfter 6 129 K [.ref (am 0), .ref (K.2.2.2.1 i), .int (iI zlo), .int (iI zhi)] [gMdl K am th rw lg mr en pw sl ly dn iz tz nx st tk vl ef ep hO hB ol rm oz, gArrB K 400 (am 10) IF] (fun (v : Value) (u : Int × Int × Int × Int × Int × Int × Int) => (v = .int (iI u.1)) ∧ (MSt IF tz (pb x9 fun iq => pb (wdE IF tz iq wd) fun _ => pb (numE IF tz (tkE IF tz iq) zlo zhi) fun _ => .inr (tkE IF tz (tkE IF tz iq))) u.2.1 u.2.2.1 u.2.2.2.1 u.2.2.2.2.1 u.2.2.2.2.2.1 u.2.2.2.2.2.2) ∧ ((zlo ≤ u.1 ∧ u.1 ≤ zhi) ∧ ∀ iq, x9 = .inr iq → okE (wdE IF tz iq wd) → okE (numE IF tz (tkE IF tz iq) zlo zhi) → u.1 = tkV IF tz (tkE IF tz iq))) (fun (u : Int × Int × Int × Int × Int × Int × Int) => [gMdl K am th rw lg mr en pw sl ly dn iz tz u.2.1 u.2.2.1 u.2.2.2.1 u.2.2.2.2.1 u.2.2.2.2.2.1 u.2.2.2.2.2.2 hO hB ol rm oz, gArrB K 400 (am 10) IF]) 0 0 := by
  refine mG_of cX9_numberAfter 4 (by decide) rfl (Nat.le_of_ble_eq_true rfl) ?_
  intro p e s m below meth c A ls Q S C hG hl hr hlk hin hQ
  have S : CallFix p m c cX9_numberAfter 4 s ([.ref (am 0), .ref (K.2.2.2.1 i), .int (iI zlo), .int (iI zhi)] : List Value).toArray wsX9_numberAfter RX9 := S
  have iX90 : ∀ w ∈ wsX90, w ∈ wsX9_numberAfter := fun _ h => List.mem_cons_of_mem _ (List.mem_append_right _ (h))
  have hl : lv_has ls 4 [(0, .ref (am 0)), (1, .ref (K.2.2.2.1 i)), (2, .int (iI zlo)), (3, .int (iI zhi))] := hl
  have hG : gW K A s.heap [gMdl K am th rw lg mr en pw sl ly dn iz tz nx st tk vl ef ep hO hB ol rm oz, gArrB K 400 (am 10) IF] s.heap [] := hG
  refine lv_aload_n S.1 S.2.1 dX9_numberAfter_0 rfl (lv_at hl 0 rfl) ?_
  refine lv_aload_n S.1 S.2.1 dX9_numberAfter_1 rfl (lv_at hl 1 rfl) ?_
  refine g_invVv (As := [.ref (K.2.2.2.1 i)]) (rest := []) (gs' := (fun u : Int × Int × Int × Int × Int × Int => [gMdl K am th rw lg mr en pw sl ly dn iz tz u.1 u.2.1 u.2.2.1 u.2.2.2.1 u.2.2.2.2.1 u.2.2.2.2.2 hO hB ol rm oz, gArrB K 400 (am 10) IF])) S C hG [0, 1] (c_X9_takeWord l K am th rw lg mr en pw sl ly dn iz tz nx st tk vl ef ep hO hB ol rm oz IF x9 i wd htz hM hT hl9) rfl rfl 0 rfl rfl (cwV 1 S.2.2.2.2 gX9_numberAfter_X9_takeWord rfl rfl rfl (by decide +kernel) ⟨Nat.le_of_ble_eq_true rfl, Nat.le_of_ble_eq_true rfl⟩) rfl hl.1 rfl (Nat.le_of_ble_eq_true rfl) dX9_numberAfter_2 ⟨Nat.le_of_ble_eq_true rfl, Nat.le_of_ble_eq_true rfl⟩ (fun _ => Nat.le_of_ble_eq_true rfl) (fun _ => rfl) (fun u H locs hp hG => ?_)
  obtain ⟨nx2_2, st2_2, tk2_2, vl2_2, ef2_2, ep2_2⟩ := u
  have hM2_2 := hp
  have hM2_2 : MSt IF tz (pb x9 fun iq => pb (wdE IF tz iq wd) fun _ => .inr (tkE IF tz iq)) nx2_2 st2_2 tk2_2 vl2_2 ef2_2 ep2_2 := hM2_2
  have hG : gW K A s.heap [gMdl K am th rw lg mr en pw sl ly dn iz tz nx2_2 st2_2 tk2_2 vl2_2 ef2_2 ep2_2 hO hB ol rm oz, gArrB K 400 (am 10) IF] _ _ := hG
  refine lv_aload_n S.1 S.2.1 dX9_numberAfter_5 rfl (lv_at hl 0 rfl) ?_
  refine lv_iload_n S.1 S.2.1 dX9_numberAfter_6 rfl (lv_at hl 2 rfl) ?_
  refine lv_iload_n S.1 S.2.1 dX9_numberAfter_7 rfl (lv_at hl 3 rfl) ?_
  refine g_invV (As := [.int (iI zlo), .int (iI zhi)]) (rest := []) (gs' := (fun u : Int × Int × Int × Int × Int × Int × Int => [gMdl K am th rw lg mr en pw sl ly dn iz tz u.2.1 u.2.2.1 u.2.2.2.1 u.2.2.2.2.1 u.2.2.2.2.2.1 u.2.2.2.2.2.2 hO hB ol rm oz, gArrB K 400 (am 10) IF])) S C hG [0, 1] (c_X9_number l K am th rw lg mr en pw sl ly dn iz tz nx2_2 st2_2 tk2_2 vl2_2 ef2_2 ep2_2 hO hB ol rm oz IF (pb x9 fun iq => pb (wdE IF tz iq wd) fun _ => .inr (tkE IF tz iq)) zlo zhi htz hM2_2 hlo hhi) rfl rfl 0 rfl rfl (cwV 2 S.2.2.2.2 gX9_numberAfter_X9_number rfl rfl rfl (by decide +kernel) ⟨Nat.le_of_ble_eq_true rfl, Nat.le_of_ble_eq_true rfl⟩) rfl hl.1 rfl (Nat.le_of_ble_eq_true rfl) dX9_numberAfter_8 ⟨Nat.le_of_ble_eq_true rfl, Nat.le_of_ble_eq_true rfl⟩ (fun _ => Nat.le_of_ble_eq_true rfl) (fun _ => rfl) (fun v u H locs hp hG => ?_)
  obtain ⟨r9_8, nx2_8, st2_8, tk2_8, vl2_8, ef2_8, ep2_8⟩ := u
  obtain ⟨rfl, hM2_8, hr_8⟩ := hp
  have hM2_8 : MSt IF tz (pb (pb x9 fun iq => pb (wdE IF tz iq wd) fun _ => .inr (tkE IF tz iq)) fun i => pb (numE IF tz i zlo zhi) fun _ => .inr (tkE IF tz i)) nx2_8 st2_8 tk2_8 vl2_8 ef2_8 ep2_8 := hM2_8
  have hr_8 : (zlo ≤ r9_8 ∧ r9_8 ≤ zhi) ∧ ∀ i, (pb x9 fun iq => pb (wdE IF tz iq wd) fun _ => .inr (tkE IF tz iq)) = .inr i → okE (numE IF tz i zlo zhi) → r9_8 = tkV IF tz i := hr_8
  have hG : gW K A s.heap [gMdl K am th rw lg mr en pw sl ly dn iz tz nx2_8 st2_8 tk2_8 vl2_8 ef2_8 ep2_8 hO hB ol rm oz, gArrB K 400 (am 10) IF] _ _ := hG
  have hG : gW K A s.heap [gMdl K am th rw lg mr en pw sl ly dn iz tz nx2_8 st2_8 tk2_8 vl2_8 ef2_8 ep2_8 hO hB ol rm oz, gArrB K 400 (am 10) IF] _ _ := hG
  exact g_iret S hr hlk hQ dX9_numberAfter_11 (Nat.le_of_ble_eq_true rfl) (Nat.le_of_ble_eq_true rfl) ((r9_8, nx2_8, st2_8, tk2_8, vl2_8, ef2_8, ep2_8) : Int × Int × Int × Int × Int × Int × Int) ⟨rfl, (by have z := hM2_8 <;> rw [na_eq] at z <;> exact z), ⟨hr_8.1, fun i hx h1 h2 => hr_8.2 (tkE IF tz i) (by rw [hx] <;> exact pb_inr (wdE_ok h1).1) h2⟩⟩ hG
