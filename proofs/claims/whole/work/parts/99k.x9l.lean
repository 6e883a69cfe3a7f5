set_option maxHeartbeats 1000000 in
set_option maxRecDepth 100000 in
theorem c_isValue (l : Launch) (K : KC) (w : Int) (x : Int) (hw_ : -2147483648 ≤ w ∧ w < 2147483648) (hx : -2147483648 ≤ x ∧ x < 2147483648) : mG l yX9_isValue wsX9_isValue 2 45 K [.int (iI w), .int (iI x)] [] (fun (v : Value) (u : Unit) => (v = .int (iI (bI ((w = 0 ∧ 1000 ≤ x ∧ x ≤ 4000) ∨ (w = 1 ∧ 1 ≤ x ∧ x ≤ 999) ∨ (w = 2 ∧ 0 ≤ x ∧ x ≤ 99)))))) (fun (u : Unit) => []) 0 0 := by
  refine mG_of cX9_isValue 2 (by decide) rfl (Nat.le_of_ble_eq_true rfl) ?_
  intro p e s m below meth c A ls Q S C hG hl hr hlk hin hQ
  have S : CallFix p m c cX9_isValue 2 s ([.int (iI w), .int (iI x)] : List Value).toArray wsX9_isValue RX9 := S
  have hl : lv_has ls 2 [(0, .int (iI w)), (1, .int (iI x))] := hl
  have hG : gW K A s.heap [] s.heap [] := hG
  refine lv_iload_n S.1 S.2.1 dX9_isValue_0 rfl (lv_at hl 0 rfl) ?_
  rcases (show w = 0 ∨ w = 1 ∨ w = 2 ∨ (w < 0 ∨ 2 < w) by omega) with hw9 | hw9 | hw9 | hw9
  · skip
    refine lv_tableIn (off := 27) (tgt := 28) S.1 S.2.1 dX9_isValue_1 (by rw [hw9] <;> decide) (by rw [hw9] <;> decide) (by rw [hw9] <;> rfl) (by decide) ?_
    refine lv_iload_n S.1 S.2.1 dX9_isValue_28 rfl (lv_at hl 1 rfl) ?_
    refine g_invS (As := [.int (iI x)]) (rest := []) (gs' := (fun u : Unit => [])) S C hG [] (c_X9_isIndex l K x hx) rfl rfl (va_cwS 1 S.2.2.2.2 gX9_isValue_X9_isIndex rfl rfl rfl (by decide +kernel) ⟨Nat.le_of_ble_eq_true rfl, Nat.le_of_ble_eq_true rfl⟩) rfl hl.1 rfl (Nat.le_of_ble_eq_true rfl) dX9_isValue_29 ⟨Nat.le_of_ble_eq_true rfl, Nat.le_of_ble_eq_true rfl⟩ (fun _ => Nat.le_of_ble_eq_true rfl) (fun _ => rfl) (fun v u H locs hp hG => ?_)
    subst hp
    have hG : gW K A s.heap [] _ _ := hG
    exact g_zret S hr hlk hQ (bI_01 _) dX9_isValue_32 (Nat.le_of_ble_eq_true rfl) (Nat.le_of_ble_eq_true rfl) (() : Unit) (congrArg (fun z : Int => Value.int (iI z)) (bI_iff (by omega))) hG
  · skip
    refine lv_tableIn (off := 32) (tgt := 33) S.1 S.2.1 dX9_isValue_1 (by rw [hw9] <;> decide) (by rw [hw9] <;> decide) (by rw [hw9] <;> rfl) (by decide) ?_
    refine lv_iload_n S.1 S.2.1 dX9_isValue_33 rfl (lv_at hl 1 rfl) ?_
    refine g_invS (As := [.int (iI x)]) (rest := []) (gs' := (fun u : Unit => [])) S C hG [] (c_X9_isThickness l K x hx) rfl rfl (va_cwS 1 S.2.2.2.2 gX9_isValue_X9_isThickness rfl rfl rfl (by decide +kernel) ⟨Nat.le_of_ble_eq_true rfl, Nat.le_of_ble_eq_true rfl⟩) rfl hl.1 rfl (Nat.le_of_ble_eq_true rfl) dX9_isValue_34 ⟨Nat.le_of_ble_eq_true rfl, Nat.le_of_ble_eq_true rfl⟩ (fun _ => Nat.le_of_ble_eq_true rfl) (fun _ => rfl) (fun v u H locs hp hG => ?_)
    subst hp
    have hG : gW K A s.heap [] _ _ := hG
    exact g_zret S hr hlk hQ (bI_01 _) dX9_isValue_37 (Nat.le_of_ble_eq_true rfl) (Nat.le_of_ble_eq_true rfl) (() : Unit) (congrArg (fun z : Int => Value.int (iI z)) (bI_iff (by omega))) hG
  · skip
    refine lv_tableIn (off := 37) (tgt := 38) S.1 S.2.1 dX9_isValue_1 (by rw [hw9] <;> decide) (by rw [hw9] <;> decide) (by rw [hw9] <;> rfl) (by decide) ?_
    refine lv_iload_n S.1 S.2.1 dX9_isValue_38 rfl (lv_at hl 1 rfl) ?_
    refine g_invS (As := [.int (iI x)]) (rest := []) (gs' := (fun u : Unit => [])) S C hG [] (c_X9_isLoss l K x hx) rfl rfl (va_cwS 1 S.2.2.2.2 gX9_isValue_X9_isLoss rfl rfl rfl (by decide +kernel) ⟨Nat.le_of_ble_eq_true rfl, Nat.le_of_ble_eq_true rfl⟩) rfl hl.1 rfl (Nat.le_of_ble_eq_true rfl) dX9_isValue_39 ⟨Nat.le_of_ble_eq_true rfl, Nat.le_of_ble_eq_true rfl⟩ (fun _ => Nat.le_of_ble_eq_true rfl) (fun _ => rfl) (fun v u H locs hp hG => ?_)
    subst hp
    have hG : gW K A s.heap [] _ _ := hG
    exact g_zret S hr hlk hQ (bI_01 _) dX9_isValue_42 (Nat.le_of_ble_eq_true rfl) (Nat.le_of_ble_eq_true rfl) (() : Unit) (congrArg (fun z : Int => Value.int (iI z)) (bI_iff (by omega))) hG
  · skip
    refine lv_tableOut (tgt := 43) S.1 S.2.1 dX9_isValue_1 (by first | (rw [hw9] <;> decide) | (rw [iI_toInt (by omega)] <;> exact hw9)) (by decide) ?_
    refine g_iconst S dX9_isValue_43 ?_
    have hG : gW K A s.heap [] _ _ := hG
    exact g_zret S hr hlk hQ (Or.inl rfl) dX9_isValue_44 (Nat.le_of_ble_eq_true rfl) (Nat.le_of_ble_eq_true rfl) (() : Unit) (congrArg (fun z : Int => Value.int (iI z)) (bI_f (by omega)).symm) hG

set_option maxHeartbeats 1000000 in
set_option maxRecDepth 100000 in
theorem c_X9_setLayer (l : Launch) (K : KC) (am : Nat → Nat) (th : Int) (lg : Int) (mr : Int) (en : Int) (pw : Int) (sl : Int) (ly : Int) (dn : Int) (iz : Int) (tz : Int) (nx : Int) (st : Int) (tk : Int) (vl : Int) (ef : Int) (ep : Int) (hO : Int) (hB : Int) (ol : Int) (rm : Int) (oz : Int) (NF : Int → Int) (PA : Int → Int) (y : Int) (w : Int) (x : Int) (hN : NOk0 NF) (hrm : 0 ≤ rm ∧ rm ≤ 6) (hv : -2147483648 ≤ y ∧ y < 2147483648) (hw_ : -2147483648 ≤ w ∧ w < 2147483648) (hx : -2147483648 ≤ x ∧ x < 2147483648) (g1 : 0 ≤ y ∧ y < NF 0) (g2 : (w = 0 ∧ 1000 ≤ x ∧ x ≤ 4000) ∨ (w = 1 ∧ 1 ≤ x ∧ x ≤ 999) ∨ (w = 2 ∧ 0 ≤ x ∧ x ≤ 99)) : mG l yX9_setLayer wsX9_setLayer 3 66 K [.ref (am 0), .int (iI y), .int (iI w), .int (iI x)] [gMdl K am th (am 1) lg mr en pw sl ly dn iz tz nx st tk vl ef ep hO hB ol rm oz, gArr K 95 (am 1) NF, gArr K 570 (am 18) PA] (fun (v : Value) (u : (Int → Int) × Int) => (v = .int (iI (NF (5 + 3 * y + w)))) ∧ (∀ j : Int, 0 ≤ j → j < 570 → u.1 j = remP rm PA NF j) ∧ (u.2 = min (rm + 1) 6)) (fun (u : (Int → Int) × Int) => [gMdl K am (thr (bI (0 ≤ y ∧ y < NF 0)) (bI ((w = 0 ∧ 1000 ≤ x ∧ x ≤ 4000) ∨ (w = 1 ∧ 1 ≤ x ∧ x ≤ 999) ∨ (w = 2 ∧ 0 ≤ x ∧ x ≤ 99))) 1) (am 1) lg mr en pw sl ly dn iz tz nx st tk vl ef ep hO hB ol u.2 oz, gArr K 95 (am 1) (upI NF (5 + 3 * y + w) x), gArr K 570 (am 18) u.1]) 0 0 := by
  refine mG_of cX9_setLayer 4 (by decide) rfl (Nat.le_of_ble_eq_true rfl) ?_
  intro p e s m below meth c A ls Q S C hG hl hr hlk hin hQ
  have S : CallFix p m c cX9_setLayer 4 s ([.ref (am 0), .int (iI y), .int (iI w), .int (iI x)] : List Value).toArray wsX9_setLayer RX9 := S
  have iX90 : ∀ w ∈ wsX90, w ∈ wsX9_setLayer := fun _ h => List.mem_cons_of_mem _ (List.mem_append_right _ (h))
  have hl : lv_has ls 4 [(0, .ref (am 0)), (1, .int (iI y)), (2, .int (iI w)), (3, .int (iI x))] := hl
  have hG : gW K A s.heap [gMdl K am th (am 1) lg mr en pw sl ly dn iz tz nx st tk vl ef ep hO hB ol rm oz, gArr K 95 (am 1) NF, gArr K 570 (am 18) PA] s.heap [] := hG
  have n0 := hN.1
  have n3 := hN.2.2.2.1
  refine lv_aload_n S.1 S.2.1 dX9_setLayer_0 rfl (lv_at hl 0 rfl) ?_
  refine lv_aload_n S.1 S.2.1 dX9_setLayer_1 rfl (lv_at hl 0 rfl) ?_
  refine lv_iload_n S.1 S.2.1 dX9_setLayer_2 rfl (lv_at hl 1 rfl) ?_
  refine g_invV (As := [.int (iI y)]) (rest := [.ref (am 0)]) (gs' := (fun u : Unit => [gMdl K am th (am 1) lg mr en pw sl ly dn iz tz nx st tk vl ef ep hO hB ol rm oz, gArr K 95 (am 1) NF, gArr K 570 (am 18) PA])) S C hG [0, 1] (c_X9_isLayer l K am th (am 1) lg mr en pw sl ly dn iz tz nx st tk vl ef ep hO hB ol rm oz NF y hN hv) rfl rfl 0 rfl rfl (cwV 1 S.2.2.2.2 gX9_setLayer_X9_isLayer rfl rfl rfl (by decide +kernel) ⟨Nat.le_of_ble_eq_true rfl, Nat.le_of_ble_eq_true rfl⟩) rfl hl.1 rfl (Nat.le_of_ble_eq_true rfl) dX9_setLayer_3 ⟨Nat.le_of_ble_eq_true rfl, Nat.le_of_ble_eq_true rfl⟩ (fun _ => Nat.le_of_ble_eq_true rfl) (fun _ => rfl) (fun v u H locs hp hG => ?_)
  subst hp
  refine lv_iload_n S.1 S.2.1 dX9_setLayer_6 rfl (lv_at hl 2 rfl) ?_
  refine lv_iload_n S.1 S.2.1 dX9_setLayer_7 rfl (lv_at hl 3 rfl) ?_
  refine g_invS (As := [.int (iI w), .int (iI x)]) (rest := [.int (iI (bI (0 ≤ y ∧ y < NF 0))), .ref (am 0)]) (gs' := (fun u : Unit => [gMdl K am th (am 1) lg mr en pw sl ly dn iz tz nx st tk vl ef ep hO hB ol rm oz, gArr K 95 (am 1) NF, gArr K 570 (am 18) PA])) S C hG [] (c_isValue l K w x hw_ hx) rfl rfl (va_cwS 2 S.2.2.2.2 gX9_setLayer_X9_isValue rfl rfl rfl (by decide +kernel) ⟨Nat.le_of_ble_eq_true rfl, Nat.le_of_ble_eq_true rfl⟩) rfl hl.1 rfl (Nat.le_of_ble_eq_true rfl) dX9_setLayer_8 ⟨Nat.le_of_ble_eq_true rfl, Nat.le_of_ble_eq_true rfl⟩ (fun _ => Nat.le_of_ble_eq_true rfl) (fun _ => rfl) (fun v u H locs hp hG => ?_)
  subst hp
  refine g_invV (As := [.int (iI (bI (0 ≤ y ∧ y < NF 0))), .int (iI (bI ((w = 0 ∧ 1000 ≤ x ∧ x ≤ 4000) ∨ (w = 1 ∧ 1 ≤ x ∧ x ≤ 999) ∨ (w = 2 ∧ 0 ≤ x ∧ x ≤ 99))))]) (rest := []) (gs' := (fun u : Unit => [gMdl K am (thr (bI (0 ≤ y ∧ y < NF 0)) (bI ((w = 0 ∧ 1000 ≤ x ∧ x ≤ 4000) ∨ (w = 1 ∧ 1 ≤ x ∧ x ≤ 999) ∨ (w = 2 ∧ 0 ≤ x ∧ x ≤ 99))) 1) (am 1) lg mr en pw sl ly dn iz tz nx st tk vl ef ep hO hB ol rm oz, gArr K 95 (am 1) NF, gArr K 570 (am 18) PA])) S C hG [0] (c_X9_passes2 l K am th (am 1) lg mr en pw sl ly dn iz tz nx st tk vl ef ep hO hB ol rm oz (bI (0 ≤ y ∧ y < NF 0)) (bI ((w = 0 ∧ 1000 ≤ x ∧ x ≤ 4000) ∨ (w = 1 ∧ 1 ≤ x ∧ x ≤ 999) ∨ (w = 2 ∧ 0 ≤ x ∧ x ≤ 99))) (bI_01 _) (bI_01 _)) rfl rfl 0 rfl rfl (cwV 2 S.2.2.2.2 gX9_setLayer_X9_passes2 rfl rfl rfl (by decide +kernel) ⟨Nat.le_of_ble_eq_true rfl, Nat.le_of_ble_eq_true rfl⟩) rfl hl.1 rfl (Nat.le_of_ble_eq_true rfl) dX9_setLayer_11 ⟨Nat.le_of_ble_eq_true rfl, Nat.le_of_ble_eq_true rfl⟩ (fun _ => Nat.le_of_ble_eq_true rfl) (fun _ => rfl) (fun v u H locs hp hG => ?_)
  subst hp
  refine g_ifeq_b (B := ((bI (0 ≤ y ∧ y < NF 0)) = 1 ∧ (bI ((w = 0 ∧ 1000 ≤ x ∧ x ≤ 4000) ∨ (w = 1 ∧ 1 ≤ x ∧ x ≤ 999) ∨ (w = 2 ∧ 0 ≤ x ∧ x ≤ 99))) = 1)) (tgt := 32) S dX9_setLayer_14 (by decide) (fun q14 => ?_) (fun q14 => ?_)
  · skip
    exact absurd ⟨bI_t g1, bI_t g2⟩ q14
  · skip
    refine lv_aload_n S.1 S.2.1 dX9_setLayer_17 rfl (lv_at hl 0 rfl) ?_
    refine g_iconst S dX9_setLayer_18 ?_
    refine g_iconst S dX9_setLayer_19 ?_
    refine lv_iload_n S.1 S.2.1 dX9_setLayer_20 rfl (lv_at hl 1 rfl) ?_
    refine g_imul S dX9_setLayer_21 rfl ?_
    refine g_iadd S dX9_setLayer_22 rfl ?_
    refine lv_iload_n S.1 S.2.1 dX9_setLayer_23 rfl (lv_at hl 2 rfl) ?_
    refine g_iadd S dX9_setLayer_24 rfl ?_
    refine lv_iload_n S.1 S.2.1 dX9_setLayer_25 rfl (lv_at hl 3 rfl) ?_
    refine g_invV (As := [.int (iI ((5 + (3 * y)) + w)), .int (iI x)]) (rest := []) (gs' := (fun u : (Int → Int) × Int => [gMdl K am (thr (bI (0 ≤ y ∧ y < NF 0)) (bI ((w = 0 ∧ 1000 ≤ x ∧ x ≤ 4000) ∨ (w = 1 ∧ 1 ≤ x ∧ x ≤ 999) ∨ (w = 2 ∧ 0 ≤ x ∧ x ≤ 99))) 1) (am 1) lg mr en pw sl ly dn iz tz nx st tk vl ef ep hO hB ol u.2 oz, gArr K 95 (am 1) (upI NF ((5 + (3 * y)) + w) x), gArr K 570 (am 18) u.1])) S C hG [0, 1, 2] (c_X9_becomes l K am (thr (bI (0 ≤ y ∧ y < NF 0)) (bI ((w = 0 ∧ 1000 ≤ x ∧ x ≤ 4000) ∨ (w = 1 ∧ 1 ≤ x ∧ x ≤ 999) ∨ (w = 2 ∧ 0 ≤ x ∧ x ≤ 99))) 1) lg mr en pw sl ly dn iz tz nx st tk vl ef ep hO hB ol rm oz NF PA ((5 + (3 * y)) + w) x hrm (by omega)) rfl rfl 0 rfl rfl (cwV 2 S.2.2.2.2 gX9_setLayer_X9_becomes rfl rfl rfl (by decide +kernel) ⟨Nat.le_of_ble_eq_true rfl, Nat.le_of_ble_eq_true rfl⟩) rfl hl.1 rfl (Nat.le_of_ble_eq_true rfl) dX9_setLayer_26 ⟨Nat.le_of_ble_eq_true rfl, Nat.le_of_ble_eq_true rfl⟩ (fun _ => Nat.le_of_ble_eq_true rfl) (fun _ => rfl) (fun v u H locs hp hG => ?_)
    obtain ⟨P2_26, rm2_26⟩ := u
    obtain ⟨rfl, hP_26, hm_26⟩ := hp
    have hP_26 : ∀ j : Int, 0 ≤ j → j < 570 → P2_26 j = remP rm PA NF j := hP_26
    have hm_26 : rm2_26 = min (rm + 1) 6 := hm_26
    have hG : gW K A s.heap [gMdl K am (thr (bI (0 ≤ y ∧ y < NF 0)) (bI ((w = 0 ∧ 1000 ≤ x ∧ x ≤ 4000) ∨ (w = 1 ∧ 1 ≤ x ∧ x ≤ 999) ∨ (w = 2 ∧ 0 ≤ x ∧ x ≤ 99))) 1) (am 1) lg mr en pw sl ly dn iz tz nx st tk vl ef ep hO hB ol rm2_26 oz, gArr K 95 (am 1) (upI NF ((5 + (3 * y)) + w) x), gArr K 570 (am 18) P2_26] _ _ := hG
    refine lv_goto (tgt := 33) S.1 S.2.1 dX9_setLayer_29 (by decide) ?_
    have hG : gW K A s.heap [gMdl K am (thr (bI (0 ≤ y ∧ y < NF 0)) (bI ((w = 0 ∧ 1000 ≤ x ∧ x ≤ 4000) ∨ (w = 1 ∧ 1 ≤ x ∧ x ≤ 999) ∨ (w = 2 ∧ 0 ≤ x ∧ x ≤ 99))) 1) (am 1) lg mr en pw sl ly dn iz tz nx st tk vl ef ep hO hB ol rm2_26 oz, gArr K 95 (am 1) (upI NF (5 + 3 * y + w) x), gArr K 570 (am 18) P2_26] _ _ := hG
    exact g_iret S hr hlk hQ dX9_setLayer_33 (Nat.le_of_ble_eq_true rfl) (Nat.le_of_ble_eq_true rfl) ((P2_26, rm2_26) : (Int → Int) × Int) ⟨(congrArg (fun z : Int => Value.int (iI z)) (by first | rfl | omega)), hP_26, hm_26⟩ hG

set_option maxHeartbeats 1000000 in
set_option maxRecDepth 100000 in
theorem b_X9_setLayer (l : Launch) (K : KC) (am : Nat → Nat) (th : Int) (lg : Int) (mr : Int) (en : Int) (pw : Int) (sl : Int) (ly : Int) (dn : Int) (iz : Int) (tz : Int) (nx : Int) (st : Int) (tk : Int) (vl : Int) (ef : Int) (ep : Int) (hO : Int) (hB : Int) (ol : Int) (rm : Int) (oz : Int) (NF : Int → Int) (y : Int) (w : Int) (x : Int) (hN : NOk0 NF) (hv : -2147483648 ≤ y ∧ y < 2147483648) (hw_ : -2147483648 ≤ w ∧ w < 2147483648) (hx : -2147483648 ≤ x ∧ x < 2147483648) (hbad : ¬ ((0 ≤ y ∧ y < NF 0) ∧ ((w = 0 ∧ 1000 ≤ x ∧ x ≤ 4000) ∨ (w = 1 ∧ 1 ≤ x ∧ x ≤ 999) ∨ (w = 2 ∧ 0 ≤ x ∧ x ≤ 99)))) : mG l yX9_setLayer wsX9_setLayer 3 66 K [.ref (am 0), .int (iI y), .int (iI w), .int (iI x)] [gMdl K am th (am 1) lg mr en pw sl ly dn iz tz nx st tk vl ef ep hO hB ol rm oz, gArr K 95 (am 1) NF] (fun (v : Value) (u : Unit) => (v = .int (iI 0))) (fun (u : Unit) => [gMdl K am (thr (bI (0 ≤ y ∧ y < NF 0)) (bI ((w = 0 ∧ 1000 ≤ x ∧ x ≤ 4000) ∨ (w = 1 ∧ 1 ≤ x ∧ x ≤ 999) ∨ (w = 2 ∧ 0 ≤ x ∧ x ≤ 99))) 1) (am 1) lg mr en pw sl ly dn iz tz nx st tk vl ef ep hO hB ol rm oz, gArr K 95 (am 1) NF]) 0 0 := by
  refine mG_of cX9_setLayer 4 (by decide) rfl (Nat.le_of_ble_eq_true rfl) ?_
  intro p e s m below meth c A ls Q S C hG hl hr hlk hin hQ
  have S : CallFix p m c cX9_setLayer 4 s ([.ref (am 0), .int (iI y), .int (iI w), .int (iI x)] : List Value).toArray wsX9_setLayer RX9 := S
  have iX90 : ∀ w ∈ wsX90, w ∈ wsX9_setLayer := fun _ h => List.mem_cons_of_mem _ (List.mem_append_right _ (h))
  have hl : lv_has ls 4 [(0, .ref (am 0)), (1, .int (iI y)), (2, .int (iI w)), (3, .int (iI x))] := hl
  have hG : gW K A s.heap [gMdl K am th (am 1) lg mr en pw sl ly dn iz tz nx st tk vl ef ep hO hB ol rm oz, gArr K 95 (am 1) NF] s.heap [] := hG
  have n0 := hN.1
  have n3 := hN.2.2.2.1
  refine lv_aload_n S.1 S.2.1 dX9_setLayer_0 rfl (lv_at hl 0 rfl) ?_
  refine lv_aload_n S.1 S.2.1 dX9_setLayer_1 rfl (lv_at hl 0 rfl) ?_
  refine lv_iload_n S.1 S.2.1 dX9_setLayer_2 rfl (lv_at hl 1 rfl) ?_
  refine g_invV (As := [.int (iI y)]) (rest := [.ref (am 0)]) (gs' := (fun u : Unit => [gMdl K am th (am 1) lg mr en pw sl ly dn iz tz nx st tk vl ef ep hO hB ol rm oz, gArr K 95 (am 1) NF])) S C hG [0, 1] (c_X9_isLayer l K am th (am 1) lg mr en pw sl ly dn iz tz nx st tk vl ef ep hO hB ol rm oz NF y hN hv) rfl rfl 0 rfl rfl (cwV 1 S.2.2.2.2 gX9_setLayer_X9_isLayer rfl rfl rfl (by decide +kernel) ⟨Nat.le_of_ble_eq_true rfl, Nat.le_of_ble_eq_true rfl⟩) rfl hl.1 rfl (Nat.le_of_ble_eq_true rfl) dX9_setLayer_3 ⟨Nat.le_of_ble_eq_true rfl, Nat.le_of_ble_eq_true rfl⟩ (fun _ => Nat.le_of_ble_eq_true rfl) (fun _ => rfl) (fun v u H locs hp hG => ?_)
  subst hp
  refine lv_iload_n S.1 S.2.1 dX9_setLayer_6 rfl (lv_at hl 2 rfl) ?_
  refine lv_iload_n S.1 S.2.1 dX9_setLayer_7 rfl (lv_at hl 3 rfl) ?_
  refine g_invS (As := [.int (iI w), .int (iI x)]) (rest := [.int (iI (bI (0 ≤ y ∧ y < NF 0))), .ref (am 0)]) (gs' := (fun u : Unit => [gMdl K am th (am 1) lg mr en pw sl ly dn iz tz nx st tk vl ef ep hO hB ol rm oz, gArr K 95 (am 1) NF])) S C hG [] (c_isValue l K w x hw_ hx) rfl rfl (va_cwS 2 S.2.2.2.2 gX9_setLayer_X9_isValue rfl rfl rfl (by decide +kernel) ⟨Nat.le_of_ble_eq_true rfl, Nat.le_of_ble_eq_true rfl⟩) rfl hl.1 rfl (Nat.le_of_ble_eq_true rfl) dX9_setLayer_8 ⟨Nat.le_of_ble_eq_true rfl, Nat.le_of_ble_eq_true rfl⟩ (fun _ => Nat.le_of_ble_eq_true rfl) (fun _ => rfl) (fun v u H locs hp hG => ?_)
  subst hp
  refine g_invV (As := [.int (iI (bI (0 ≤ y ∧ y < NF 0))), .int (iI (bI ((w = 0 ∧ 1000 ≤ x ∧ x ≤ 4000) ∨ (w = 1 ∧ 1 ≤ x ∧ x ≤ 999) ∨ (w = 2 ∧ 0 ≤ x ∧ x ≤ 99))))]) (rest := []) (gs' := (fun u : Unit => [gMdl K am (thr (bI (0 ≤ y ∧ y < NF 0)) (bI ((w = 0 ∧ 1000 ≤ x ∧ x ≤ 4000) ∨ (w = 1 ∧ 1 ≤ x ∧ x ≤ 999) ∨ (w = 2 ∧ 0 ≤ x ∧ x ≤ 99))) 1) (am 1) lg mr en pw sl ly dn iz tz nx st tk vl ef ep hO hB ol rm oz, gArr K 95 (am 1) NF])) S C hG [0] (c_X9_passes2 l K am th (am 1) lg mr en pw sl ly dn iz tz nx st tk vl ef ep hO hB ol rm oz (bI (0 ≤ y ∧ y < NF 0)) (bI ((w = 0 ∧ 1000 ≤ x ∧ x ≤ 4000) ∨ (w = 1 ∧ 1 ≤ x ∧ x ≤ 999) ∨ (w = 2 ∧ 0 ≤ x ∧ x ≤ 99))) (bI_01 _) (bI_01 _)) rfl rfl 0 rfl rfl (cwV 2 S.2.2.2.2 gX9_setLayer_X9_passes2 rfl rfl rfl (by decide +kernel) ⟨Nat.le_of_ble_eq_true rfl, Nat.le_of_ble_eq_true rfl⟩) rfl hl.1 rfl (Nat.le_of_ble_eq_true rfl) dX9_setLayer_11 ⟨Nat.le_of_ble_eq_true rfl, Nat.le_of_ble_eq_true rfl⟩ (fun _ => Nat.le_of_ble_eq_true rfl) (fun _ => rfl) (fun v u H locs hp hG => ?_)
  subst hp
  refine g_ifeq_b (B := ((bI (0 ≤ y ∧ y < NF 0)) = 1 ∧ (bI ((w = 0 ∧ 1000 ≤ x ∧ x ≤ 4000) ∨ (w = 1 ∧ 1 ≤ x ∧ x ≤ 999) ∨ (w = 2 ∧ 0 ≤ x ∧ x ≤ 99))) = 1)) (tgt := 32) S dX9_setLayer_14 (by decide) (fun q14 => ?_) (fun q14 => ?_)
  · skip
    refine g_iconst S dX9_setLayer_32 ?_
    have hG : gW K A s.heap [gMdl K am (thr (bI (0 ≤ y ∧ y < NF 0)) (bI ((w = 0 ∧ 1000 ≤ x ∧ x ≤ 4000) ∨ (w = 1 ∧ 1 ≤ x ∧ x ≤ 999) ∨ (w = 2 ∧ 0 ≤ x ∧ x ≤ 99))) 1) (am 1) lg mr en pw sl ly dn iz tz nx st tk vl ef ep hO hB ol rm oz, gArr K 95 (am 1) NF] _ _ := hG
    exact g_iret S hr hlk hQ dX9_setLayer_33 (Nat.le_of_ble_eq_true rfl) (Nat.le_of_ble_eq_true rfl) (() : Unit) rfl hG
  · skip
    exact absurd ⟨bI1 q14.1, bI1 q14.2⟩ hbad

set_option maxHeartbeats 1000000 in
set_option maxRecDepth 100000 in
theorem c_X9_setOutside (l : Launch) (K : KC) (am : Nat → Nat) (th : Int) (lg : Int) (mr : Int) (en : Int) (pw : Int) (sl : Int) (ly : Int) (dn : Int) (iz : Int) (tz : Int) (nx : Int) (st : Int) (tk : Int) (vl : Int) (ef : Int) (ep : Int) (hO : Int) (hB : Int) (ol : Int) (rm : Int) (oz : Int) (NF : Int → Int) (PA : Int → Int) (x : Int) (hN : NOk0 NF) (hrm : 0 ≤ rm ∧ rm ≤ 6) (hx : -2147483648 ≤ x ∧ x < 2147483648) (g1 : 1000 ≤ x ∧ x ≤ 4000) : mG l yX9_setOutside wsX9_setOutside 2 45 K [.ref (am 0), .int (iI x)] [gMdl K am th (am 1) lg mr en pw sl ly dn iz tz nx st tk vl ef ep hO hB ol rm oz, gArr K 95 (am 1) NF, gArr K 570 (am 18) PA] (fun (v : Value) (u : (Int → Int) × Int) => (v = .int (iI (NF 1))) ∧ (∀ j : Int, 0 ≤ j → j < 570 → u.1 j = remP rm PA NF j) ∧ (u.2 = min (rm + 1) 6)) (fun (u : (Int → Int) × Int) => [gMdl K am (thr (bI (1000 ≤ x ∧ x ≤ 4000)) 1 1) (am 1) lg mr en pw sl ly dn iz tz nx st tk vl ef ep hO hB ol u.2 oz, gArr K 95 (am 1) (upI NF 1 x), gArr K 570 (am 18) u.1]) 0 0 := by
  refine mG_of cX9_setOutside 2 (by decide) rfl (Nat.le_of_ble_eq_true rfl) ?_
  intro p e s m below meth c A ls Q S C hG hl hr hlk hin hQ
  have S : CallFix p m c cX9_setOutside 2 s ([.ref (am 0), .int (iI x)] : List Value).toArray wsX9_setOutside RX9 := S
  have iX90 : ∀ w ∈ wsX90, w ∈ wsX9_setOutside := fun _ h => List.mem_cons_of_mem _ (List.mem_append_right _ (h))
  have hl : lv_has ls 2 [(0, .ref (am 0)), (1, .int (iI x))] := hl
  have hG : gW K A s.heap [gMdl K am th (am 1) lg mr en pw sl ly dn iz tz nx st tk vl ef ep hO hB ol rm oz, gArr K 95 (am 1) NF, gArr K 570 (am 18) PA] s.heap [] := hG
  have n0 := hN.1
  have n3 := hN.2.2.2.1
  refine lv_aload_n S.1 S.2.1 dX9_setOutside_0 rfl (lv_at hl 0 rfl) ?_
  refine lv_iload_n S.1 S.2.1 dX9_setOutside_1 rfl (lv_at hl 1 rfl) ?_
  refine g_invS (As := [.int (iI x)]) (rest := [.ref (am 0)]) (gs' := (fun u : Unit => [gMdl K am th (am 1) lg mr en pw sl ly dn iz tz nx st tk vl ef ep hO hB ol rm oz, gArr K 95 (am 1) NF, gArr K 570 (am 18) PA])) S C hG [] (c_X9_isIndex l K x hx) rfl rfl (va_cwS 1 S.2.2.2.2 gX9_setOutside_X9_isIndex rfl rfl rfl (by decide +kernel) ⟨Nat.le_of_ble_eq_true rfl, Nat.le_of_ble_eq_true rfl⟩) rfl hl.1 rfl (Nat.le_of_ble_eq_true rfl) dX9_setOutside_2 ⟨Nat.le_of_ble_eq_true rfl, Nat.le_of_ble_eq_true rfl⟩ (fun _ => Nat.le_of_ble_eq_true rfl) (fun _ => rfl) (fun v u H locs hp hG => ?_)
  subst hp
  refine g_invV (As := [.int (iI (bI (1000 ≤ x ∧ x ≤ 4000)))]) (rest := []) (gs' := (fun u : Unit => [gMdl K am (thr (bI (1000 ≤ x ∧ x ≤ 4000)) 1 1) (am 1) lg mr en pw sl ly dn iz tz nx st tk vl ef ep hO hB ol rm oz, gArr K 95 (am 1) NF, gArr K 570 (am 18) PA])) S C hG [0] (c_X9_passes l K am th (am 1) lg mr en pw sl ly dn iz tz nx st tk vl ef ep hO hB ol rm oz (bI (1000 ≤ x ∧ x ≤ 4000)) (bI_01 _)) rfl rfl 0 rfl rfl (cwV 1 S.2.2.2.2 gX9_setOutside_X9_passes rfl rfl rfl (by decide +kernel) ⟨Nat.le_of_ble_eq_true rfl, Nat.le_of_ble_eq_true rfl⟩) rfl hl.1 rfl (Nat.le_of_ble_eq_true rfl) dX9_setOutside_5 ⟨Nat.le_of_ble_eq_true rfl, Nat.le_of_ble_eq_true rfl⟩ (fun _ => Nat.le_of_ble_eq_true rfl) (fun _ => rfl) (fun v u H locs hp hG => ?_)
  subst hp
  refine g_ifeq_b (B := ((bI (1000 ≤ x ∧ x ≤ 4000)) = 1)) (tgt := 20) S dX9_setOutside_8 (by decide) (fun q8 => ?_) (fun q8 => ?_)
  · skip
    exact absurd (bI_t g1) q8
  · skip
    refine lv_aload_n S.1 S.2.1 dX9_setOutside_11 rfl (lv_at hl 0 rfl) ?_
    refine g_iconst S dX9_setOutside_12 ?_
    refine lv_iload_n S.1 S.2.1 dX9_setOutside_13 rfl (lv_at hl 1 rfl) ?_
    refine g_invV (As := [.int (iI 1), .int (iI x)]) (rest := []) (gs' := (fun u : (Int → Int) × Int => [gMdl K am (thr (bI (1000 ≤ x ∧ x ≤ 4000)) 1 1) (am 1) lg mr en pw sl ly dn iz tz nx st tk vl ef ep hO hB ol u.2 oz, gArr K 95 (am 1) (upI NF 1 x), gArr K 570 (am 18) u.1])) S C hG [0, 1, 2] (c_X9_becomes l K am (thr (bI (1000 ≤ x ∧ x ≤ 4000)) 1 1) lg mr en pw sl ly dn iz tz nx st tk vl ef ep hO hB ol rm oz NF PA 1 x hrm (by decide)) rfl rfl 0 rfl rfl (cwV 2 S.2.2.2.2 gX9_setOutside_X9_becomes rfl rfl rfl (by decide +kernel) ⟨Nat.le_of_ble_eq_true rfl, Nat.le_of_ble_eq_true rfl⟩) rfl hl.1 rfl (Nat.le_of_ble_eq_true rfl) dX9_setOutside_14 ⟨Nat.le_of_ble_eq_true rfl, Nat.le_of_ble_eq_true rfl⟩ (fun _ => Nat.le_of_ble_eq_true rfl) (fun _ => rfl) (fun v u H locs hp hG => ?_)
    obtain ⟨P2_14, rm2_14⟩ := u
    obtain ⟨rfl, hP_14, hm_14⟩ := hp
    have hP_14 : ∀ j : Int, 0 ≤ j → j < 570 → P2_14 j = remP rm PA NF j := hP_14
    have hm_14 : rm2_14 = min (rm + 1) 6 := hm_14
    have hG : gW K A s.heap [gMdl K am (thr (bI (1000 ≤ x ∧ x ≤ 4000)) 1 1) (am 1) lg mr en pw sl ly dn iz tz nx st tk vl ef ep hO hB ol rm2_14 oz, gArr K 95 (am 1) (upI NF 1 x), gArr K 570 (am 18) P2_14] _ _ := hG
    refine lv_goto (tgt := 21) S.1 S.2.1 dX9_setOutside_17 (by decide) ?_
    have hG : gW K A s.heap [gMdl K am (thr (bI (1000 ≤ x ∧ x ≤ 4000)) 1 1) (am 1) lg mr en pw sl ly dn iz tz nx st tk vl ef ep hO hB ol rm2_14 oz, gArr K 95 (am 1) (upI NF 1 x), gArr K 570 (am 18) P2_14] _ _ := hG
    exact g_iret S hr hlk hQ dX9_setOutside_21 (Nat.le_of_ble_eq_true rfl) (Nat.le_of_ble_eq_true rfl) ((P2_14, rm2_14) : (Int → Int) × Int) ⟨rfl, hP_14, hm_14⟩ hG

set_option maxHeartbeats 1000000 in
set_option maxRecDepth 100000 in
theorem b_X9_setOutside (l : Launch) (K : KC) (am : Nat → Nat) (th : Int) (lg : Int) (mr : Int) (en : Int) (pw : Int) (sl : Int) (ly : Int) (dn : Int) (iz : Int) (tz : Int) (nx : Int) (st : Int) (tk : Int) (vl : Int) (ef : Int) (ep : Int) (hO : Int) (hB : Int) (ol : Int) (rm : Int) (oz : Int) (NF : Int → Int) (x : Int) (hN : NOk0 NF) (hx : -2147483648 ≤ x ∧ x < 2147483648) (hbad : ¬ ((1000 ≤ x ∧ x ≤ 4000))) : mG l yX9_setOutside wsX9_setOutside 2 45 K [.ref (am 0), .int (iI x)] [gMdl K am th (am 1) lg mr en pw sl ly dn iz tz nx st tk vl ef ep hO hB ol rm oz, gArr K 95 (am 1) NF] (fun (v : Value) (u : Unit) => (v = .int (iI 0))) (fun (u : Unit) => [gMdl K am (thr (bI (1000 ≤ x ∧ x ≤ 4000)) 1 1) (am 1) lg mr en pw sl ly dn iz tz nx st tk vl ef ep hO hB ol rm oz, gArr K 95 (am 1) NF]) 0 0 := by
  refine mG_of cX9_setOutside 2 (by decide) rfl (Nat.le_of_ble_eq_true rfl) ?_
  intro p e s m below meth c A ls Q S C hG hl hr hlk hin hQ
  have S : CallFix p m c cX9_setOutside 2 s ([.ref (am 0), .int (iI x)] : List Value).toArray wsX9_setOutside RX9 := S
  have iX90 : ∀ w ∈ wsX90, w ∈ wsX9_setOutside := fun _ h => List.mem_cons_of_mem _ (List.mem_append_right _ (h))
  have hl : lv_has ls 2 [(0, .ref (am 0)), (1, .int (iI x))] := hl
  have hG : gW K A s.heap [gMdl K am th (am 1) lg mr en pw sl ly dn iz tz nx st tk vl ef ep hO hB ol rm oz, gArr K 95 (am 1) NF] s.heap [] := hG
  have n0 := hN.1
  have n3 := hN.2.2.2.1
  refine lv_aload_n S.1 S.2.1 dX9_setOutside_0 rfl (lv_at hl 0 rfl) ?_
  refine lv_iload_n S.1 S.2.1 dX9_setOutside_1 rfl (lv_at hl 1 rfl) ?_
  refine g_invS (As := [.int (iI x)]) (rest := [.ref (am 0)]) (gs' := (fun u : Unit => [gMdl K am th (am 1) lg mr en pw sl ly dn iz tz nx st tk vl ef ep hO hB ol rm oz, gArr K 95 (am 1) NF])) S C hG [] (c_X9_isIndex l K x hx) rfl rfl (va_cwS 1 S.2.2.2.2 gX9_setOutside_X9_isIndex rfl rfl rfl (by decide +kernel) ⟨Nat.le_of_ble_eq_true rfl, Nat.le_of_ble_eq_true rfl⟩) rfl hl.1 rfl (Nat.le_of_ble_eq_true rfl) dX9_setOutside_2 ⟨Nat.le_of_ble_eq_true rfl, Nat.le_of_ble_eq_true rfl⟩ (fun _ => Nat.le_of_ble_eq_true rfl) (fun _ => rfl) (fun v u H locs hp hG => ?_)
  subst hp
  refine g_invV (As := [.int (iI (bI (1000 ≤ x ∧ x ≤ 4000)))]) (rest := []) (gs' := (fun u : Unit => [gMdl K am (thr (bI (1000 ≤ x ∧ x ≤ 4000)) 1 1) (am 1) lg mr en pw sl ly dn iz tz nx st tk vl ef ep hO hB ol rm oz, gArr K 95 (am 1) NF])) S C hG [0] (c_X9_passes l K am th (am 1) lg mr en pw sl ly dn iz tz nx st tk vl ef ep hO hB ol rm oz (bI (1000 ≤ x ∧ x ≤ 4000)) (bI_01 _)) rfl rfl 0 rfl rfl (cwV 1 S.2.2.2.2 gX9_setOutside_X9_passes rfl rfl rfl (by decide +kernel) ⟨Nat.le_of_ble_eq_true rfl, Nat.le_of_ble_eq_true rfl⟩) rfl hl.1 rfl (Nat.le_of_ble_eq_true rfl) dX9_setOutside_5 ⟨Nat.le_of_ble_eq_true rfl, Nat.le_of_ble_eq_true rfl⟩ (fun _ => Nat.le_of_ble_eq_true rfl) (fun _ => rfl) (fun v u H locs hp hG => ?_)
  subst hp
  refine g_ifeq_b (B := ((bI (1000 ≤ x ∧ x ≤ 4000)) = 1)) (tgt := 20) S dX9_setOutside_8 (by decide) (fun q8 => ?_) (fun q8 => ?_)
  · skip
    refine g_iconst S dX9_setOutside_20 ?_
    have hG : gW K A s.heap [gMdl K am (thr (bI (1000 ≤ x ∧ x ≤ 4000)) 1 1) (am 1) lg mr en pw sl ly dn iz tz nx st tk vl ef ep hO hB ol rm oz, gArr K 95 (am 1) NF] _ _ := hG
    exact g_iret S hr hlk hQ dX9_setOutside_21 (Nat.le_of_ble_eq_true rfl) (Nat.le_of_ble_eq_true rfl) (() : Unit) rfl hG
  · skip
    exact absurd (bI1 q8) hbad

set_option maxHeartbeats 1000000 in
set_option maxRecDepth 100000 in
theorem c_X9_setOpen (l : Launch) (K : KC) (am : Nat → Nat) (th : Int) (lg : Int) (mr : Int) (en : Int) (pw : Int) (sl : Int) (ly : Int) (dn : Int) (iz : Int) (tz : Int) (nx : Int) (st : Int) (tk : Int) (vl : Int) (ef : Int) (ep : Int) (hO : Int) (hB : Int) (ol : Int) (rm : Int) (oz : Int) (NF : Int → Int) (PA : Int → Int) (x : Int) (hN : NOk0 NF) (hrm : 0 ≤ rm ∧ rm ≤ 6) (hx : -2147483648 ≤ x ∧ x < 2147483648) (g1 : 1000 ≤ x ∧ x ≤ 4000) : mG l yX9_setOpen wsX9_setOpen 2 45 K [.ref (am 0), .int (iI x)] [gMdl K am th (am 1) lg mr en pw sl ly dn iz tz nx st tk vl ef ep hO hB ol rm oz, gArr K 95 (am 1) NF, gArr K 570 (am 18) PA] (fun (v : Value) (u : (Int → Int) × Int) => (v = .int (iI (if NF 2 = 1 then 5000 else NF 3))) ∧ (∀ j : Int, 0 ≤ j → j < 570 → u.1 j = remP rm PA NF j) ∧ (u.2 = min (rm + 1) 6)) (fun (u : (Int → Int) × Int) => [gMdl K am (thr (bI (1000 ≤ x ∧ x ≤ 4000)) 1 1) (am 1) lg mr en pw sl ly dn iz tz nx st tk vl ef ep hO hB ol u.2 oz, gArr K 95 (am 1) (upI (upI NF 2 0) 3 x), gArr K 570 (am 18) u.1]) 0 0 := by
  refine mG_of cX9_setOpen 4 (by decide) rfl (Nat.le_of_ble_eq_true rfl) ?_
  intro p e s m below meth c A ls Q S C hG hl hr hlk hin hQ
  have S : CallFix p m c cX9_setOpen 4 s ([.ref (am 0), .int (iI x)] : List Value).toArray wsX9_setOpen RX9 := S
  have iX90 : ∀ w ∈ wsX90, w ∈ wsX9_setOpen := fun _ h => List.mem_cons_of_mem _ (List.mem_append_right _ (h))
  have hl : lv_has ls 4 [(0, .ref (am 0)), (1, .int (iI x))] := hl
  have hG : gW K A s.heap [gMdl K am th (am 1) lg mr en pw sl ly dn iz tz nx st tk vl ef ep hO hB ol rm oz, gArr K 95 (am 1) NF, gArr K 570 (am 18) PA] s.heap [] := hG
  have n0 := hN.1
  have n3 := hN.2.2.2.1
  have n2 := hN.2.2.1
  refine lv_aload_n S.1 S.2.1 dX9_setOpen_0 rfl (lv_at hl 0 rfl) ?_
  refine lv_iload_n S.1 S.2.1 dX9_setOpen_1 rfl (lv_at hl 1 rfl) ?_
  refine g_invS (As := [.int (iI x)]) (rest := [.ref (am 0)]) (gs' := (fun u : Unit => [gMdl K am th (am 1) lg mr en pw sl ly dn iz tz nx st tk vl ef ep hO hB ol rm oz, gArr K 95 (am 1) NF, gArr K 570 (am 18) PA])) S C hG [] (c_X9_isIndex l K x hx) rfl rfl (va_cwS 1 S.2.2.2.2 gX9_setOpen_X9_isIndex rfl rfl rfl (by decide +kernel) ⟨Nat.le_of_ble_eq_true rfl, Nat.le_of_ble_eq_true rfl⟩) rfl hl.1 rfl (Nat.le_of_ble_eq_true rfl) dX9_setOpen_2 ⟨Nat.le_of_ble_eq_true rfl, Nat.le_of_ble_eq_true rfl⟩ (fun _ => Nat.le_of_ble_eq_true rfl) (fun _ => rfl) (fun v u H locs hp hG => ?_)
  subst hp
  refine g_invV (As := [.int (iI (bI (1000 ≤ x ∧ x ≤ 4000)))]) (rest := []) (gs' := (fun u : Unit => [gMdl K am (thr (bI (1000 ≤ x ∧ x ≤ 4000)) 1 1) (am 1) lg mr en pw sl ly dn iz tz nx st tk vl ef ep hO hB ol rm oz, gArr K 95 (am 1) NF, gArr K 570 (am 18) PA])) S C hG [0] (c_X9_passes l K am th (am 1) lg mr en pw sl ly dn iz tz nx st tk vl ef ep hO hB ol rm oz (bI (1000 ≤ x ∧ x ≤ 4000)) (bI_01 _)) rfl rfl 0 rfl rfl (cwV 1 S.2.2.2.2 gX9_setOpen_X9_passes rfl rfl rfl (by decide +kernel) ⟨Nat.le_of_ble_eq_true rfl, Nat.le_of_ble_eq_true rfl⟩) rfl hl.1 rfl (Nat.le_of_ble_eq_true rfl) dX9_setOpen_5 ⟨Nat.le_of_ble_eq_true rfl, Nat.le_of_ble_eq_true rfl⟩ (fun _ => Nat.le_of_ble_eq_true rfl) (fun _ => rfl) (fun v u H locs hp hG => ?_)
  subst hp
  refine g_ifne_b (B := ((bI (1000 ≤ x ∧ x ≤ 4000)) = 1)) (tgt := 13) S dX9_setOpen_8 (by decide) (fun q8 => ?_) (fun q8 => ?_)
  · skip
    refine lv_aload_n S.1 S.2.1 dX9_setOpen_13 rfl (lv_at hl 0 rfl) ?_
    refine g_iconst S dX9_setOpen_14 ?_
    refine lv_iload_n S.1 S.2.1 dX9_setOpen_15 rfl (lv_at hl 1 rfl) ?_
    refine g_invV (As := [.int (iI 3), .int (iI x)]) (rest := []) (gs' := (fun u : (Int → Int) × Int => [gMdl K am (thr (bI (1000 ≤ x ∧ x ≤ 4000)) 1 1) (am 1) lg mr en pw sl ly dn iz tz nx st tk vl ef ep hO hB ol u.2 oz, gArr K 95 (am 1) (upI NF 3 x), gArr K 570 (am 18) u.1])) S C hG [0, 1, 2] (c_X9_becomes l K am (thr (bI (1000 ≤ x ∧ x ≤ 4000)) 1 1) lg mr en pw sl ly dn iz tz nx st tk vl ef ep hO hB ol rm oz NF PA 3 x hrm (by decide)) rfl rfl 0 rfl rfl (cwV 2 S.2.2.2.2 gX9_setOpen_X9_becomes rfl rfl rfl (by decide +kernel) ⟨Nat.le_of_ble_eq_true rfl, Nat.le_of_ble_eq_true rfl⟩) rfl hl.1 rfl (Nat.le_of_ble_eq_true rfl) dX9_setOpen_16 ⟨Nat.le_of_ble_eq_true rfl, Nat.le_of_ble_eq_true rfl⟩ (fun _ => Nat.le_of_ble_eq_true rfl) (fun _ => rfl) (fun v u H locs hp hG => ?_)
    obtain ⟨P2_16, rm2_16⟩ := u
    obtain ⟨rfl, hP_16, hm_16⟩ := hp
    have hP_16 : ∀ j : Int, 0 ≤ j → j < 570 → P2_16 j = remP rm PA NF j := hP_16
    have hm_16 : rm2_16 = min (rm + 1) 6 := hm_16
    have hG : gW K A s.heap [gMdl K am (thr (bI (1000 ≤ x ∧ x ≤ 4000)) 1 1) (am 1) lg mr en pw sl ly dn iz tz nx st tk vl ef ep hO hB ol rm2_16 oz, gArr K 95 (am 1) (upI NF 3 x), gArr K 570 (am 18) P2_16] _ _ := hG
    refine lv_istore_n (lv' := [(2, .int (iI (NF 3))), (0, .ref (am 0)), (1, .int (iI x))]) S.1 S.2.1 dX9_setOpen_19 rfl hl (by decide) rfl (fun ls hl => ?_)
    refine lv_aload_n S.1 S.2.1 dX9_setOpen_20 rfl (lv_at hl 1 rfl) ?_
    refine g_get S C hG iX90 0 rfl rfl 1 (by decide) (List.mem_of_getElem? (i := 1) rfl) rfl dX9_setOpen_21 ?_
    refine g_iconst S dX9_setOpen_24 ?_
    refine g_iald S C hG 1 rfl (by omega) (by omega) (by omega) dX9_setOpen_25 ?_
    refine g_top (w := .int (iI (NF 2))) (congrArg (fun z : Int => Value.int (iI z)) ((upI_n _ _ (by decide)))) ?_
    refine g_iconst S dX9_setOpen_26 ?_
    refine g_icmp_ne (tgt := 34) S dX9_setOpen_27 (by decide) (by omega) (by omega) (fun q27 => ?_) (fun q27 => ?_)
    · skip
      refine g_iconst S dX9_setOpen_34 ?_
      refine lv_istore_n (lv' := [(3, .int (iI 0)), (2, .int (iI (NF 3))), (0, .ref (am 0)), (1, .int (iI x))]) S.1 S.2.1 dX9_setOpen_35 rfl hl (by decide) rfl (fun ls hl => ?_)
      refine lv_aload_n S.1 S.2.1 dX9_setOpen_36 rfl (lv_at hl 2 rfl) ?_
      refine g_get S C hG iX90 0 rfl rfl 1 (by decide) (List.mem_of_getElem? (i := 1) rfl) rfl dX9_setOpen_37 ?_
      refine g_iconst S dX9_setOpen_40 ?_
      refine g_iconst S dX9_setOpen_41 ?_
      refine g_iast (gs' := [gMdl K am (thr (bI (1000 ≤ x ∧ x ≤ 4000)) 1 1) (am 1) lg mr en pw sl ly dn iz tz nx st tk vl ef ep hO hB ol rm2_16 oz, gArr K 95 (am 1) (upI (upI NF 3 x) 2 0), gArr K 570 (am 18) P2_16]) S C hG 1 rfl (by omega) (by omega) (by omega) rfl dX9_setOpen_42 (fun H locs hG => ?_)
      refine lv_iload_n S.1 S.2.1 dX9_setOpen_43 rfl (lv_at hl 0 rfl) ?_
      refine g_if_eq (tgt := 53) S dX9_setOpen_44 (by decide) (by omega) (fun q44 => ?_) (fun q44 => ?_)
      · skip
        refine lv_iload_n S.1 S.2.1 dX9_setOpen_53 rfl (lv_at hl 1 rfl) ?_
        have hG : gW K A s.heap [gMdl K am (thr (bI (1000 ≤ x ∧ x ≤ 4000)) 1 1) (am 1) lg mr en pw sl ly dn iz tz nx st tk vl ef ep hO hB ol rm2_16 oz, gArr K 95 (am 1) (upI (upI NF 2 0) 3 x), gArr K 570 (am 18) P2_16] _ _ := (by rw [← upI_comm NF (show (3 : Int) ≠ 2 by decide) x 0] <;> exact hG)
        exact g_iret S hr hlk hQ dX9_setOpen_54 (Nat.le_of_ble_eq_true rfl) (Nat.le_of_ble_eq_true rfl) ((P2_16, rm2_16) : (Int → Int) × Int) ⟨(congrArg (fun z : Int => Value.int (iI z)) (by rw [if_neg (by omega)])), hP_16, hm_16⟩ hG
      · skip
        exact absurd q44 (by decide)
    · skip
      refine g_iconst S dX9_setOpen_30 ?_
      refine lv_goto (tgt := 35) S.1 S.2.1 dX9_setOpen_31 (by decide) ?_
      refine lv_istore_n (lv' := [(3, .int (iI 1)), (2, .int (iI (NF 3))), (0, .ref (am 0)), (1, .int (iI x))]) S.1 S.2.1 dX9_setOpen_35 rfl hl (by decide) rfl (fun ls hl => ?_)
      refine lv_aload_n S.1 S.2.1 dX9_setOpen_36 rfl (lv_at hl 2 rfl) ?_
      refine g_get S C hG iX90 0 rfl rfl 1 (by decide) (List.mem_of_getElem? (i := 1) rfl) rfl dX9_setOpen_37 ?_
      refine g_iconst S dX9_setOpen_40 ?_
      refine g_iconst S dX9_setOpen_41 ?_
      refine g_iast (gs' := [gMdl K am (thr (bI (1000 ≤ x ∧ x ≤ 4000)) 1 1) (am 1) lg mr en pw sl ly dn iz tz nx st tk vl ef ep hO hB ol rm2_16 oz, gArr K 95 (am 1) (upI (upI NF 3 x) 2 0), gArr K 570 (am 18) P2_16]) S C hG 1 rfl (by omega) (by omega) (by omega) rfl dX9_setOpen_42 (fun H locs hG => ?_)
      refine lv_iload_n S.1 S.2.1 dX9_setOpen_43 rfl (lv_at hl 0 rfl) ?_
      refine g_if_eq (tgt := 53) S dX9_setOpen_44 (by decide) (by omega) (fun q44 => ?_) (fun q44 => ?_)
      · skip
        exact absurd q44 (by decide)
      · skip
        refine g_sipush S dX9_setOpen_47 (by decide) ?_
        refine lv_goto (tgt := 54) S.1 S.2.1 dX9_setOpen_50 (by decide) ?_
        have hG : gW K A s.heap [gMdl K am (thr (bI (1000 ≤ x ∧ x ≤ 4000)) 1 1) (am 1) lg mr en pw sl ly dn iz tz nx st tk vl ef ep hO hB ol rm2_16 oz, gArr K 95 (am 1) (upI (upI NF 2 0) 3 x), gArr K 570 (am 18) P2_16] _ _ := (by rw [← upI_comm NF (show (3 : Int) ≠ 2 by decide) x 0] <;> exact hG)
        exact g_iret S hr hlk hQ dX9_setOpen_54 (Nat.le_of_ble_eq_true rfl) (Nat.le_of_ble_eq_true rfl) ((P2_16, rm2_16) : (Int → Int) × Int) ⟨(congrArg (fun z : Int => Value.int (iI z)) (by rw [if_pos (by omega)])), hP_16, hm_16⟩ hG
  · skip
    exact absurd (bI_t g1) q8

set_option maxHeartbeats 1000000 in
set_option maxRecDepth 100000 in
theorem b_X9_setOpen (l : Launch) (K : KC) (am : Nat → Nat) (th : Int) (lg : Int) (mr : Int) (en : Int) (pw : Int) (sl : Int) (ly : Int) (dn : Int) (iz : Int) (tz : Int) (nx : Int) (st : Int) (tk : Int) (vl : Int) (ef : Int) (ep : Int) (hO : Int) (hB : Int) (ol : Int) (rm : Int) (oz : Int) (NF : Int → Int) (x : Int) (hN : NOk0 NF) (hx : -2147483648 ≤ x ∧ x < 2147483648) (hbad : ¬ ((1000 ≤ x ∧ x ≤ 4000))) : mG l yX9_setOpen wsX9_setOpen 2 45 K [.ref (am 0), .int (iI x)] [gMdl K am th (am 1) lg mr en pw sl ly dn iz tz nx st tk vl ef ep hO hB ol rm oz, gArr K 95 (am 1) NF] (fun (v : Value) (u : Unit) => (v = .int (iI 0))) (fun (u : Unit) => [gMdl K am (thr (bI (1000 ≤ x ∧ x ≤ 4000)) 1 1) (am 1) lg mr en pw sl ly dn iz tz nx st tk vl ef ep hO hB ol rm oz, gArr K 95 (am 1) NF]) 0 0 := by
  refine mG_of cX9_setOpen 4 (by decide) rfl (Nat.le_of_ble_eq_true rfl) ?_
  intro p e s m below meth c A ls Q S C hG hl hr hlk hin hQ
  have S : CallFix p m c cX9_setOpen 4 s ([.ref (am 0), .int (iI x)] : List Value).toArray wsX9_setOpen RX9 := S
  have iX90 : ∀ w ∈ wsX90, w ∈ wsX9_setOpen := fun _ h => List.mem_cons_of_mem _ (List.mem_append_right _ (h))
  have hl : lv_has ls 4 [(0, .ref (am 0)), (1, .int (iI x))] := hl
  have hG : gW K A s.heap [gMdl K am th (am 1) lg mr en pw sl ly dn iz tz nx st tk vl ef ep hO hB ol rm oz, gArr K 95 (am 1) NF] s.heap [] := hG
  have n0 := hN.1
  have n3 := hN.2.2.2.1
  refine lv_aload_n S.1 S.2.1 dX9_setOpen_0 rfl (lv_at hl 0 rfl) ?_
  refine lv_iload_n S.1 S.2.1 dX9_setOpen_1 rfl (lv_at hl 1 rfl) ?_
  refine g_invS (As := [.int (iI x)]) (rest := [.ref (am 0)]) (gs' := (fun u : Unit => [gMdl K am th (am 1) lg mr en pw sl ly dn iz tz nx st tk vl ef ep hO hB ol rm oz, gArr K 95 (am 1) NF])) S C hG [] (c_X9_isIndex l K x hx) rfl rfl (va_cwS 1 S.2.2.2.2 gX9_setOpen_X9_isIndex rfl rfl rfl (by decide +kernel) ⟨Nat.le_of_ble_eq_true rfl, Nat.le_of_ble_eq_true rfl⟩) rfl hl.1 rfl (Nat.le_of_ble_eq_true rfl) dX9_setOpen_2 ⟨Nat.le_of_ble_eq_true rfl, Nat.le_of_ble_eq_true rfl⟩ (fun _ => Nat.le_of_ble_eq_true rfl) (fun _ => rfl) (fun v u H locs hp hG => ?_)
  subst hp
  refine g_invV (As := [.int (iI (bI (1000 ≤ x ∧ x ≤ 4000)))]) (rest := []) (gs' := (fun u : Unit => [gMdl K am (thr (bI (1000 ≤ x ∧ x ≤ 4000)) 1 1) (am 1) lg mr en pw sl ly dn iz tz nx st tk vl ef ep hO hB ol rm oz, gArr K 95 (am 1) NF])) S C hG [0] (c_X9_passes l K am th (am 1) lg mr en pw sl ly dn iz tz nx st tk vl ef ep hO hB ol rm oz (bI (1000 ≤ x ∧ x ≤ 4000)) (bI_01 _)) rfl rfl 0 rfl rfl (cwV 1 S.2.2.2.2 gX9_setOpen_X9_passes rfl rfl rfl (by decide +kernel) ⟨Nat.le_of_ble_eq_true rfl, Nat.le_of_ble_eq_true rfl⟩) rfl hl.1 rfl (Nat.le_of_ble_eq_true rfl) dX9_setOpen_5 ⟨Nat.le_of_ble_eq_true rfl, Nat.le_of_ble_eq_true rfl⟩ (fun _ => Nat.le_of_ble_eq_true rfl) (fun _ => rfl) (fun v u H locs hp hG => ?_)
  subst hp
  refine g_ifne_b (B := ((bI (1000 ≤ x ∧ x ≤ 4000)) = 1)) (tgt := 13) S dX9_setOpen_8 (by decide) (fun q8 => ?_) (fun q8 => ?_)
  · skip
    exact absurd (bI1 q8) hbad
  · skip
    refine g_iconst S dX9_setOpen_11 ?_
    have hG : gW K A s.heap [gMdl K am (thr (bI (1000 ≤ x ∧ x ≤ 4000)) 1 1) (am 1) lg mr en pw sl ly dn iz tz nx st tk vl ef ep hO hB ol rm oz, gArr K 95 (am 1) NF] _ _ := hG
    exact g_iret S hr hlk hQ dX9_setOpen_12 (Nat.le_of_ble_eq_true rfl) (Nat.le_of_ble_eq_true rfl) (() : Unit) rfl hG

set_option maxHeartbeats 1000000 in
set_option maxRecDepth 100000 in
theorem c_X9_setMirror (l : Launch) (K : KC) (am : Nat → Nat) (th : Int) (lg : Int) (mr : Int) (en : Int) (pw : Int) (sl : Int) (ly : Int) (dn : Int) (iz : Int) (tz : Int) (nx : Int) (st : Int) (tk : Int) (vl : Int) (ef : Int) (ep : Int) (hO : Int) (hB : Int) (ol : Int) (rm : Int) (oz : Int) (NF : Int → Int) (PA : Int → Int) (x : Int) (hN : NOk0 NF) (hrm : 0 ≤ rm ∧ rm ≤ 6) (hx : -2147483648 ≤ x ∧ x < 2147483648) (g1 : 0 ≤ x ∧ x ≤ 100) : mG l yX9_setMirror wsX9_setMirror 2 44 K [.ref (am 0), .int (iI x)] [gMdl K am th (am 1) lg mr en pw sl ly dn iz tz nx st tk vl ef ep hO hB ol rm oz, gArr K 95 (am 1) NF, gArr K 570 (am 18) PA] (fun (v : Value) (u : (Int → Int) × Int) => (v = .int (iI (if NF 2 = 1 then NF 3 else -1))) ∧ (∀ j : Int, 0 ≤ j → j < 570 → u.1 j = remP rm PA NF j) ∧ (u.2 = min (rm + 1) 6)) (fun (u : (Int → Int) × Int) => [gMdl K am (thr (bI (0 ≤ x ∧ x ≤ 100)) 1 1) (am 1) lg mr en pw sl ly dn iz tz nx st tk vl ef ep hO hB ol u.2 oz, gArr K 95 (am 1) (upI (upI NF 2 1) 3 x), gArr K 570 (am 18) u.1]) 0 0 := by
  refine mG_of cX9_setMirror 4 (by decide) rfl (Nat.le_of_ble_eq_true rfl) ?_
  intro p e s m below meth c A ls Q S C hG hl hr hlk hin hQ
  have S : CallFix p m c cX9_setMirror 4 s ([.ref (am 0), .int (iI x)] : List Value).toArray wsX9_setMirror RX9 := S
  have iX90 : ∀ w ∈ wsX90, w ∈ wsX9_setMirror := fun _ h => List.mem_cons_of_mem _ (List.mem_append_right _ (h))
  have hl : lv_has ls 4 [(0, .ref (am 0)), (1, .int (iI x))] := hl
  have hG : gW K A s.heap [gMdl K am th (am 1) lg mr en pw sl ly dn iz tz nx st tk vl ef ep hO hB ol rm oz, gArr K 95 (am 1) NF, gArr K 570 (am 18) PA] s.heap [] := hG
  have n0 := hN.1
  have n3 := hN.2.2.2.1
  have n2 := hN.2.2.1
  refine lv_aload_n S.1 S.2.1 dX9_setMirror_0 rfl (lv_at hl 0 rfl) ?_
  refine lv_iload_n S.1 S.2.1 dX9_setMirror_1 rfl (lv_at hl 1 rfl) ?_
  refine g_i2l S dX9_setMirror_2 (by omega) ?_
  refine g_lconst (z := 0) S dX9_setMirror_3 rfl ?_
  refine g_ldc2 (z := 100) S dX9_setMirror_4 (List.mem_of_getElem? (i := 1) rfl) rfl ?_
  refine g_invS (As := [.long (iL x), .long (iL 0), .long (iL 100)]) (rest := [.ref (am 0)]) (gs' := (fun u : Unit => [gMdl K am th (am 1) lg mr en pw sl ly dn iz tz nx st tk vl ef ep hO hB ol rm oz, gArr K 95 (am 1) NF, gArr K 570 (am 18) PA])) S C hG [] (c_X9_in l K x 0 100 (by omega) (by omega) (by omega)) rfl rfl (va_cwS 3 S.2.2.2.2 gX9_setMirror_X9_in rfl rfl rfl (by decide +kernel) ⟨Nat.le_of_ble_eq_true rfl, Nat.le_of_ble_eq_true rfl⟩) rfl hl.1 rfl (Nat.le_of_ble_eq_true rfl) dX9_setMirror_7 ⟨Nat.le_of_ble_eq_true rfl, Nat.le_of_ble_eq_true rfl⟩ (fun _ => Nat.le_of_ble_eq_true rfl) (fun _ => rfl) (fun v u H locs hp hG => ?_)
  subst hp
  refine g_invV (As := [.int (iI (bI (0 ≤ x ∧ x ≤ 100)))]) (rest := []) (gs' := (fun u : Unit => [gMdl K am (thr (bI (0 ≤ x ∧ x ≤ 100)) 1 1) (am 1) lg mr en pw sl ly dn iz tz nx st tk vl ef ep hO hB ol rm oz, gArr K 95 (am 1) NF, gArr K 570 (am 18) PA])) S C hG [0] (c_X9_passes l K am th (am 1) lg mr en pw sl ly dn iz tz nx st tk vl ef ep hO hB ol rm oz (bI (0 ≤ x ∧ x ≤ 100)) (bI_01 _)) rfl rfl 0 rfl rfl (cwV 1 S.2.2.2.2 gX9_setMirror_X9_passes rfl rfl rfl (by decide +kernel) ⟨Nat.le_of_ble_eq_true rfl, Nat.le_of_ble_eq_true rfl⟩) rfl hl.1 rfl (Nat.le_of_ble_eq_true rfl) dX9_setMirror_10 ⟨Nat.le_of_ble_eq_true rfl, Nat.le_of_ble_eq_true rfl⟩ (fun _ => Nat.le_of_ble_eq_true rfl) (fun _ => rfl) (fun v u H locs hp hG => ?_)
  subst hp
  refine g_ifne_b (B := ((bI (0 ≤ x ∧ x ≤ 100)) = 1)) (tgt := 18) S dX9_setMirror_13 (by decide) (fun q13 => ?_) (fun q13 => ?_)
  · skip
    refine lv_aload_n S.1 S.2.1 dX9_setMirror_18 rfl (lv_at hl 0 rfl) ?_
    refine g_iconst S dX9_setMirror_19 ?_
    refine lv_iload_n S.1 S.2.1 dX9_setMirror_20 rfl (lv_at hl 1 rfl) ?_
    refine g_invV (As := [.int (iI 3), .int (iI x)]) (rest := []) (gs' := (fun u : (Int → Int) × Int => [gMdl K am (thr (bI (0 ≤ x ∧ x ≤ 100)) 1 1) (am 1) lg mr en pw sl ly dn iz tz nx st tk vl ef ep hO hB ol u.2 oz, gArr K 95 (am 1) (upI NF 3 x), gArr K 570 (am 18) u.1])) S C hG [0, 1, 2] (c_X9_becomes l K am (thr (bI (0 ≤ x ∧ x ≤ 100)) 1 1) lg mr en pw sl ly dn iz tz nx st tk vl ef ep hO hB ol rm oz NF PA 3 x hrm (by decide)) rfl rfl 0 rfl rfl (cwV 2 S.2.2.2.2 gX9_setMirror_X9_becomes rfl rfl rfl (by decide +kernel) ⟨Nat.le_of_ble_eq_true rfl, Nat.le_of_ble_eq_true rfl⟩) rfl hl.1 rfl (Nat.le_of_ble_eq_true rfl) dX9_setMirror_21 ⟨Nat.le_of_ble_eq_true rfl, Nat.le_of_ble_eq_true rfl⟩ (fun _ => Nat.le_of_ble_eq_true rfl) (fun _ => rfl) (fun v u H locs hp hG => ?_)
    obtain ⟨P2_21, rm2_21⟩ := u
    obtain ⟨rfl, hP_21, hm_21⟩ := hp
    have hP_21 : ∀ j : Int, 0 ≤ j → j < 570 → P2_21 j = remP rm PA NF j := hP_21
    have hm_21 : rm2_21 = min (rm + 1) 6 := hm_21
    have hG : gW K A s.heap [gMdl K am (thr (bI (0 ≤ x ∧ x ≤ 100)) 1 1) (am 1) lg mr en pw sl ly dn iz tz nx st tk vl ef ep hO hB ol rm2_21 oz, gArr K 95 (am 1) (upI NF 3 x), gArr K 570 (am 18) P2_21] _ _ := hG
    refine lv_istore_n (lv' := [(2, .int (iI (NF 3))), (0, .ref (am 0)), (1, .int (iI x))]) S.1 S.2.1 dX9_setMirror_24 rfl hl (by decide) rfl (fun ls hl => ?_)
    refine lv_aload_n S.1 S.2.1 dX9_setMirror_25 rfl (lv_at hl 1 rfl) ?_
    refine g_get S C hG iX90 0 rfl rfl 1 (by decide) (List.mem_of_getElem? (i := 2) rfl) rfl dX9_setMirror_26 ?_
    refine g_iconst S dX9_setMirror_29 ?_
    refine g_iald S C hG 1 rfl (by omega) (by omega) (by omega) dX9_setMirror_30 ?_
    refine g_top (w := .int (iI (NF 2))) (congrArg (fun z : Int => Value.int (iI z)) ((upI_n _ _ (by decide)))) ?_
    refine g_iconst S dX9_setMirror_31 ?_
    refine g_icmp_ne (tgt := 39) S dX9_setMirror_32 (by decide) (by omega) (by omega) (fun q32 => ?_) (fun q32 => ?_)
    · skip
      refine g_iconst S dX9_setMirror_39 ?_
      refine lv_istore_n (lv' := [(3, .int (iI 0)), (2, .int (iI (NF 3))), (0, .ref (am 0)), (1, .int (iI x))]) S.1 S.2.1 dX9_setMirror_40 rfl hl (by decide) rfl (fun ls hl => ?_)
      refine lv_aload_n S.1 S.2.1 dX9_setMirror_41 rfl (lv_at hl 2 rfl) ?_
      refine g_get S C hG iX90 0 rfl rfl 1 (by decide) (List.mem_of_getElem? (i := 2) rfl) rfl dX9_setMirror_42 ?_
      refine g_iconst S dX9_setMirror_45 ?_
      refine g_iconst S dX9_setMirror_46 ?_
      refine g_iast (gs' := [gMdl K am (thr (bI (0 ≤ x ∧ x ≤ 100)) 1 1) (am 1) lg mr en pw sl ly dn iz tz nx st tk vl ef ep hO hB ol rm2_21 oz, gArr K 95 (am 1) (upI (upI NF 3 x) 2 1), gArr K 570 (am 18) P2_21]) S C hG 1 rfl (by omega) (by omega) (by omega) rfl dX9_setMirror_47 (fun H locs hG => ?_)
      refine lv_iload_n S.1 S.2.1 dX9_setMirror_48 rfl (lv_at hl 0 rfl) ?_
      refine g_if_eq (tgt := 56) S dX9_setMirror_49 (by decide) (by omega) (fun q49 => ?_) (fun q49 => ?_)
      · skip
        refine g_iconst S dX9_setMirror_56 ?_
        have hG : gW K A s.heap [gMdl K am (thr (bI (0 ≤ x ∧ x ≤ 100)) 1 1) (am 1) lg mr en pw sl ly dn iz tz nx st tk vl ef ep hO hB ol rm2_21 oz, gArr K 95 (am 1) (upI (upI NF 2 1) 3 x), gArr K 570 (am 18) P2_21] _ _ := (by rw [← upI_comm NF (show (3 : Int) ≠ 2 by decide) x 1] <;> exact hG)
        exact g_iret S hr hlk hQ dX9_setMirror_57 (Nat.le_of_ble_eq_true rfl) (Nat.le_of_ble_eq_true rfl) ((P2_21, rm2_21) : (Int → Int) × Int) ⟨(congrArg (fun z : Int => Value.int (iI z)) (by rw [if_neg (by omega)])), hP_21, hm_21⟩ hG
      · skip
        exact absurd q49 (by decide)
    · skip
      refine g_iconst S dX9_setMirror_35 ?_
      refine lv_goto (tgt := 40) S.1 S.2.1 dX9_setMirror_36 (by decide) ?_
      refine lv_istore_n (lv' := [(3, .int (iI 1)), (2, .int (iI (NF 3))), (0, .ref (am 0)), (1, .int (iI x))]) S.1 S.2.1 dX9_setMirror_40 rfl hl (by decide) rfl (fun ls hl => ?_)
      refine lv_aload_n S.1 S.2.1 dX9_setMirror_41 rfl (lv_at hl 2 rfl) ?_
      refine g_get S C hG iX90 0 rfl rfl 1 (by decide) (List.mem_of_getElem? (i := 2) rfl) rfl dX9_setMirror_42 ?_
      refine g_iconst S dX9_setMirror_45 ?_
      refine g_iconst S dX9_setMirror_46 ?_
      refine g_iast (gs' := [gMdl K am (thr (bI (0 ≤ x ∧ x ≤ 100)) 1 1) (am 1) lg mr en pw sl ly dn iz tz nx st tk vl ef ep hO hB ol rm2_21 oz, gArr K 95 (am 1) (upI (upI NF 3 x) 2 1), gArr K 570 (am 18) P2_21]) S C hG 1 rfl (by omega) (by omega) (by omega) rfl dX9_setMirror_47 (fun H locs hG => ?_)
      refine lv_iload_n S.1 S.2.1 dX9_setMirror_48 rfl (lv_at hl 0 rfl) ?_
      refine g_if_eq (tgt := 56) S dX9_setMirror_49 (by decide) (by omega) (fun q49 => ?_) (fun q49 => ?_)
      · skip
        exact absurd q49 (by decide)
      · skip
        refine lv_iload_n S.1 S.2.1 dX9_setMirror_52 rfl (lv_at hl 1 rfl) ?_
        refine lv_goto (tgt := 57) S.1 S.2.1 dX9_setMirror_53 (by decide) ?_
        have hG : gW K A s.heap [gMdl K am (thr (bI (0 ≤ x ∧ x ≤ 100)) 1 1) (am 1) lg mr en pw sl ly dn iz tz nx st tk vl ef ep hO hB ol rm2_21 oz, gArr K 95 (am 1) (upI (upI NF 2 1) 3 x), gArr K 570 (am 18) P2_21] _ _ := (by rw [← upI_comm NF (show (3 : Int) ≠ 2 by decide) x 1] <;> exact hG)
        exact g_iret S hr hlk hQ dX9_setMirror_57 (Nat.le_of_ble_eq_true rfl) (Nat.le_of_ble_eq_true rfl) ((P2_21, rm2_21) : (Int → Int) × Int) ⟨(congrArg (fun z : Int => Value.int (iI z)) (by rw [if_pos (by omega)])), hP_21, hm_21⟩ hG
  · skip
    exact absurd (bI_t g1) q13

set_option maxHeartbeats 1000000 in
set_option maxRecDepth 100000 in
theorem b_X9_setMirror (l : Launch) (K : KC) (am : Nat → Nat) (th : Int) (lg : Int) (mr : Int) (en : Int) (pw : Int) (sl : Int) (ly : Int) (dn : Int) (iz : Int) (tz : Int) (nx : Int) (st : Int) (tk : Int) (vl : Int) (ef : Int) (ep : Int) (hO : Int) (hB : Int) (ol : Int) (rm : Int) (oz : Int) (NF : Int → Int) (x : Int) (hN : NOk0 NF) (hx : -2147483648 ≤ x ∧ x < 2147483648) (hbad : ¬ ((0 ≤ x ∧ x ≤ 100))) : mG l yX9_setMirror wsX9_setMirror 2 44 K [.ref (am 0), .int (iI x)] [gMdl K am th (am 1) lg mr en pw sl ly dn iz tz nx st tk vl ef ep hO hB ol rm oz, gArr K 95 (am 1) NF] (fun (v : Value) (u : Unit) => (v = .int (iI 0))) (fun (u : Unit) => [gMdl K am (thr (bI (0 ≤ x ∧ x ≤ 100)) 1 1) (am 1) lg mr en pw sl ly dn iz tz nx st tk vl ef ep hO hB ol rm oz, gArr K 95 (am 1) NF]) 0 0 := by
  refine mG_of cX9_setMirror 4 (by decide) rfl (Nat.le_of_ble_eq_true rfl) ?_
  intro p e s m below meth c A ls Q S C hG hl hr hlk hin hQ
  have S : CallFix p m c cX9_setMirror 4 s ([.ref (am 0), .int (iI x)] : List Value).toArray wsX9_setMirror RX9 := S
  have iX90 : ∀ w ∈ wsX90, w ∈ wsX9_setMirror := fun _ h => List.mem_cons_of_mem _ (List.mem_append_right _ (h))
  have hl : lv_has ls 4 [(0, .ref (am 0)), (1, .int (iI x))] := hl
  have hG : gW K A s.heap [gMdl K am th (am 1) lg mr en pw sl ly dn iz tz nx st tk vl ef ep hO hB ol rm oz, gArr K 95 (am 1) NF] s.heap [] := hG
  have n0 := hN.1
  have n3 := hN.2.2.2.1
  refine lv_aload_n S.1 S.2.1 dX9_setMirror_0 rfl (lv_at hl 0 rfl) ?_
  refine lv_iload_n S.1 S.2.1 dX9_setMirror_1 rfl (lv_at hl 1 rfl) ?_
  refine g_i2l S dX9_setMirror_2 (by omega) ?_
  refine g_lconst (z := 0) S dX9_setMirror_3 rfl ?_
  refine g_ldc2 (z := 100) S dX9_setMirror_4 (List.mem_of_getElem? (i := 1) rfl) rfl ?_
  refine g_invS (As := [.long (iL x), .long (iL 0), .long (iL 100)]) (rest := [.ref (am 0)]) (gs' := (fun u : Unit => [gMdl K am th (am 1) lg mr en pw sl ly dn iz tz nx st tk vl ef ep hO hB ol rm oz, gArr K 95 (am 1) NF])) S C hG [] (c_X9_in l K x 0 100 (by omega) (by omega) (by omega)) rfl rfl (va_cwS 3 S.2.2.2.2 gX9_setMirror_X9_in rfl rfl rfl (by decide +kernel) ⟨Nat.le_of_ble_eq_true rfl, Nat.le_of_ble_eq_true rfl⟩) rfl hl.1 rfl (Nat.le_of_ble_eq_true rfl) dX9_setMirror_7 ⟨Nat.le_of_ble_eq_true rfl, Nat.le_of_ble_eq_true rfl⟩ (fun _ => Nat.le_of_ble_eq_true rfl) (fun _ => rfl) (fun v u H locs hp hG => ?_)
  subst hp
  refine g_invV (As := [.int (iI (bI (0 ≤ x ∧ x ≤ 100)))]) (rest := []) (gs' := (fun u : Unit => [gMdl K am (thr (bI (0 ≤ x ∧ x ≤ 100)) 1 1) (am 1) lg mr en pw sl ly dn iz tz nx st tk vl ef ep hO hB ol rm oz, gArr K 95 (am 1) NF])) S C hG [0] (c_X9_passes l K am th (am 1) lg mr en pw sl ly dn iz tz nx st tk vl ef ep hO hB ol rm oz (bI (0 ≤ x ∧ x ≤ 100)) (bI_01 _)) rfl rfl 0 rfl rfl (cwV 1 S.2.2.2.2 gX9_setMirror_X9_passes rfl rfl rfl (by decide +kernel) ⟨Nat.le_of_ble_eq_true rfl, Nat.le_of_ble_eq_true rfl⟩) rfl hl.1 rfl (Nat.le_of_ble_eq_true rfl) dX9_setMirror_10 ⟨Nat.le_of_ble_eq_true rfl, Nat.le_of_ble_eq_true rfl⟩ (fun _ => Nat.le_of_ble_eq_true rfl) (fun _ => rfl) (fun v u H locs hp hG => ?_)
  subst hp
  refine g_ifne_b (B := ((bI (0 ≤ x ∧ x ≤ 100)) = 1)) (tgt := 18) S dX9_setMirror_13 (by decide) (fun q13 => ?_) (fun q13 => ?_)
  · skip
    exact absurd (bI1 q13) hbad
  · skip
    refine g_iconst S dX9_setMirror_16 ?_
    have hG : gW K A s.heap [gMdl K am (thr (bI (0 ≤ x ∧ x ≤ 100)) 1 1) (am 1) lg mr en pw sl ly dn iz tz nx st tk vl ef ep hO hB ol rm oz, gArr K 95 (am 1) NF] _ _ := hG
    exact g_iret S hr hlk hQ dX9_setMirror_17 (Nat.le_of_ble_eq_true rfl) (Nat.le_of_ble_eq_true rfl) (() : Unit) rfl hG

set_option maxHeartbeats 1000000 in
set_option maxRecDepth 100000 in
theorem c_X9_addLayer (l : Launch) (K : KC) (am : Nat → Nat) (th : Int) (lg : Int) (mr : Int) (en : Int) (pw : Int) (sl : Int) (ly : Int) (dn : Int) (iz : Int) (tz : Int) (nx : Int) (st : Int) (tk : Int) (vl : Int) (ef : Int) (ep : Int) (hO : Int) (hB : Int) (ol : Int) (rm : Int) (oz : Int) (NF : Int → Int) (PA : Int → Int) (y : Int) (a1 : Int) (a2 : Int) (a3 : Int) (hN : NOk0 NF) (hrm : 0 ≤ rm ∧ rm ≤ 6) (hv0 : -2147483648 ≤ y ∧ y < 2147483648) (hv1 : -2147483648 ≤ a1 ∧ a1 < 2147483648) (hv2 : -2147483648 ≤ a2 ∧ a2 < 2147483648) (hv3 : -2147483648 ≤ a3 ∧ a3 < 2147483648) (g1 : 0 ≤ y ∧ y ≤ NF 0) (g2 : (1000 ≤ a1 ∧ a1 ≤ 4000) ∧ (1 ≤ a2 ∧ a2 ≤ 999) ∧ 0 ≤ a3 ∧ a3 ≤ 99) (g3 : NF 0 < 10) : mG l yX9_addLayer wsX9_addLayer 2 48 K [.ref (am 0), .int (iI y), .int (iI a1), .int (iI a2), .int (iI a3)] [gMdl K am th (am 1) lg mr en pw sl ly dn iz tz nx st tk vl ef ep hO hB ol rm oz, gArr K 95 (am 1) NF, gArr K 570 (am 18) PA] (fun (v : Value) (u : (Int → Int) × Int) => (v = .int (iI (NF 0 + 1))) ∧ (∀ j : Int, 0 ≤ j → j < 570 → u.1 j = remP rm PA NF j) ∧ (u.2 = min (rm + 1) 6)) (fun (u : (Int → Int) × Int) => [gMdl K am (thr (bI (0 ≤ y ∧ y ≤ NF 0)) (bI ((1000 ≤ a1 ∧ a1 ≤ 4000) ∧ (1 ≤ a2 ∧ a2 ≤ 999) ∧ 0 ≤ a3 ∧ a3 ≤ 99)) (bI (NF 0 < 10))) (am 1) lg mr en pw sl ly dn iz tz nx st tk vl ef ep hO hB ol u.2 oz, gArr K 95 (am 1) (insLN NF y a1 a2 a3), gArr K 570 (am 18) u.1]) 0 0 := by
  refine mG_of cX9_addLayer 5 (by decide) rfl (Nat.le_of_ble_eq_true rfl) ?_
  intro p e s m below meth c A ls Q S C hG hl hr hlk hin hQ
  have S : CallFix p m c cX9_addLayer 5 s ([.ref (am 0), .int (iI y), .int (iI a1), .int (iI a2), .int (iI a3)] : List Value).toArray wsX9_addLayer RX9 := S
  have iX90 : ∀ w ∈ wsX90, w ∈ wsX9_addLayer := fun _ h => List.mem_cons_of_mem _ (List.mem_append_right _ (h))
  have hl : lv_has ls 5 [(0, .ref (am 0)), (1, .int (iI y)), (2, .int (iI a1)), (3, .int (iI a2)), (4, .int (iI a3))] := hl
  have hG : gW K A s.heap [gMdl K am th (am 1) lg mr en pw sl ly dn iz tz nx st tk vl ef ep hO hB ol rm oz, gArr K 95 (am 1) NF, gArr K 570 (am 18) PA] s.heap [] := hG
  have n0 := hN.1
  have n3 := hN.2.2.2.1
  refine lv_aload_n S.1 S.2.1 dX9_addLayer_0 rfl (lv_at hl 0 rfl) ?_
  refine lv_iload_n S.1 S.2.1 dX9_addLayer_1 rfl (lv_at hl 1 rfl) ?_
  refine g_i2l S dX9_addLayer_2 (by omega) ?_
  refine g_lconst (z := 0) S dX9_addLayer_3 rfl ?_
  refine lv_aload_n S.1 S.2.1 dX9_addLayer_4 rfl (lv_at hl 0 rfl) ?_
  refine g_invV (As := []) (rest := [.long (iL 0), .long (iL y), .ref (am 0)]) (gs' := (fun u : Unit => [gMdl K am th (am 1) lg mr en pw sl ly dn iz tz nx st tk vl ef ep hO hB ol rm oz, gArr K 95 (am 1) NF, gArr K 570 (am 18) PA])) S C hG [0, 1] (c_X9_layers l K am th (am 1) lg mr en pw sl ly dn iz tz nx st tk vl ef ep hO hB ol rm oz NF) rfl rfl 0 rfl rfl (cwV 0 S.2.2.2.2 gX9_addLayer_X9_layers rfl rfl rfl (by decide +kernel) ⟨Nat.le_of_ble_eq_true rfl, Nat.le_of_ble_eq_true rfl⟩) rfl hl.1 rfl (Nat.le_of_ble_eq_true rfl) dX9_addLayer_5 ⟨Nat.le_of_ble_eq_true rfl, Nat.le_of_ble_eq_true rfl⟩ (fun _ => Nat.le_of_ble_eq_true rfl) (fun _ => rfl) (fun v u H locs hp hG => ?_)
  subst hp
  refine g_i2l S dX9_addLayer_8 (by omega) ?_
  refine g_invS (As := [.long (iL y), .long (iL 0), .long (iL (NF 0))]) (rest := [.ref (am 0)]) (gs' := (fun u : Unit => [gMdl K am th (am 1) lg mr en pw sl ly dn iz tz nx st tk vl ef ep hO hB ol rm oz, gArr K 95 (am 1) NF, gArr K 570 (am 18) PA])) S C hG [] (c_X9_in l K y 0 (NF 0) (by omega) (by omega) (by omega)) rfl rfl (va_cwS 3 S.2.2.2.2 gX9_addLayer_X9_in rfl rfl rfl (by decide +kernel) ⟨Nat.le_of_ble_eq_true rfl, Nat.le_of_ble_eq_true rfl⟩) rfl hl.1 rfl (Nat.le_of_ble_eq_true rfl) dX9_addLayer_9 ⟨Nat.le_of_ble_eq_true rfl, Nat.le_of_ble_eq_true rfl⟩ (fun _ => Nat.le_of_ble_eq_true rfl) (fun _ => rfl) (fun v u H locs hp hG => ?_)
  subst hp
  refine lv_iload_n S.1 S.2.1 dX9_addLayer_12 rfl (lv_at hl 2 rfl) ?_
  refine g_invS (As := [.int (iI a1)]) (rest := [.int (iI (bI (0 ≤ y ∧ y ≤ (NF 0)))), .ref (am 0)]) (gs' := (fun u : Unit => [gMdl K am th (am 1) lg mr en pw sl ly dn iz tz nx st tk vl ef ep hO hB ol rm oz, gArr K 95 (am 1) NF, gArr K 570 (am 18) PA])) S C hG [] (c_X9_isIndex l K a1 hv1) rfl rfl (va_cwS 1 S.2.2.2.2 gX9_addLayer_X9_isIndex rfl rfl rfl (by decide +kernel) ⟨Nat.le_of_ble_eq_true rfl, Nat.le_of_ble_eq_true rfl⟩) rfl hl.1 rfl (Nat.le_of_ble_eq_true rfl) dX9_addLayer_13 ⟨Nat.le_of_ble_eq_true rfl, Nat.le_of_ble_eq_true rfl⟩ (fun _ => Nat.le_of_ble_eq_true rfl) (fun _ => rfl) (fun v u H locs hp hG => ?_)
  subst hp
  have J39 : ∀ (H : Heap) (locs : List Loc) (ls : Array Slot), lv_has ls 5 [(0, .ref (am 0)), (1, .int (iI y)), (2, .int (iI a1)), (3, .int (iI a2)), (4, .int (iI a3))] → gW K A s.heap [gMdl K am th (am 1) lg mr en pw sl ly dn iz tz nx st tk vl ef ep hO hB ol rm oz, gArr K 95 (am 1) NF, gArr K 570 (am 18) PA] H locs → W p l e { frames := 2, cells := 0, slots := 0, locals := 48 } s m ([.ref (am 0), .int (iI y), .int (iI a1), .int (iI a2), .int (iI a3)] : List Value).toArray below meth c H locs 0 0 Q (F0 m 39 ls [.int (iI (bI ((1000 ≤ a1 ∧ a1 ≤ 4000) ∧ (1 ≤ a2 ∧ a2 ≤ 999) ∧ 0 ≤ a3 ∧ a3 ≤ 99))), .int (iI (bI (0 ≤ y ∧ y ≤ NF 0))), .ref (am 0)]) := by
    intro  H locs ls  hl hG
    refine lv_aload_n S.1 S.2.1 dX9_addLayer_39 rfl (lv_at hl 0 rfl) ?_
    refine g_invV (As := []) (rest := [.int (iI (bI ((1000 ≤ a1 ∧ a1 ≤ 4000) ∧ (1 ≤ a2 ∧ a2 ≤ 999) ∧ 0 ≤ a3 ∧ a3 ≤ 99))), .int (iI (bI (0 ≤ y ∧ y ≤ NF 0))), .ref (am 0)]) (gs' := (fun u : Unit => [gMdl K am th (am 1) lg mr en pw sl ly dn iz tz nx st tk vl ef ep hO hB ol rm oz, gArr K 95 (am 1) NF, gArr K 570 (am 18) PA])) S C hG [0, 1] (c_X9_layers l K am th (am 1) lg mr en pw sl ly dn iz tz nx st tk vl ef ep hO hB ol rm oz NF) rfl rfl 0 rfl rfl (cwV 0 S.2.2.2.2 gX9_addLayer_X9_layers rfl rfl rfl (by decide +kernel) ⟨Nat.le_of_ble_eq_true rfl, Nat.le_of_ble_eq_true rfl⟩) rfl hl.1 rfl (Nat.le_of_ble_eq_true rfl) dX9_addLayer_40 ⟨Nat.le_of_ble_eq_true rfl, Nat.le_of_ble_eq_true rfl⟩ (fun _ => Nat.le_of_ble_eq_true rfl) (fun _ => rfl) (fun v u H locs hp hG => ?_)
    subst hp
    refine g_bipush S dX9_addLayer_43 (by decide) ?_
    have J53 : ∀ (H : Heap) (locs : List Loc) (ls : Array Slot), lv_has ls 5 [(0, .ref (am 0)), (1, .int (iI y)), (2, .int (iI a1)), (3, .int (iI a2)), (4, .int (iI a3))] → gW K A s.heap [gMdl K am th (am 1) lg mr en pw sl ly dn iz tz nx st tk vl ef ep hO hB ol rm oz, gArr K 95 (am 1) NF, gArr K 570 (am 18) PA] H locs → W p l e { frames := 2, cells := 0, slots := 0, locals := 48 } s m ([.ref (am 0), .int (iI y), .int (iI a1), .int (iI a2), .int (iI a3)] : List Value).toArray below meth c H locs 0 0 Q (F0 m 53 ls [.int (iI (bI (NF 0 < 10))), .int (iI (bI ((1000 ≤ a1 ∧ a1 ≤ 4000) ∧ (1 ≤ a2 ∧ a2 ≤ 999) ∧ 0 ≤ a3 ∧ a3 ≤ 99))), .int (iI (bI (0 ≤ y ∧ y ≤ NF 0))), .ref (am 0)]) := by
      intro  H locs ls  hl hG
      refine g_invV (As := [.int (iI (bI (0 ≤ y ∧ y ≤ NF 0))), .int (iI (bI ((1000 ≤ a1 ∧ a1 ≤ 4000) ∧ (1 ≤ a2 ∧ a2 ≤ 999) ∧ 0 ≤ a3 ∧ a3 ≤ 99))), .int (iI (bI (NF 0 < 10)))]) (rest := []) (gs' := (fun u : Unit => [gMdl K am (thr (bI (0 ≤ y ∧ y ≤ NF 0)) (bI ((1000 ≤ a1 ∧ a1 ≤ 4000) ∧ (1 ≤ a2 ∧ a2 ≤ 999) ∧ 0 ≤ a3 ∧ a3 ≤ 99)) (bI (NF 0 < 10))) (am 1) lg mr en pw sl ly dn iz tz nx st tk vl ef ep hO hB ol rm oz, gArr K 95 (am 1) NF, gArr K 570 (am 18) PA])) S C hG [0] (c_X9_passes3 l K am th (am 1) lg mr en pw sl ly dn iz tz nx st tk vl ef ep hO hB ol rm oz (bI (0 ≤ y ∧ y ≤ NF 0)) (bI ((1000 ≤ a1 ∧ a1 ≤ 4000) ∧ (1 ≤ a2 ∧ a2 ≤ 999) ∧ 0 ≤ a3 ∧ a3 ≤ 99)) (bI (NF 0 < 10)) (bI_01 _) (bI_01 _) (bI_01 _)) rfl rfl 0 rfl rfl (cwV 3 S.2.2.2.2 gX9_addLayer_X9_passes3 rfl rfl rfl (by decide +kernel) ⟨Nat.le_of_ble_eq_true rfl, Nat.le_of_ble_eq_true rfl⟩) rfl hl.1 rfl (Nat.le_of_ble_eq_true rfl) dX9_addLayer_53 ⟨Nat.le_of_ble_eq_true rfl, Nat.le_of_ble_eq_true rfl⟩ (fun _ => Nat.le_of_ble_eq_true rfl) (fun _ => rfl) (fun v u H locs hp hG => ?_)
      subst hp
      refine g_ifne_b (B := ((bI (0 ≤ y ∧ y ≤ NF 0)) = 1 ∧ (bI ((1000 ≤ a1 ∧ a1 ≤ 4000) ∧ (1 ≤ a2 ∧ a2 ≤ 999) ∧ 0 ≤ a3 ∧ a3 ≤ 99)) = 1 ∧ (bI (NF 0 < 10)) = 1)) (tgt := 61) S dX9_addLayer_56 (by decide) (fun q56 => ?_) (fun q56 => ?_)
      · skip
        refine lv_aload_n S.1 S.2.1 dX9_addLayer_61 rfl (lv_at hl 0 rfl) ?_
        refine g_invVv (As := []) (rest := []) (gs' := (fun u : (Int → Int) × Int => [gMdl K am (thr (bI (0 ≤ y ∧ y ≤ NF 0)) (bI ((1000 ≤ a1 ∧ a1 ≤ 4000) ∧ (1 ≤ a2 ∧ a2 ≤ 999) ∧ 0 ≤ a3 ∧ a3 ≤ 99)) (bI (NF 0 < 10))) (am 1) lg mr en pw sl ly dn iz tz nx st tk vl ef ep hO hB ol u.2 oz, gArr K 95 (am 1) NF, gArr K 570 (am 18) u.1])) S C hG [0, 1, 2] (c_X9_remember l K am (thr (bI (0 ≤ y ∧ y ≤ NF 0)) (bI ((1000 ≤ a1 ∧ a1 ≤ 4000) ∧ (1 ≤ a2 ∧ a2 ≤ 999) ∧ 0 ≤ a3 ∧ a3 ≤ 99)) (bI (NF 0 < 10))) lg mr en pw sl ly dn iz tz nx st tk vl ef ep hO hB ol rm oz NF PA hrm) rfl rfl 0 rfl rfl (cwV 0 S.2.2.2.2 gX9_addLayer_X9_remember rfl rfl rfl (by decide +kernel) ⟨Nat.le_of_ble_eq_true rfl, Nat.le_of_ble_eq_true rfl⟩) rfl hl.1 rfl (Nat.le_of_ble_eq_true rfl) dX9_addLayer_62 ⟨Nat.le_of_ble_eq_true rfl, Nat.le_of_ble_eq_true rfl⟩ (fun _ => Nat.le_of_ble_eq_true rfl) (fun _ => rfl) (fun u H locs hp hG => ?_)
        obtain ⟨P2_62, rm2_62⟩ := u
        obtain ⟨hP_62, hm_62⟩ := hp
        have hP_62 : ∀ j : Int, 0 ≤ j → j < 570 → P2_62 j = remP rm PA NF j := hP_62
        have hm_62 : rm2_62 = min (rm + 1) 6 := hm_62
        have hG : gW K A s.heap [gMdl K am (thr (bI (0 ≤ y ∧ y ≤ NF 0)) (bI ((1000 ≤ a1 ∧ a1 ≤ 4000) ∧ (1 ≤ a2 ∧ a2 ≤ 999) ∧ 0 ≤ a3 ∧ a3 ≤ 99)) (bI (NF 0 < 10))) (am 1) lg mr en pw sl ly dn iz tz nx st tk vl ef ep hO hB ol rm2_62 oz, gArr K 95 (am 1) NF, gArr K 570 (am 18) P2_62] _ _ := hG
        refine lv_aload_n S.1 S.2.1 dX9_addLayer_65 rfl (lv_at hl 0 rfl) ?_
        refine lv_iload_n S.1 S.2.1 dX9_addLayer_66 rfl (lv_at hl 1 rfl) ?_
        refine lv_iload_n S.1 S.2.1 dX9_addLayer_67 rfl (lv_at hl 2 rfl) ?_
        refine lv_iload_n S.1 S.2.1 dX9_addLayer_68 rfl (lv_at hl 3 rfl) ?_
        refine lv_iload S.1 S.2.1 dX9_addLayer_69 (lv_at hl 4 rfl) ?_
        refine g_invVv (As := [.int (iI y), .int (iI a1), .int (iI a2), .int (iI a3)]) (rest := []) (gs' := (fun u : (Int → Int) => [gMdl K am (thr (bI (0 ≤ y ∧ y ≤ NF 0)) (bI ((1000 ≤ a1 ∧ a1 ≤ 4000) ∧ (1 ≤ a2 ∧ a2 ≤ 999) ∧ 0 ≤ a3 ∧ a3 ≤ 99)) (bI (NF 0 < 10))) (am 1) lg mr en pw sl ly dn iz tz nx st tk vl ef ep hO hB ol rm2_62 oz, gArr K 95 (am 1) u, gArr K 570 (am 18) P2_62])) S C hG [0, 1] (c_X9_addOne l K am (thr (bI (0 ≤ y ∧ y ≤ NF 0)) (bI ((1000 ≤ a1 ∧ a1 ≤ 4000) ∧ (1 ≤ a2 ∧ a2 ≤ 999) ∧ 0 ≤ a3 ∧ a3 ≤ 99)) (bI (NF 0 < 10))) (am 1) lg mr en pw sl ly dn iz tz nx st tk vl ef ep hO hB ol rm2_62 oz NF y a1 a2 a3 g1 g3) rfl rfl 0 rfl rfl (cwV 4 S.2.2.2.2 gX9_addLayer_X9_addOne rfl rfl rfl (by decide +kernel) ⟨Nat.le_of_ble_eq_true rfl, Nat.le_of_ble_eq_true rfl⟩) rfl hl.1 rfl (Nat.le_of_ble_eq_true rfl) dX9_addLayer_71 ⟨Nat.le_of_ble_eq_true rfl, Nat.le_of_ble_eq_true rfl⟩ (fun _ => Nat.le_of_ble_eq_true rfl) (fun _ => rfl) (fun u H locs hp hG => ?_)
        obtain ⟨F2_71, rfl⟩ : ∃ z, z = u := ⟨_, rfl⟩
        have hF_71 := hp
        have hF_71 : F2_71 = insLN NF y a1 a2 a3 := hF_71
        have hG : gW K A s.heap [gMdl K am (thr (bI (0 ≤ y ∧ y ≤ NF 0)) (bI ((1000 ≤ a1 ∧ a1 ≤ 4000) ∧ (1 ≤ a2 ∧ a2 ≤ 999) ∧ 0 ≤ a3 ∧ a3 ≤ 99)) (bI (NF 0 < 10))) (am 1) lg mr en pw sl ly dn iz tz nx st tk vl ef ep hO hB ol rm2_62 oz, gArr K 95 (am 1) F2_71, gArr K 570 (am 18) P2_62] _ _ := hG
        subst hF_71
        refine lv_aload_n S.1 S.2.1 dX9_addLayer_74 rfl (lv_at hl 0 rfl) ?_
        refine g_invV (As := []) (rest := []) (gs' := (fun u : Unit => [gMdl K am (thr (bI (0 ≤ y ∧ y ≤ NF 0)) (bI ((1000 ≤ a1 ∧ a1 ≤ 4000) ∧ (1 ≤ a2 ∧ a2 ≤ 999) ∧ 0 ≤ a3 ∧ a3 ≤ 99)) (bI (NF 0 < 10))) (am 1) lg mr en pw sl ly dn iz tz nx st tk vl ef ep hO hB ol rm2_62 oz, gArr K 95 (am 1) (insLN NF y a1 a2 a3), gArr K 570 (am 18) P2_62])) S C hG [0, 1] (c_X9_layers l K am (thr (bI (0 ≤ y ∧ y ≤ NF 0)) (bI ((1000 ≤ a1 ∧ a1 ≤ 4000) ∧ (1 ≤ a2 ∧ a2 ≤ 999) ∧ 0 ≤ a3 ∧ a3 ≤ 99)) (bI (NF 0 < 10))) (am 1) lg mr en pw sl ly dn iz tz nx st tk vl ef ep hO hB ol rm2_62 oz (insLN NF y a1 a2 a3)) rfl rfl 0 rfl rfl (cwV 0 S.2.2.2.2 gX9_addLayer_X9_layers rfl rfl rfl (by decide +kernel) ⟨Nat.le_of_ble_eq_true rfl, Nat.le_of_ble_eq_true rfl⟩) rfl hl.1 rfl (Nat.le_of_ble_eq_true rfl) dX9_addLayer_75 ⟨Nat.le_of_ble_eq_true rfl, Nat.le_of_ble_eq_true rfl⟩ (fun _ => Nat.le_of_ble_eq_true rfl) (fun _ => rfl) (fun v u H locs hp hG => ?_)
        subst hp
        have hG : gW K A s.heap [gMdl K am (thr (bI (0 ≤ y ∧ y ≤ NF 0)) (bI ((1000 ≤ a1 ∧ a1 ≤ 4000) ∧ (1 ≤ a2 ∧ a2 ≤ 999) ∧ 0 ≤ a3 ∧ a3 ≤ 99)) (bI (NF 0 < 10))) (am 1) lg mr en pw sl ly dn iz tz nx st tk vl ef ep hO hB ol rm2_62 oz, gArr K 95 (am 1) (insLN NF y a1 a2 a3), gArr K 570 (am 18) P2_62] _ _ := hG
        exact g_iret S hr hlk hQ dX9_addLayer_78 (Nat.le_of_ble_eq_true rfl) (Nat.le_of_ble_eq_true rfl) ((P2_62, rm2_62) : (Int → Int) × Int) ⟨(congrArg (fun z : Int => Value.int (iI z)) (if_pos rfl)), hP_62, hm_62⟩ hG
      · skip
        exact absurd ⟨bI_t g1, bI_t g2, bI_t g3⟩ q56
    refine g_icmp_ge (tgt := 52) S dX9_addLayer_45 (by decide) (by omega) (by omega) (fun q45 => ?_) (fun q45 => ?_)
    · skip
      refine g_iconst S dX9_addLayer_52 ?_
      refine g_top (w := .int (iI (bI (NF 0 < 10)))) (congrArg (fun z : Int => Value.int (iI z)) ((bI_f (by omega)).symm)) ?_
      exact J53 _ _ _ (lv_sub hl [0, 1, 2, 3, 4] rfl) hG
    · skip
      refine g_iconst S dX9_addLayer_48 ?_
      refine g_top (w := .int (iI (bI (NF 0 < 10)))) (congrArg (fun z : Int => Value.int (iI z)) ((bI_t (by omega)).symm)) ?_
      refine lv_goto (tgt := 53) S.1 S.2.1 dX9_addLayer_49 (by decide) ?_
      exact J53 _ _ _ (lv_sub hl [0, 1, 2, 3, 4] rfl) hG
  refine g_ifeq_b (B := (1000 ≤ a1 ∧ a1 ≤ 4000)) (tgt := 38) S dX9_addLayer_16 (by decide) (fun q16 => ?_) (fun q16 => ?_)
  · skip
    refine g_iconst S dX9_addLayer_38 ?_
    refine g_top (w := .int (iI (bI ((1000 ≤ a1 ∧ a1 ≤ 4000) ∧ (1 ≤ a2 ∧ a2 ≤ 999) ∧ 0 ≤ a3 ∧ a3 ≤ 99)))) (congrArg (fun z : Int => Value.int (iI z)) ((by first | exact (bI_f (fun z => absurd z.1 q16)).symm | exact (bI_f (fun z => absurd z.2.1 q23)).symm | exact (bI_f (fun z => absurd z.2.2 q31)).symm))) ?_
    exact J39 _ _ _ (lv_sub hl [0, 1, 2, 3, 4] rfl) hG
  · skip
    refine lv_iload_n S.1 S.2.1 dX9_addLayer_19 rfl (lv_at hl 3 rfl) ?_
    refine g_invS (As := [.int (iI a2)]) (rest := [.int (iI (bI (0 ≤ y ∧ y ≤ (NF 0)))), .ref (am 0)]) (gs' := (fun u : Unit => [gMdl K am th (am 1) lg mr en pw sl ly dn iz tz nx st tk vl ef ep hO hB ol rm oz, gArr K 95 (am 1) NF, gArr K 570 (am 18) PA])) S C hG [] (c_X9_isThickness l K a2 hv2) rfl rfl (va_cwS 1 S.2.2.2.2 gX9_addLayer_X9_isThickness rfl rfl rfl (by decide +kernel) ⟨Nat.le_of_ble_eq_true rfl, Nat.le_of_ble_eq_true rfl⟩) rfl hl.1 rfl (Nat.le_of_ble_eq_true rfl) dX9_addLayer_20 ⟨Nat.le_of_ble_eq_true rfl, Nat.le_of_ble_eq_true rfl⟩ (fun _ => Nat.le_of_ble_eq_true rfl) (fun _ => rfl) (fun v u H locs hp hG => ?_)
    subst hp
    refine g_ifeq_b (B := (1 ≤ a2 ∧ a2 ≤ 999)) (tgt := 38) S dX9_addLayer_23 (by decide) (fun q23 => ?_) (fun q23 => ?_)
    · skip
      refine g_iconst S dX9_addLayer_38 ?_
      refine g_top (w := .int (iI (bI ((1000 ≤ a1 ∧ a1 ≤ 4000) ∧ (1 ≤ a2 ∧ a2 ≤ 999) ∧ 0 ≤ a3 ∧ a3 ≤ 99)))) (congrArg (fun z : Int => Value.int (iI z)) ((by first | exact (bI_f (fun z => absurd z.1 q16)).symm | exact (bI_f (fun z => absurd z.2.1 q23)).symm | exact (bI_f (fun z => absurd z.2.2 q31)).symm))) ?_
      exact J39 _ _ _ (lv_sub hl [0, 1, 2, 3, 4] rfl) hG
    · skip
      refine lv_iload S.1 S.2.1 dX9_addLayer_26 (lv_at hl 4 rfl) ?_
      refine g_invS (As := [.int (iI a3)]) (rest := [.int (iI (bI (0 ≤ y ∧ y ≤ (NF 0)))), .ref (am 0)]) (gs' := (fun u : Unit => [gMdl K am th (am 1) lg mr en pw sl ly dn iz tz nx st tk vl ef ep hO hB ol rm oz, gArr K 95 (am 1) NF, gArr K 570 (am 18) PA])) S C hG [] (c_X9_isLoss l K a3 hv3) rfl rfl (va_cwS 1 S.2.2.2.2 gX9_addLayer_X9_isLoss rfl rfl rfl (by decide +kernel) ⟨Nat.le_of_ble_eq_true rfl, Nat.le_of_ble_eq_true rfl⟩) rfl hl.1 rfl (Nat.le_of_ble_eq_true rfl) dX9_addLayer_28 ⟨Nat.le_of_ble_eq_true rfl, Nat.le_of_ble_eq_true rfl⟩ (fun _ => Nat.le_of_ble_eq_true rfl) (fun _ => rfl) (fun v u H locs hp hG => ?_)
      subst hp
      refine g_ifeq_b (B := (0 ≤ a3 ∧ a3 ≤ 99)) (tgt := 38) S dX9_addLayer_31 (by decide) (fun q31 => ?_) (fun q31 => ?_)
      · skip
        refine g_iconst S dX9_addLayer_38 ?_
        refine g_top (w := .int (iI (bI ((1000 ≤ a1 ∧ a1 ≤ 4000) ∧ (1 ≤ a2 ∧ a2 ≤ 999) ∧ 0 ≤ a3 ∧ a3 ≤ 99)))) (congrArg (fun z : Int => Value.int (iI z)) ((by first | exact (bI_f (fun z => absurd z.1 q16)).symm | exact (bI_f (fun z => absurd z.2.1 q23)).symm | exact (bI_f (fun z => absurd z.2.2 q31)).symm))) ?_
        exact J39 _ _ _ (lv_sub hl [0, 1, 2, 3, 4] rfl) hG
      · skip
        refine g_iconst S dX9_addLayer_34 ?_
        refine g_top (w := .int (iI (bI ((1000 ≤ a1 ∧ a1 ≤ 4000) ∧ (1 ≤ a2 ∧ a2 ≤ 999) ∧ 0 ≤ a3 ∧ a3 ≤ 99)))) (congrArg (fun z : Int => Value.int (iI z)) ((bI_t ⟨q16, q23, q31⟩).symm)) ?_
        refine lv_goto (tgt := 39) S.1 S.2.1 dX9_addLayer_35 (by decide) ?_
        exact J39 _ _ _ (lv_sub hl [0, 1, 2, 3, 4] rfl) hG

set_option maxHeartbeats 1000000 in
set_option maxRecDepth 100000 in
theorem b_X9_addLayer (l : Launch) (K : KC) (am : Nat → Nat) (th : Int) (lg : Int) (mr : Int) (en : Int) (pw : Int) (sl : Int) (ly : Int) (dn : Int) (iz : Int) (tz : Int) (nx : Int) (st : Int) (tk : Int) (vl : Int) (ef : Int) (ep : Int) (hO : Int) (hB : Int) (ol : Int) (rm : Int) (oz : Int) (NF : Int → Int) (y : Int) (a1 : Int) (a2 : Int) (a3 : Int) (hN : NOk0 NF) (hv0 : -2147483648 ≤ y ∧ y < 2147483648) (hv1 : -2147483648 ≤ a1 ∧ a1 < 2147483648) (hv2 : -2147483648 ≤ a2 ∧ a2 < 2147483648) (hv3 : -2147483648 ≤ a3 ∧ a3 < 2147483648) (hbad : ¬ ((0 ≤ y ∧ y ≤ NF 0) ∧ ((1000 ≤ a1 ∧ a1 ≤ 4000) ∧ (1 ≤ a2 ∧ a2 ≤ 999) ∧ 0 ≤ a3 ∧ a3 ≤ 99) ∧ (NF 0 < 10))) : mG l yX9_addLayer wsX9_addLayer 2 45 K [.ref (am 0), .int (iI y), .int (iI a1), .int (iI a2), .int (iI a3)] [gMdl K am th (am 1) lg mr en pw sl ly dn iz tz nx st tk vl ef ep hO hB ol rm oz, gArr K 95 (am 1) NF] (fun (v : Value) (u : Unit) => (v = .int (iI 0))) (fun (u : Unit) => [gMdl K am (thr (bI (0 ≤ y ∧ y ≤ NF 0)) (bI ((1000 ≤ a1 ∧ a1 ≤ 4000) ∧ (1 ≤ a2 ∧ a2 ≤ 999) ∧ 0 ≤ a3 ∧ a3 ≤ 99)) (bI (NF 0 < 10))) (am 1) lg mr en pw sl ly dn iz tz nx st tk vl ef ep hO hB ol rm oz, gArr K 95 (am 1) NF]) 0 0 := by
  refine mG_of cX9_addLayer 5 (by decide) rfl (Nat.le_of_ble_eq_true rfl) ?_
  intro p e s m below meth c A ls Q S C hG hl hr hlk hin hQ
  have S : CallFix p m c cX9_addLayer 5 s ([.ref (am 0), .int (iI y), .int (iI a1), .int (iI a2), .int (iI a3)] : List Value).toArray wsX9_addLayer RX9 := S
  have iX90 : ∀ w ∈ wsX90, w ∈ wsX9_addLayer := fun _ h => List.mem_cons_of_mem _ (List.mem_append_right _ (h))
  have hl : lv_has ls 5 [(0, .ref (am 0)), (1, .int (iI y)), (2, .int (iI a1)), (3, .int (iI a2)), (4, .int (iI a3))] := hl
  have hG : gW K A s.heap [gMdl K am th (am 1) lg mr en pw sl ly dn iz tz nx st tk vl ef ep hO hB ol rm oz, gArr K 95 (am 1) NF] s.heap [] := hG
  have n0 := hN.1
  have n3 := hN.2.2.2.1
  refine lv_aload_n S.1 S.2.1 dX9_addLayer_0 rfl (lv_at hl 0 rfl) ?_
  refine lv_iload_n S.1 S.2.1 dX9_addLayer_1 rfl (lv_at hl 1 rfl) ?_
  refine g_i2l S dX9_addLayer_2 (by omega) ?_
  refine g_lconst (z := 0) S dX9_addLayer_3 rfl ?_
  refine lv_aload_n S.1 S.2.1 dX9_addLayer_4 rfl (lv_at hl 0 rfl) ?_
  refine g_invV (As := []) (rest := [.long (iL 0), .long (iL y), .ref (am 0)]) (gs' := (fun u : Unit => [gMdl K am th (am 1) lg mr en pw sl ly dn iz tz nx st tk vl ef ep hO hB ol rm oz, gArr K 95 (am 1) NF])) S C hG [0, 1] (c_X9_layers l K am th (am 1) lg mr en pw sl ly dn iz tz nx st tk vl ef ep hO hB ol rm oz NF) rfl rfl 0 rfl rfl (cwV 0 S.2.2.2.2 gX9_addLayer_X9_layers rfl rfl rfl (by decide +kernel) ⟨Nat.le_of_ble_eq_true rfl, Nat.le_of_ble_eq_true rfl⟩) rfl hl.1 rfl (Nat.le_of_ble_eq_true rfl) dX9_addLayer_5 ⟨Nat.le_of_ble_eq_true rfl, Nat.le_of_ble_eq_true rfl⟩ (fun _ => Nat.le_of_ble_eq_true rfl) (fun _ => rfl) (fun v u H locs hp hG => ?_)
  subst hp
  refine g_i2l S dX9_addLayer_8 (by omega) ?_
  refine g_invS (As := [.long (iL y), .long (iL 0), .long (iL (NF 0))]) (rest := [.ref (am 0)]) (gs' := (fun u : Unit => [gMdl K am th (am 1) lg mr en pw sl ly dn iz tz nx st tk vl ef ep hO hB ol rm oz, gArr K 95 (am 1) NF])) S C hG [] (c_X9_in l K y 0 (NF 0) (by omega) (by omega) (by omega)) rfl rfl (va_cwS 3 S.2.2.2.2 gX9_addLayer_X9_in rfl rfl rfl (by decide +kernel) ⟨Nat.le_of_ble_eq_true rfl, Nat.le_of_ble_eq_true rfl⟩) rfl hl.1 rfl (Nat.le_of_ble_eq_true rfl) dX9_addLayer_9 ⟨Nat.le_of_ble_eq_true rfl, Nat.le_of_ble_eq_true rfl⟩ (fun _ => Nat.le_of_ble_eq_true rfl) (fun _ => rfl) (fun v u H locs hp hG => ?_)
  subst hp
  refine lv_iload_n S.1 S.2.1 dX9_addLayer_12 rfl (lv_at hl 2 rfl) ?_
  refine g_invS (As := [.int (iI a1)]) (rest := [.int (iI (bI (0 ≤ y ∧ y ≤ (NF 0)))), .ref (am 0)]) (gs' := (fun u : Unit => [gMdl K am th (am 1) lg mr en pw sl ly dn iz tz nx st tk vl ef ep hO hB ol rm oz, gArr K 95 (am 1) NF])) S C hG [] (c_X9_isIndex l K a1 hv1) rfl rfl (va_cwS 1 S.2.2.2.2 gX9_addLayer_X9_isIndex rfl rfl rfl (by decide +kernel) ⟨Nat.le_of_ble_eq_true rfl, Nat.le_of_ble_eq_true rfl⟩) rfl hl.1 rfl (Nat.le_of_ble_eq_true rfl) dX9_addLayer_13 ⟨Nat.le_of_ble_eq_true rfl, Nat.le_of_ble_eq_true rfl⟩ (fun _ => Nat.le_of_ble_eq_true rfl) (fun _ => rfl) (fun v u H locs hp hG => ?_)
  subst hp
  have J39 : ∀ (H : Heap) (locs : List Loc) (ls : Array Slot), lv_has ls 5 [(0, .ref (am 0)), (1, .int (iI y)), (2, .int (iI a1)), (3, .int (iI a2)), (4, .int (iI a3))] → gW K A s.heap [gMdl K am th (am 1) lg mr en pw sl ly dn iz tz nx st tk vl ef ep hO hB ol rm oz, gArr K 95 (am 1) NF] H locs → W p l e { frames := 2, cells := 0, slots := 0, locals := 45 } s m ([.ref (am 0), .int (iI y), .int (iI a1), .int (iI a2), .int (iI a3)] : List Value).toArray below meth c H locs 0 0 Q (F0 m 39 ls [.int (iI (bI ((1000 ≤ a1 ∧ a1 ≤ 4000) ∧ (1 ≤ a2 ∧ a2 ≤ 999) ∧ 0 ≤ a3 ∧ a3 ≤ 99))), .int (iI (bI (0 ≤ y ∧ y ≤ NF 0))), .ref (am 0)]) := by
    intro  H locs ls  hl hG
    refine lv_aload_n S.1 S.2.1 dX9_addLayer_39 rfl (lv_at hl 0 rfl) ?_
    refine g_invV (As := []) (rest := [.int (iI (bI ((1000 ≤ a1 ∧ a1 ≤ 4000) ∧ (1 ≤ a2 ∧ a2 ≤ 999) ∧ 0 ≤ a3 ∧ a3 ≤ 99))), .int (iI (bI (0 ≤ y ∧ y ≤ NF 0))), .ref (am 0)]) (gs' := (fun u : Unit => [gMdl K am th (am 1) lg mr en pw sl ly dn iz tz nx st tk vl ef ep hO hB ol rm oz, gArr K 95 (am 1) NF])) S C hG [0, 1] (c_X9_layers l K am th (am 1) lg mr en pw sl ly dn iz tz nx st tk vl ef ep hO hB ol rm oz NF) rfl rfl 0 rfl rfl (cwV 0 S.2.2.2.2 gX9_addLayer_X9_layers rfl rfl rfl (by decide +kernel) ⟨Nat.le_of_ble_eq_true rfl, Nat.le_of_ble_eq_true rfl⟩) rfl hl.1 rfl (Nat.le_of_ble_eq_true rfl) dX9_addLayer_40 ⟨Nat.le_of_ble_eq_true rfl, Nat.le_of_ble_eq_true rfl⟩ (fun _ => Nat.le_of_ble_eq_true rfl) (fun _ => rfl) (fun v u H locs hp hG => ?_)
    subst hp
    refine g_bipush S dX9_addLayer_43 (by decide) ?_
    have J53 : ∀ (H : Heap) (locs : List Loc) (ls : Array Slot), lv_has ls 5 [(0, .ref (am 0)), (1, .int (iI y)), (2, .int (iI a1)), (3, .int (iI a2)), (4, .int (iI a3))] → gW K A s.heap [gMdl K am th (am 1) lg mr en pw sl ly dn iz tz nx st tk vl ef ep hO hB ol rm oz, gArr K 95 (am 1) NF] H locs → W p l e { frames := 2, cells := 0, slots := 0, locals := 45 } s m ([.ref (am 0), .int (iI y), .int (iI a1), .int (iI a2), .int (iI a3)] : List Value).toArray below meth c H locs 0 0 Q (F0 m 53 ls [.int (iI (bI (NF 0 < 10))), .int (iI (bI ((1000 ≤ a1 ∧ a1 ≤ 4000) ∧ (1 ≤ a2 ∧ a2 ≤ 999) ∧ 0 ≤ a3 ∧ a3 ≤ 99))), .int (iI (bI (0 ≤ y ∧ y ≤ NF 0))), .ref (am 0)]) := by
      intro  H locs ls  hl hG
      refine g_invV (As := [.int (iI (bI (0 ≤ y ∧ y ≤ NF 0))), .int (iI (bI ((1000 ≤ a1 ∧ a1 ≤ 4000) ∧ (1 ≤ a2 ∧ a2 ≤ 999) ∧ 0 ≤ a3 ∧ a3 ≤ 99))), .int (iI (bI (NF 0 < 10)))]) (rest := []) (gs' := (fun u : Unit => [gMdl K am (thr (bI (0 ≤ y ∧ y ≤ NF 0)) (bI ((1000 ≤ a1 ∧ a1 ≤ 4000) ∧ (1 ≤ a2 ∧ a2 ≤ 999) ∧ 0 ≤ a3 ∧ a3 ≤ 99)) (bI (NF 0 < 10))) (am 1) lg mr en pw sl ly dn iz tz nx st tk vl ef ep hO hB ol rm oz, gArr K 95 (am 1) NF])) S C hG [0] (c_X9_passes3 l K am th (am 1) lg mr en pw sl ly dn iz tz nx st tk vl ef ep hO hB ol rm oz (bI (0 ≤ y ∧ y ≤ NF 0)) (bI ((1000 ≤ a1 ∧ a1 ≤ 4000) ∧ (1 ≤ a2 ∧ a2 ≤ 999) ∧ 0 ≤ a3 ∧ a3 ≤ 99)) (bI (NF 0 < 10)) (bI_01 _) (bI_01 _) (bI_01 _)) rfl rfl 0 rfl rfl (cwV 3 S.2.2.2.2 gX9_addLayer_X9_passes3 rfl rfl rfl (by decide +kernel) ⟨Nat.le_of_ble_eq_true rfl, Nat.le_of_ble_eq_true rfl⟩) rfl hl.1 rfl (Nat.le_of_ble_eq_true rfl) dX9_addLayer_53 ⟨Nat.le_of_ble_eq_true rfl, Nat.le_of_ble_eq_true rfl⟩ (fun _ => Nat.le_of_ble_eq_true rfl) (fun _ => rfl) (fun v u H locs hp hG => ?_)
      subst hp
      refine g_ifne_b (B := ((bI (0 ≤ y ∧ y ≤ NF 0)) = 1 ∧ (bI ((1000 ≤ a1 ∧ a1 ≤ 4000) ∧ (1 ≤ a2 ∧ a2 ≤ 999) ∧ 0 ≤ a3 ∧ a3 ≤ 99)) = 1 ∧ (bI (NF 0 < 10)) = 1)) (tgt := 61) S dX9_addLayer_56 (by decide) (fun q56 => ?_) (fun q56 => ?_)
      · skip
        exact absurd ⟨bI1 q56.1, bI1 q56.2.1, bI1 q56.2.2⟩ hbad
      · skip
        refine g_iconst S dX9_addLayer_59 ?_
        have hG : gW K A s.heap [gMdl K am (thr (bI (0 ≤ y ∧ y ≤ NF 0)) (bI ((1000 ≤ a1 ∧ a1 ≤ 4000) ∧ (1 ≤ a2 ∧ a2 ≤ 999) ∧ 0 ≤ a3 ∧ a3 ≤ 99)) (bI (NF 0 < 10))) (am 1) lg mr en pw sl ly dn iz tz nx st tk vl ef ep hO hB ol rm oz, gArr K 95 (am 1) NF] _ _ := hG
        exact g_iret S hr hlk hQ dX9_addLayer_60 (Nat.le_of_ble_eq_true rfl) (Nat.le_of_ble_eq_true rfl) (() : Unit) rfl hG
    refine g_icmp_ge (tgt := 52) S dX9_addLayer_45 (by decide) (by omega) (by omega) (fun q45 => ?_) (fun q45 => ?_)
    · skip
      refine g_iconst S dX9_addLayer_52 ?_
      refine g_top (w := .int (iI (bI (NF 0 < 10)))) (congrArg (fun z : Int => Value.int (iI z)) ((bI_f (by omega)).symm)) ?_
      exact J53 _ _ _ (lv_sub hl [0, 1, 2, 3, 4] rfl) hG
    · skip
      refine g_iconst S dX9_addLayer_48 ?_
      refine g_top (w := .int (iI (bI (NF 0 < 10)))) (congrArg (fun z : Int => Value.int (iI z)) ((bI_t (by omega)).symm)) ?_
      refine lv_goto (tgt := 53) S.1 S.2.1 dX9_addLayer_49 (by decide) ?_
      exact J53 _ _ _ (lv_sub hl [0, 1, 2, 3, 4] rfl) hG
  refine g_ifeq_b (B := (1000 ≤ a1 ∧ a1 ≤ 4000)) (tgt := 38) S dX9_addLayer_16 (by decide) (fun q16 => ?_) (fun q16 => ?_)
  · skip
    refine g_iconst S dX9_addLayer_38 ?_
    refine g_top (w := .int (iI (bI ((1000 ≤ a1 ∧ a1 ≤ 4000) ∧ (1 ≤ a2 ∧ a2 ≤ 999) ∧ 0 ≤ a3 ∧ a3 ≤ 99)))) (congrArg (fun z : Int => Value.int (iI z)) ((by first | exact (bI_f (fun z => absurd z.1 q16)).symm | exact (bI_f (fun z => absurd z.2.1 q23)).symm | exact (bI_f (fun z => absurd z.2.2 q31)).symm))) ?_
    exact J39 _ _ _ (lv_sub hl [0, 1, 2, 3, 4] rfl) hG
  · skip
    refine lv_iload_n S.1 S.2.1 dX9_addLayer_19 rfl (lv_at hl 3 rfl) ?_
    refine g_invS (As := [.int (iI a2)]) (rest := [.int (iI (bI (0 ≤ y ∧ y ≤ (NF 0)))), .ref (am 0)]) (gs' := (fun u : Unit => [gMdl K am th (am 1) lg mr en pw sl ly dn iz tz nx st tk vl ef ep hO hB ol rm oz, gArr K 95 (am 1) NF])) S C hG [] (c_X9_isThickness l K a2 hv2) rfl rfl (va_cwS 1 S.2.2.2.2 gX9_addLayer_X9_isThickness rfl rfl rfl (by decide +kernel) ⟨Nat.le_of_ble_eq_true rfl, Nat.le_of_ble_eq_true rfl⟩) rfl hl.1 rfl (Nat.le_of_ble_eq_true rfl) dX9_addLayer_20 ⟨Nat.le_of_ble_eq_true rfl, Nat.le_of_ble_eq_true rfl⟩ (fun _ => Nat.le_of_ble_eq_true rfl) (fun _ => rfl) (fun v u H locs hp hG => ?_)
    subst hp
    refine g_ifeq_b (B := (1 ≤ a2 ∧ a2 ≤ 999)) (tgt := 38) S dX9_addLayer_23 (by decide) (fun q23 => ?_) (fun q23 => ?_)
    · skip
      refine g_iconst S dX9_addLayer_38 ?_
      refine g_top (w := .int (iI (bI ((1000 ≤ a1 ∧ a1 ≤ 4000) ∧ (1 ≤ a2 ∧ a2 ≤ 999) ∧ 0 ≤ a3 ∧ a3 ≤ 99)))) (congrArg (fun z : Int => Value.int (iI z)) ((by first | exact (bI_f (fun z => absurd z.1 q16)).symm | exact (bI_f (fun z => absurd z.2.1 q23)).symm | exact (bI_f (fun z => absurd z.2.2 q31)).symm))) ?_
      exact J39 _ _ _ (lv_sub hl [0, 1, 2, 3, 4] rfl) hG
    · skip
      refine lv_iload S.1 S.2.1 dX9_addLayer_26 (lv_at hl 4 rfl) ?_
      refine g_invS (As := [.int (iI a3)]) (rest := [.int (iI (bI (0 ≤ y ∧ y ≤ (NF 0)))), .ref (am 0)]) (gs' := (fun u : Unit => [gMdl K am th (am 1) lg mr en pw sl ly dn iz tz nx st tk vl ef ep hO hB ol rm oz, gArr K 95 (am 1) NF])) S C hG [] (c_X9_isLoss l K a3 hv3) rfl rfl (va_cwS 1 S.2.2.2.2 gX9_addLayer_X9_isLoss rfl rfl rfl (by decide +kernel) ⟨Nat.le_of_ble_eq_true rfl, Nat.le_of_ble_eq_true rfl⟩) rfl hl.1 rfl (Nat.le_of_ble_eq_true rfl) dX9_addLayer_28 ⟨Nat.le_of_ble_eq_true rfl, Nat.le_of_ble_eq_true rfl⟩ (fun _ => Nat.le_of_ble_eq_true rfl) (fun _ => rfl) (fun v u H locs hp hG => ?_)
      subst hp
      refine g_ifeq_b (B := (0 ≤ a3 ∧ a3 ≤ 99)) (tgt := 38) S dX9_addLayer_31 (by decide) (fun q31 => ?_) (fun q31 => ?_)
      · skip
        refine g_iconst S dX9_addLayer_38 ?_
        refine g_top (w := .int (iI (bI ((1000 ≤ a1 ∧ a1 ≤ 4000) ∧ (1 ≤ a2 ∧ a2 ≤ 999) ∧ 0 ≤ a3 ∧ a3 ≤ 99)))) (congrArg (fun z : Int => Value.int (iI z)) ((by first | exact (bI_f (fun z => absurd z.1 q16)).symm | exact (bI_f (fun z => absurd z.2.1 q23)).symm | exact (bI_f (fun z => absurd z.2.2 q31)).symm))) ?_
        exact J39 _ _ _ (lv_sub hl [0, 1, 2, 3, 4] rfl) hG
      · skip
        refine g_iconst S dX9_addLayer_34 ?_
        refine g_top (w := .int (iI (bI ((1000 ≤ a1 ∧ a1 ≤ 4000) ∧ (1 ≤ a2 ∧ a2 ≤ 999) ∧ 0 ≤ a3 ∧ a3 ≤ 99)))) (congrArg (fun z : Int => Value.int (iI z)) ((bI_t ⟨q16, q23, q31⟩).symm)) ?_
        refine lv_goto (tgt := 39) S.1 S.2.1 dX9_addLayer_35 (by decide) ?_
        exact J39 _ _ _ (lv_sub hl [0, 1, 2, 3, 4] rfl) hG

set_option maxHeartbeats 1000000 in
set_option maxRecDepth 100000 in
theorem c_X9_removeLayer (l : Launch) (K : KC) (am : Nat → Nat) (th : Int) (lg : Int) (mr : Int) (en : Int) (pw : Int) (sl : Int) (ly : Int) (dn : Int) (iz : Int) (tz : Int) (nx : Int) (st : Int) (tk : Int) (vl : Int) (ef : Int) (ep : Int) (hO : Int) (hB : Int) (ol : Int) (rm : Int) (oz : Int) (NF : Int → Int) (PA : Int → Int) (y : Int) (hN : NOk0 NF) (hrm : 0 ≤ rm ∧ rm ≤ 6) (hv : -2147483648 ≤ y ∧ y < 2147483648) (g1 : 0 ≤ y ∧ y < NF 0) (g2 : 1 < NF 0) : mG l yX9_removeLayer wsX9_removeLayer 2 46 K [.ref (am 0), .int (iI y)] [gMdl K am th (am 1) lg mr en pw sl ly dn iz tz nx st tk vl ef ep hO hB ol rm oz, gArr K 95 (am 1) NF, gArr K 570 (am 18) PA] (fun (v : Value) (u : (Int → Int) × Int) => (v = .int (iI (NF 0 - 1))) ∧ (∀ j : Int, 0 ≤ j → j < 570 → u.1 j = remP rm PA NF j) ∧ (u.2 = min (rm + 1) 6)) (fun (u : (Int → Int) × Int) => [gMdl K am (thr (bI (0 ≤ y ∧ y < NF 0)) (bI (1 < NF 0)) 1) (am 1) lg mr en pw sl ly dn iz tz nx st tk vl ef ep hO hB ol u.2 oz, gArr K 95 (am 1) (remLN NF y), gArr K 570 (am 18) u.1]) 0 0 := by
  refine mG_of cX9_removeLayer 2 (by decide) rfl (Nat.le_of_ble_eq_true rfl) ?_
  intro p e s m below meth c A ls Q S C hG hl hr hlk hin hQ
  have S : CallFix p m c cX9_removeLayer 2 s ([.ref (am 0), .int (iI y)] : List Value).toArray wsX9_removeLayer RX9 := S
  have iX90 : ∀ w ∈ wsX90, w ∈ wsX9_removeLayer := fun _ h => List.mem_cons_of_mem _ (List.mem_append_right _ (h))
  have hl : lv_has ls 2 [(0, .ref (am 0)), (1, .int (iI y))] := hl
  have hG : gW K A s.heap [gMdl K am th (am 1) lg mr en pw sl ly dn iz tz nx st tk vl ef ep hO hB ol rm oz, gArr K 95 (am 1) NF, gArr K 570 (am 18) PA] s.heap [] := hG
  have n0 := hN.1
  have n3 := hN.2.2.2.1
  refine lv_aload_n S.1 S.2.1 dX9_removeLayer_0 rfl (lv_at hl 0 rfl) ?_
  refine lv_aload_n S.1 S.2.1 dX9_removeLayer_1 rfl (lv_at hl 0 rfl) ?_
  refine lv_iload_n S.1 S.2.1 dX9_removeLayer_2 rfl (lv_at hl 1 rfl) ?_
  refine g_invV (As := [.int (iI y)]) (rest := [.ref (am 0)]) (gs' := (fun u : Unit => [gMdl K am th (am 1) lg mr en pw sl ly dn iz tz nx st tk vl ef ep hO hB ol rm oz, gArr K 95 (am 1) NF, gArr K 570 (am 18) PA])) S C hG [0, 1] (c_X9_isLayer l K am th (am 1) lg mr en pw sl ly dn iz tz nx st tk vl ef ep hO hB ol rm oz NF y hN hv) rfl rfl 0 rfl rfl (cwV 1 S.2.2.2.2 gX9_removeLayer_X9_isLayer rfl rfl rfl (by decide +kernel) ⟨Nat.le_of_ble_eq_true rfl, Nat.le_of_ble_eq_true rfl⟩) rfl hl.1 rfl (Nat.le_of_ble_eq_true rfl) dX9_removeLayer_3 ⟨Nat.le_of_ble_eq_true rfl, Nat.le_of_ble_eq_true rfl⟩ (fun _ => Nat.le_of_ble_eq_true rfl) (fun _ => rfl) (fun v u H locs hp hG => ?_)
  subst hp
  refine lv_aload_n S.1 S.2.1 dX9_removeLayer_6 rfl (lv_at hl 0 rfl) ?_
  refine g_invV (As := []) (rest := [.int (iI (bI (0 ≤ y ∧ y < NF 0))), .ref (am 0)]) (gs' := (fun u : Unit => [gMdl K am th (am 1) lg mr en pw sl ly dn iz tz nx st tk vl ef ep hO hB ol rm oz, gArr K 95 (am 1) NF, gArr K 570 (am 18) PA])) S C hG [0, 1] (c_X9_layers l K am th (am 1) lg mr en pw sl ly dn iz tz nx st tk vl ef ep hO hB ol rm oz NF) rfl rfl 0 rfl rfl (cwV 0 S.2.2.2.2 gX9_removeLayer_X9_layers rfl rfl rfl (by decide +kernel) ⟨Nat.le_of_ble_eq_true rfl, Nat.le_of_ble_eq_true rfl⟩) rfl hl.1 rfl (Nat.le_of_ble_eq_true rfl) dX9_removeLayer_7 ⟨Nat.le_of_ble_eq_true rfl, Nat.le_of_ble_eq_true rfl⟩ (fun _ => Nat.le_of_ble_eq_true rfl) (fun _ => rfl) (fun v u H locs hp hG => ?_)
  subst hp
  refine g_iconst S dX9_removeLayer_10 ?_
  have J19 : ∀ (H : Heap) (locs : List Loc) (ls : Array Slot), lv_has ls 2 [(0, .ref (am 0)), (1, .int (iI y))] → gW K A s.heap [gMdl K am th (am 1) lg mr en pw sl ly dn iz tz nx st tk vl ef ep hO hB ol rm oz, gArr K 95 (am 1) NF, gArr K 570 (am 18) PA] H locs → W p l e { frames := 2, cells := 0, slots := 0, locals := 46 } s m ([.ref (am 0), .int (iI y)] : List Value).toArray below meth c H locs 0 0 Q (F0 m 19 ls [.int (iI (bI (1 < NF 0))), .int (iI (bI (0 ≤ y ∧ y < NF 0))), .ref (am 0)]) := by
    intro  H locs ls  hl hG
    refine g_invV (As := [.int (iI (bI (0 ≤ y ∧ y < NF 0))), .int (iI (bI (1 < NF 0)))]) (rest := []) (gs' := (fun u : Unit => [gMdl K am (thr (bI (0 ≤ y ∧ y < NF 0)) (bI (1 < NF 0)) 1) (am 1) lg mr en pw sl ly dn iz tz nx st tk vl ef ep hO hB ol rm oz, gArr K 95 (am 1) NF, gArr K 570 (am 18) PA])) S C hG [0] (c_X9_passes2 l K am th (am 1) lg mr en pw sl ly dn iz tz nx st tk vl ef ep hO hB ol rm oz (bI (0 ≤ y ∧ y < NF 0)) (bI (1 < NF 0)) (bI_01 _) (bI_01 _)) rfl rfl 0 rfl rfl (cwV 2 S.2.2.2.2 gX9_removeLayer_X9_passes2 rfl rfl rfl (by decide +kernel) ⟨Nat.le_of_ble_eq_true rfl, Nat.le_of_ble_eq_true rfl⟩) rfl hl.1 rfl (Nat.le_of_ble_eq_true rfl) dX9_removeLayer_19 ⟨Nat.le_of_ble_eq_true rfl, Nat.le_of_ble_eq_true rfl⟩ (fun _ => Nat.le_of_ble_eq_true rfl) (fun _ => rfl) (fun v u H locs hp hG => ?_)
    subst hp
    refine g_ifne_b (B := ((bI (0 ≤ y ∧ y < NF 0)) = 1 ∧ (bI (1 < NF 0)) = 1)) (tgt := 27) S dX9_removeLayer_22 (by decide) (fun q22 => ?_) (fun q22 => ?_)
    · skip
      refine lv_aload_n S.1 S.2.1 dX9_removeLayer_27 rfl (lv_at hl 0 rfl) ?_
      refine g_invVv (As := []) (rest := []) (gs' := (fun u : (Int → Int) × Int => [gMdl K am (thr (bI (0 ≤ y ∧ y < NF 0)) (bI (1 < NF 0)) 1) (am 1) lg mr en pw sl ly dn iz tz nx st tk vl ef ep hO hB ol u.2 oz, gArr K 95 (am 1) NF, gArr K 570 (am 18) u.1])) S C hG [0, 1, 2] (c_X9_remember l K am (thr (bI (0 ≤ y ∧ y < NF 0)) (bI (1 < NF 0)) 1) lg mr en pw sl ly dn iz tz nx st tk vl ef ep hO hB ol rm oz NF PA hrm) rfl rfl 0 rfl rfl (cwV 0 S.2.2.2.2 gX9_removeLayer_X9_remember rfl rfl rfl (by decide +kernel) ⟨Nat.le_of_ble_eq_true rfl, Nat.le_of_ble_eq_true rfl⟩) rfl hl.1 rfl (Nat.le_of_ble_eq_true rfl) dX9_removeLayer_28 ⟨Nat.le_of_ble_eq_true rfl, Nat.le_of_ble_eq_true rfl⟩ (fun _ => Nat.le_of_ble_eq_true rfl) (fun _ => rfl) (fun u H locs hp hG => ?_)
      obtain ⟨P2_28, rm2_28⟩ := u
      obtain ⟨hP_28, hm_28⟩ := hp
      have hP_28 : ∀ j : Int, 0 ≤ j → j < 570 → P2_28 j = remP rm PA NF j := hP_28
      have hm_28 : rm2_28 = min (rm + 1) 6 := hm_28
      have hG : gW K A s.heap [gMdl K am (thr (bI (0 ≤ y ∧ y < NF 0)) (bI (1 < NF 0)) 1) (am 1) lg mr en pw sl ly dn iz tz nx st tk vl ef ep hO hB ol rm2_28 oz, gArr K 95 (am 1) NF, gArr K 570 (am 18) P2_28] _ _ := hG
      refine lv_aload_n S.1 S.2.1 dX9_removeLayer_31 rfl (lv_at hl 0 rfl) ?_
      refine lv_iload_n S.1 S.2.1 dX9_removeLayer_32 rfl (lv_at hl 1 rfl) ?_
      refine g_invVv (As := [.int (iI y)]) (rest := []) (gs' := (fun u : (Int → Int) => [gMdl K am (thr (bI (0 ≤ y ∧ y < NF 0)) (bI (1 < NF 0)) 1) (am 1) lg mr en pw sl ly dn iz tz nx st tk vl ef ep hO hB ol rm2_28 oz, gArr K 95 (am 1) u, gArr K 570 (am 18) P2_28])) S C hG [0, 1] (c_X9_removeOne l K am (thr (bI (0 ≤ y ∧ y < NF 0)) (bI (1 < NF 0)) 1) (am 1) lg mr en pw sl ly dn iz tz nx st tk vl ef ep hO hB ol rm2_28 oz NF y g1 hN.1.2) rfl rfl 0 rfl rfl (cwV 1 S.2.2.2.2 gX9_removeLayer_X9_removeOne rfl rfl rfl (by decide +kernel) ⟨Nat.le_of_ble_eq_true rfl, Nat.le_of_ble_eq_true rfl⟩) rfl hl.1 rfl (Nat.le_of_ble_eq_true rfl) dX9_removeLayer_33 ⟨Nat.le_of_ble_eq_true rfl, Nat.le_of_ble_eq_true rfl⟩ (fun _ => Nat.le_of_ble_eq_true rfl) (fun _ => rfl) (fun u H locs hp hG => ?_)
      obtain ⟨F2_33, rfl⟩ : ∃ z, z = u := ⟨_, rfl⟩
      have hF_33 := hp
      have hF_33 : F2_33 = remLN NF y := hF_33
      have hG : gW K A s.heap [gMdl K am (thr (bI (0 ≤ y ∧ y < NF 0)) (bI (1 < NF 0)) 1) (am 1) lg mr en pw sl ly dn iz tz nx st tk vl ef ep hO hB ol rm2_28 oz, gArr K 95 (am 1) F2_33, gArr K 570 (am 18) P2_28] _ _ := hG
      subst hF_33
      refine lv_aload_n S.1 S.2.1 dX9_removeLayer_36 rfl (lv_at hl 0 rfl) ?_
      refine g_invV (As := []) (rest := []) (gs' := (fun u : Unit => [gMdl K am (thr (bI (0 ≤ y ∧ y < NF 0)) (bI (1 < NF 0)) 1) (am 1) lg mr en pw sl ly dn iz tz nx st tk vl ef ep hO hB ol rm2_28 oz, gArr K 95 (am 1) (remLN NF y), gArr K 570 (am 18) P2_28])) S C hG [0, 1] (c_X9_layers l K am (thr (bI (0 ≤ y ∧ y < NF 0)) (bI (1 < NF 0)) 1) (am 1) lg mr en pw sl ly dn iz tz nx st tk vl ef ep hO hB ol rm2_28 oz (remLN NF y)) rfl rfl 0 rfl rfl (cwV 0 S.2.2.2.2 gX9_removeLayer_X9_layers rfl rfl rfl (by decide +kernel) ⟨Nat.le_of_ble_eq_true rfl, Nat.le_of_ble_eq_true rfl⟩) rfl hl.1 rfl (Nat.le_of_ble_eq_true rfl) dX9_removeLayer_37 ⟨Nat.le_of_ble_eq_true rfl, Nat.le_of_ble_eq_true rfl⟩ (fun _ => Nat.le_of_ble_eq_true rfl) (fun _ => rfl) (fun v u H locs hp hG => ?_)
      subst hp
      have hG : gW K A s.heap [gMdl K am (thr (bI (0 ≤ y ∧ y < NF 0)) (bI (1 < NF 0)) 1) (am 1) lg mr en pw sl ly dn iz tz nx st tk vl ef ep hO hB ol rm2_28 oz, gArr K 95 (am 1) (remLN NF y), gArr K 570 (am 18) P2_28] _ _ := hG
      exact g_iret S hr hlk hQ dX9_removeLayer_40 (Nat.le_of_ble_eq_true rfl) (Nat.le_of_ble_eq_true rfl) ((P2_28, rm2_28) : (Int → Int) × Int) ⟨(congrArg (fun z : Int => Value.int (iI z)) (if_pos rfl)), hP_28, hm_28⟩ hG
    · skip
      exact absurd ⟨bI_t g1, bI_t g2⟩ q22
  refine g_icmp_le (tgt := 18) S dX9_removeLayer_11 (by decide) (by omega) (by omega) (fun q11 => ?_) (fun q11 => ?_)
  · skip
    refine g_iconst S dX9_removeLayer_18 ?_
    refine g_top (w := .int (iI (bI (1 < NF 0)))) (congrArg (fun z : Int => Value.int (iI z)) ((bI_f (by omega)).symm)) ?_
    exact J19 _ _ _ (lv_sub hl [0, 1] rfl) hG
  · skip
    refine g_iconst S dX9_removeLayer_14 ?_
    refine g_top (w := .int (iI (bI (1 < NF 0)))) (congrArg (fun z : Int => Value.int (iI z)) ((bI_t (by omega)).symm)) ?_
    refine lv_goto (tgt := 19) S.1 S.2.1 dX9_removeLayer_15 (by decide) ?_
    exact J19 _ _ _ (lv_sub hl [0, 1] rfl) hG

set_option maxHeartbeats 1000000 in
set_option maxRecDepth 100000 in
theorem b_X9_removeLayer (l : Launch) (K : KC) (am : Nat → Nat) (th : Int) (lg : Int) (mr : Int) (en : Int) (pw : Int) (sl : Int) (ly : Int) (dn : Int) (iz : Int) (tz : Int) (nx : Int) (st : Int) (tk : Int) (vl : Int) (ef : Int) (ep : Int) (hO : Int) (hB : Int) (ol : Int) (rm : Int) (oz : Int) (NF : Int → Int) (y : Int) (hN : NOk0 NF) (hv : -2147483648 ≤ y ∧ y < 2147483648) (hbad : ¬ ((0 ≤ y ∧ y < NF 0) ∧ (1 < NF 0))) : mG l yX9_removeLayer wsX9_removeLayer 2 46 K [.ref (am 0), .int (iI y)] [gMdl K am th (am 1) lg mr en pw sl ly dn iz tz nx st tk vl ef ep hO hB ol rm oz, gArr K 95 (am 1) NF] (fun (v : Value) (u : Unit) => (v = .int (iI 0))) (fun (u : Unit) => [gMdl K am (thr (bI (0 ≤ y ∧ y < NF 0)) (bI (1 < NF 0)) 1) (am 1) lg mr en pw sl ly dn iz tz nx st tk vl ef ep hO hB ol rm oz, gArr K 95 (am 1) NF]) 0 0 := by
  refine mG_of cX9_removeLayer 2 (by decide) rfl (Nat.le_of_ble_eq_true rfl) ?_
  intro p e s m below meth c A ls Q S C hG hl hr hlk hin hQ
  have S : CallFix p m c cX9_removeLayer 2 s ([.ref (am 0), .int (iI y)] : List Value).toArray wsX9_removeLayer RX9 := S
  have iX90 : ∀ w ∈ wsX90, w ∈ wsX9_removeLayer := fun _ h => List.mem_cons_of_mem _ (List.mem_append_right _ (h))
  have hl : lv_has ls 2 [(0, .ref (am 0)), (1, .int (iI y))] := hl
  have hG : gW K A s.heap [gMdl K am th (am 1) lg mr en pw sl ly dn iz tz nx st tk vl ef ep hO hB ol rm oz, gArr K 95 (am 1) NF] s.heap [] := hG
  have n0 := hN.1
  have n3 := hN.2.2.2.1
  refine lv_aload_n S.1 S.2.1 dX9_removeLayer_0 rfl (lv_at hl 0 rfl) ?_
  refine lv_aload_n S.1 S.2.1 dX9_removeLayer_1 rfl (lv_at hl 0 rfl) ?_
  refine lv_iload_n S.1 S.2.1 dX9_removeLayer_2 rfl (lv_at hl 1 rfl) ?_
  refine g_invV (As := [.int (iI y)]) (rest := [.ref (am 0)]) (gs' := (fun u : Unit => [gMdl K am th (am 1) lg mr en pw sl ly dn iz tz nx st tk vl ef ep hO hB ol rm oz, gArr K 95 (am 1) NF])) S C hG [0, 1] (c_X9_isLayer l K am th (am 1) lg mr en pw sl ly dn iz tz nx st tk vl ef ep hO hB ol rm oz NF y hN hv) rfl rfl 0 rfl rfl (cwV 1 S.2.2.2.2 gX9_removeLayer_X9_isLayer rfl rfl rfl (by decide +kernel) ⟨Nat.le_of_ble_eq_true rfl, Nat.le_of_ble_eq_true rfl⟩) rfl hl.1 rfl (Nat.le_of_ble_eq_true rfl) dX9_removeLayer_3 ⟨Nat.le_of_ble_eq_true rfl, Nat.le_of_ble_eq_true rfl⟩ (fun _ => Nat.le_of_ble_eq_true rfl) (fun _ => rfl) (fun v u H locs hp hG => ?_)
  subst hp
  refine lv_aload_n S.1 S.2.1 dX9_removeLayer_6 rfl (lv_at hl 0 rfl) ?_
  refine g_invV (As := []) (rest := [.int (iI (bI (0 ≤ y ∧ y < NF 0))), .ref (am 0)]) (gs' := (fun u : Unit => [gMdl K am th (am 1) lg mr en pw sl ly dn iz tz nx st tk vl ef ep hO hB ol rm oz, gArr K 95 (am 1) NF])) S C hG [0, 1] (c_X9_layers l K am th (am 1) lg mr en pw sl ly dn iz tz nx st tk vl ef ep hO hB ol rm oz NF) rfl rfl 0 rfl rfl (cwV 0 S.2.2.2.2 gX9_removeLayer_X9_layers rfl rfl rfl (by decide +kernel) ⟨Nat.le_of_ble_eq_true rfl, Nat.le_of_ble_eq_true rfl⟩) rfl hl.1 rfl (Nat.le_of_ble_eq_true rfl) dX9_removeLayer_7 ⟨Nat.le_of_ble_eq_true rfl, Nat.le_of_ble_eq_true rfl⟩ (fun _ => Nat.le_of_ble_eq_true rfl) (fun _ => rfl) (fun v u H locs hp hG => ?_)
  subst hp
  refine g_iconst S dX9_removeLayer_10 ?_
  have J19 : ∀ (H : Heap) (locs : List Loc) (ls : Array Slot), lv_has ls 2 [(0, .ref (am 0)), (1, .int (iI y))] → gW K A s.heap [gMdl K am th (am 1) lg mr en pw sl ly dn iz tz nx st tk vl ef ep hO hB ol rm oz, gArr K 95 (am 1) NF] H locs → W p l e { frames := 2, cells := 0, slots := 0, locals := 46 } s m ([.ref (am 0), .int (iI y)] : List Value).toArray below meth c H locs 0 0 Q (F0 m 19 ls [.int (iI (bI (1 < NF 0))), .int (iI (bI (0 ≤ y ∧ y < NF 0))), .ref (am 0)]) := by
    intro  H locs ls  hl hG
    refine g_invV (As := [.int (iI (bI (0 ≤ y ∧ y < NF 0))), .int (iI (bI (1 < NF 0)))]) (rest := []) (gs' := (fun u : Unit => [gMdl K am (thr (bI (0 ≤ y ∧ y < NF 0)) (bI (1 < NF 0)) 1) (am 1) lg mr en pw sl ly dn iz tz nx st tk vl ef ep hO hB ol rm oz, gArr K 95 (am 1) NF])) S C hG [0] (c_X9_passes2 l K am th (am 1) lg mr en pw sl ly dn iz tz nx st tk vl ef ep hO hB ol rm oz (bI (0 ≤ y ∧ y < NF 0)) (bI (1 < NF 0)) (bI_01 _) (bI_01 _)) rfl rfl 0 rfl rfl (cwV 2 S.2.2.2.2 gX9_removeLayer_X9_passes2 rfl rfl rfl (by decide +kernel) ⟨Nat.le_of_ble_eq_true rfl, Nat.le_of_ble_eq_true rfl⟩) rfl hl.1 rfl (Nat.le_of_ble_eq_true rfl) dX9_removeLayer_19 ⟨Nat.le_of_ble_eq_true rfl, Nat.le_of_ble_eq_true rfl⟩ (fun _ => Nat.le_of_ble_eq_true rfl) (fun _ => rfl) (fun v u H locs hp hG => ?_)
    subst hp
    refine g_ifne_b (B := ((bI (0 ≤ y ∧ y < NF 0)) = 1 ∧ (bI (1 < NF 0)) = 1)) (tgt := 27) S dX9_removeLayer_22 (by decide) (fun q22 => ?_) (fun q22 => ?_)
    · skip
      exact absurd ⟨bI1 q22.1, bI1 q22.2⟩ hbad
    · skip
      refine g_iconst S dX9_removeLayer_25 ?_
      have hG : gW K A s.heap [gMdl K am (thr (bI (0 ≤ y ∧ y < NF 0)) (bI (1 < NF 0)) 1) (am 1) lg mr en pw sl ly dn iz tz nx st tk vl ef ep hO hB ol rm oz, gArr K 95 (am 1) NF] _ _ := hG
      exact g_iret S hr hlk hQ dX9_removeLayer_26 (Nat.le_of_ble_eq_true rfl) (Nat.le_of_ble_eq_true rfl) (() : Unit) rfl hG
  refine g_icmp_le (tgt := 18) S dX9_removeLayer_11 (by decide) (by omega) (by omega) (fun q11 => ?_) (fun q11 => ?_)
  · skip
    refine g_iconst S dX9_removeLayer_18 ?_
    refine g_top (w := .int (iI (bI (1 < NF 0)))) (congrArg (fun z : Int => Value.int (iI z)) ((bI_f (by omega)).symm)) ?_
    exact J19 _ _ _ (lv_sub hl [0, 1] rfl) hG
  · skip
    refine g_iconst S dX9_removeLayer_14 ?_
    refine g_top (w := .int (iI (bI (1 < NF 0)))) (congrArg (fun z : Int => Value.int (iI z)) ((bI_t (by omega)).symm)) ?_
    refine lv_goto (tgt := 19) S.1 S.2.1 dX9_removeLayer_15 (by decide) ?_
    exact J19 _ _ _ (lv_sub hl [0, 1] rfl) hG
