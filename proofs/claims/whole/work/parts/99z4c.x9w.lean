set_option maxHeartbeats 1000000 in
set_option maxRecDepth 100000 in
theorem b_X9_writePath (l : Launch) (K : KC) (am : Nat → Nat) (th : Int) (lg : Int) (mr : Int) (en : Int) (pw : Int) (sl : Int) (ly : Int) (dn : Int) (iz : Int) (tz : Int) (nx : Int) (st : Int) (tk : Int) (vl : Int) (ef : Int) (ep : Int) (hO : Int) (hB : Int) (ol : Int) (rm : Int) (oz : Int) (NF : Int → Int) (x : Int) (hN : NOk0 NF) (hx : -2147483648 ≤ x ∧ x < 2147483648) (hbad : ¬ (0 ≤ x ∧ x < NF 4)) : mG l yX9_writePath wsX9_writePath 2 46 K [.ref (am 0), .int (iI x)] [gMdl K am th (am 1) lg mr en pw sl ly dn iz tz nx st tk vl ef ep hO hB ol rm oz, gArr K 95 (am 1) NF] (fun (v : Value) (u : Unit) => (v = .int (iI 0))) (fun (u : Unit) => [gMdl K am (thr (bI (0 ≤ x ∧ x < NF 4)) 1 1) (am 1) lg mr en pw sl ly dn iz tz nx st tk vl ef ep hO hB ol rm oz, gArr K 95 (am 1) NF]) 0 0 := by
  refine mG_of cX9_writePath 3 (by decide) rfl (Nat.le_of_ble_eq_true rfl) ?_
  intro p e s m below meth c A ls Q S C hG hl hr hlk hin hQ
  have S : CallFix p m c cX9_writePath 3 s ([.ref (am 0), .int (iI x)] : List Value).toArray wsX9_writePath RX9 := S
  have iX90 : ∀ w ∈ wsX90, w ∈ wsX9_writePath := fun _ h => List.mem_cons_of_mem _ (List.mem_append_right _ (h))
  have hl : lv_has ls 3 [(0, .ref (am 0)), (1, .int (iI x))] := hl
  have hG : gW K A s.heap [gMdl K am th (am 1) lg mr en pw sl ly dn iz tz nx st tk vl ef ep hO hB ol rm oz, gArr K 95 (am 1) NF] s.heap [] := hG
  refine lv_aload_n S.1 S.2.1 dX9_writePath_0 rfl (lv_at hl 0 rfl) ?_
  refine lv_aload_n S.1 S.2.1 dX9_writePath_1 rfl (lv_at hl 0 rfl) ?_
  refine lv_iload_n S.1 S.2.1 dX9_writePath_2 rfl (lv_at hl 1 rfl) ?_
  refine g_invV (As := [.int (iI x)]) (rest := [.ref (am 0)]) (gs' := (fun u : Unit => [gMdl K am th (am 1) lg mr en pw sl ly dn iz tz nx st tk vl ef ep hO hB ol rm oz, gArr K 95 (am 1) NF])) S C hG [0, 1] (c_X9_isShot l K am th (am 1) lg mr en pw sl ly dn iz tz nx st tk vl ef ep hO hB ol rm oz NF x hN hx) rfl rfl 0 rfl rfl (cwV 1 S.2.2.2.2 gX9_writePath_X9_isShot rfl rfl rfl (by decide +kernel) ⟨Nat.le_of_ble_eq_true rfl, Nat.le_of_ble_eq_true rfl⟩) rfl hl.1 rfl (Nat.le_of_ble_eq_true rfl) dX9_writePath_3 ⟨Nat.le_of_ble_eq_true rfl, Nat.le_of_ble_eq_true rfl⟩ (fun _ => Nat.le_of_ble_eq_true rfl) (fun _ => rfl) (fun v u H locs hp hG => ?_)
  subst hp
  refine g_invV (As := [.int (iI (bI (0 ≤ x ∧ x < NF 4)))]) (rest := []) (gs' := (fun u : Unit => [gMdl K am (thr (bI (0 ≤ x ∧ x < NF 4)) 1 1) (am 1) lg mr en pw sl ly dn iz tz nx st tk vl ef ep hO hB ol rm oz, gArr K 95 (am 1) NF])) S C hG [0] (c_X9_passes l K am th (am 1) lg mr en pw sl ly dn iz tz nx st tk vl ef ep hO hB ol rm oz (bI (0 ≤ x ∧ x < NF 4)) (bI_01 _)) rfl rfl 0 rfl rfl (cwV 1 S.2.2.2.2 gX9_writePath_X9_passes rfl rfl rfl (by decide +kernel) ⟨Nat.le_of_ble_eq_true rfl, Nat.le_of_ble_eq_true rfl⟩) rfl hl.1 rfl (Nat.le_of_ble_eq_true rfl) dX9_writePath_6 ⟨Nat.le_of_ble_eq_true rfl, Nat.le_of_ble_eq_true rfl⟩ (fun _ => Nat.le_of_ble_eq_true rfl) (fun _ => rfl) (fun v u H locs hp hG => ?_)
  subst hp
  refine g_ifne_b (B := ((bI (0 ≤ x ∧ x < NF 4)) = 1)) (tgt := 14) S dX9_writePath_9 (by decide) (fun q9 => ?_) (fun q9 => ?_)
  · skip
    exact absurd (bI1 q9) hbad
  · skip
    refine g_iconst S dX9_writePath_12 ?_
    have hG : gW K A s.heap [gMdl K am (thr (bI (0 ≤ x ∧ x < NF 4)) 1 1) (am 1) lg mr en pw sl ly dn iz tz nx st tk vl ef ep hO hB ol rm oz, gArr K 95 (am 1) NF] _ _ := hG
    exact g_iret S hr hlk hQ dX9_writePath_13 (Nat.le_of_ble_eq_true rfl) (Nat.le_of_ble_eq_true rfl) (() : Unit) rfl hG

