theorem FstR.eqv {N : Int → Int} {y e f t tg r : Int} (h : FstR N y e f t tg r) : f ≤ r ∧ r ≤ t := h.1

set_option maxHeartbeats 1000000 in
set_option maxRecDepth 100000 in
theorem c_X6_considerNearest (l : Launch) (K : KC) (va : Nat) (vl : Int) (vd : Int) (vn : Int) (vf : Int) (vt : Int) (ve : Int) (vg : Int) (vb : Int) (vw : Int) (ra : Nat) (xa : Nat) (sha : Nat) (lea : Nat) (tma : Nat) (sc : Nat) (rv : RU) (XF : Int → Int) (la : Nat) (lb : Nat) (sa : Nat) (sb : Nat) (ou : Int) (mi : Int) (bo : Int) (ln : Int) (LF : Int → Int) (sn : Int) (SF : Int → Int) (N : Int → Int) (tg : Int) (hS : ScOk N ou mi bo ln LF sn SF) (hN : NOk0 N) (hE : EntOk N XF) (hy : 0 ≤ vl ∧ vl < N 0) (hvn : vn = nX N vl) (hd : vd = 0 ∨ vd = 1) (hP : PartN N vl vd vf vt ve) (h0 : 0 ≤ vf) (hv0 : ve = 0) (h1 : 0 ≤ tg ∧ tg ≤ 2147483647) (hB : BestI N vl vd 0 (nsG N vl vd tg) True vf vb vw) (hvb : -1 ≤ vb ∧ vb ≤ 4000) (hvw : -3000000000 ≤ vw ∧ vw ≤ 3000000000) : mV l yX6_considerNearest wsX6_considerNearest 5 119 K [.ref va, .int (iI tg)] [gSvyC K va sc ra vl vd vn vf vt ve vg vb vw, gRayU K ra xa sha lea tma sc rv XF, gScn K sc la lb sa sb ou mi bo ln LF sn SF] (fun (u : RU × Int × Int) => (BestI N vl vd 0 (nsG N vl vd tg) True vt u.2.1 u.2.2) ∧ (-1 ≤ u.2.1 ∧ u.2.1 ≤ 4000) ∧ (-3000000000 ≤ u.2.2 ∧ u.2.2 ≤ 3000000000)) (fun (u : RU × Int × Int) => [gSvyC K va sc ra vl vd vn vf vt ve vg u.2.1 u.2.2, gRayU K ra xa sha lea tma sc u.1 XF, gScn K sc la lb sa sb ou mi bo ln LF sn SF]) 0 0 := by
  refine mV_of cX6_considerNearest 4 (by decide) rfl (Nat.le_of_ble_eq_true rfl) ?_
  intro p e s m below meth c A ls Q S C hG hl hr hlk hin hQ
  have S : CallFix p m c cX6_considerNearest 4 s ([.ref va, .int (iI tg)] : List Value).toArray wsX6_considerNearest RX6 := S
  have iX60 : ∀ w ∈ wsX60, w ∈ wsX6_considerNearest := fun _ h => List.mem_cons_of_mem _ (List.mem_append_left _ (List.mem_append_left _ (List.mem_append_left _ (List.mem_append_right _ (h)))))
  have iX40 : ∀ w ∈ wsX40, w ∈ wsX6_considerNearest := fun _ h => List.mem_cons_of_mem _ (List.mem_append_left _ (List.mem_append_left _ (List.mem_append_right _ (h))))
  have iX50 : ∀ w ∈ wsX50, w ∈ wsX6_considerNearest := fun _ h => List.mem_cons_of_mem _ (List.mem_append_left _ (List.mem_append_right _ (h)))
  have iX70 : ∀ w ∈ wsX70, w ∈ wsX6_considerNearest := fun _ h => List.mem_cons_of_mem _ (List.mem_append_right _ (h))
  have hl : lv_has ls 4 [(0, .ref va), (1, .int (iI tg))] := hl
  have hG : gW K A s.heap [gSvyC K va sc ra vl vd vn vf vt ve vg vb vw, gRayU K ra xa sha lea tma sc rv XF, gScn K sc la lb sa sb ou mi bo ln LF sn SF] s.heap [] := hG
  obtain ⟨e0_, e1, e2, e3, e4, e5, e6⟩ := id hS
  have n0 := hN.1
  have nx := (lay_bd hN hy.1 hy.2).1
  have hPa := hP.1
  have hP0 : PartN N vl vd vf vt 0 := by rw [← hv0]; exact hP
  refine lv_aload_n S.1 S.2.1 dX6_considerNearest_0 rfl (lv_at hl 0 rfl) ?_
  refine lv_iload_n S.1 S.2.1 dX6_considerNearest_1 rfl (lv_at hl 1 rfl) ?_
  refine g_invV (As := [.int (iI tg)]) (rest := []) (gs' := (fun u : Int × RU => [gSvyC K va sc ra vl vd vn vf vt ve vg vb vw, gRayU K ra xa sha lea tma sc u.2 XF, gScn K sc la lb sa sb ou mi bo ln LF sn SF])) S C hG [0, 1, 2] (c_X6_firstReaching l K va vl vd vn vf vt ve vg vb vw ra xa sha lea tma sc rv XF la lb sa sb ou mi bo ln LF sn SF N tg hS hN hE hy hvn hd hP h0 h1) rfl rfl 0 rfl rfl (cwV 1 S.2.2.2.2 gX6_considerNearest_X6_firstReaching rfl rfl rfl (by decide +kernel) ⟨Nat.le_of_ble_eq_true rfl, Nat.le_of_ble_eq_true rfl⟩) rfl hl.1 rfl (Nat.le_of_ble_eq_true rfl) dX6_considerNearest_2 ⟨Nat.le_of_ble_eq_true rfl, Nat.le_of_ble_eq_true rfl⟩ (fun _ => Nat.le_of_ble_eq_true rfl) (fun _ => rfl) (fun v u H locs hp hG => ?_)
  obtain ⟨r_2, rv2_2⟩ := u
  obtain ⟨rfl, hr_2⟩ := hp
  have hr_2 : FstR N vl vd vf vt tg r_2 := hr_2
  have hG : gW K A s.heap [gSvyC K va sc ra vl vd vn vf vt ve vg vb vw, gRayU K ra xa sha lea tma sc rv2_2 XF, gScn K sc la lb sa sb ou mi bo ln LF sn SF] _ _ := hG
  refine lv_istore_n (lv' := [(2, .int (iI r_2)), (0, .ref va), (1, .int (iI tg))]) S.1 S.2.1 dX6_considerNearest_5 rfl hl (by decide) rfl (fun ls hl => ?_)
  have rga := hr_2.1
  refine lv_iload_n S.1 S.2.1 dX6_considerNearest_6 rfl (lv_at hl 0 rfl) ?_
  refine lv_aload_n S.1 S.2.1 dX6_considerNearest_7 rfl (lv_at hl 1 rfl) ?_
  refine g_get S C hG iX60 0 rfl rfl 5 (by decide) (List.mem_of_getElem? (i := 1) rfl) rfl dX6_considerNearest_8 ?_
  refine g_icmp_le (tgt := 36) S dX6_considerNearest_11 (by decide) (by omega) (by omega) (fun q11 => ?_) (fun q11 => ?_)
  · skip
    refine lv_iload_n S.1 S.2.1 dX6_considerNearest_36 rfl (lv_at hl 0 rfl) ?_
    refine lv_aload_n S.1 S.2.1 dX6_considerNearest_37 rfl (lv_at hl 1 rfl) ?_
    refine g_get S C hG iX60 0 rfl rfl 6 (by decide) (List.mem_of_getElem? (i := 2) rfl) rfl dX6_considerNearest_38 ?_
    refine g_icmp_ge (tgt := 58) S dX6_considerNearest_41 (by decide) (by omega) (by omega) (fun q41 => ?_) (fun q41 => ?_)
    · skip
      exfalso <;> omega
    · skip
      refine lv_aload_n S.1 S.2.1 dX6_considerNearest_44 rfl (lv_at hl 1 rfl) ?_
      refine lv_iload_n S.1 S.2.1 dX6_considerNearest_45 rfl (lv_at hl 0 rfl) ?_
      refine lv_iload_n S.1 S.2.1 dX6_considerNearest_46 rfl (lv_at hl 2 rfl) ?_
      refine g_i2l S dX6_considerNearest_47 (by omega) ?_
      refine lv_aload_n S.1 S.2.1 dX6_considerNearest_48 rfl (lv_at hl 1 rfl) ?_
      refine lv_iload_n S.1 S.2.1 dX6_considerNearest_49 rfl (lv_at hl 0 rfl) ?_
      refine g_invV (As := [.int (iI r_2)]) (rest := [.long (iL tg), .int (iI r_2), .ref va]) (gs' := (fun u : RU => [gSvyC K va sc ra vl vd vn vf vt ve vg vb vw, gRayU K ra xa sha lea tma sc u XF, gScn K sc la lb sa sb ou mi bo ln LF sn SF])) S C hG [0, 1, 2] (c_X6_shiftsWith l K va vl vd vn vf vt ve vg vb vw ra xa sha lea tma sc rv2_2 XF la lb sa sb ou mi bo ln LF sn SF N r_2 hS hN hE hy hvn hd (by omega)) rfl rfl 0 rfl rfl (cwV 1 S.2.2.2.2 gX6_considerNearest_X6_shiftsWith rfl rfl rfl (by decide +kernel) ⟨Nat.le_of_ble_eq_true rfl, Nat.le_of_ble_eq_true rfl⟩) rfl hl.1 rfl (Nat.le_of_ble_eq_true rfl) dX6_considerNearest_50 ⟨Nat.le_of_ble_eq_true rfl, Nat.le_of_ble_eq_true rfl⟩ (fun _ => Nat.le_of_ble_eq_true rfl) (fun _ => rfl) (fun v u H locs hp hG => ?_)
      obtain ⟨rv2_50, rfl⟩ : ∃ z, z = u := ⟨_, rfl⟩
      subst hp
      have hG : gW K A s.heap [gSvyC K va sc ra vl vd vn vf vt ve vg vb vw, gRayU K ra xa sha lea tma sc rv2_50 XF, gScn K sc la lb sa sb ou mi bo ln LF sn SF] _ _ := hG
      have sc9 := (shF_bd hN (show 0 ≤ r_2 by omega) hd (y := vl)).1
      refine g_i2l S dX6_considerNearest_53 (by omega) ?_
      refine g_lsub S dX6_considerNearest_54 rfl ?_
      refine g_invVv (As := [.int (iI r_2), .long (iL (tg - (shF N r_2 vl vd)))]) (rest := []) (gs' := (fun u : Int × Int => [gSvyC K va sc ra vl vd vn vf vt ve vg u.1 u.2, gRayU K ra xa sha lea tma sc rv2_50 XF, gScn K sc la lb sa sb ou mi bo ln LF sn SF])) S C hG [0] (c_X6_consider l K va vl vd vn vf vt ve vg vb vw sc ra r_2 (tg - (shF N r_2 vl vd)) hvb hvw (by omega)) rfl rfl 0 rfl rfl (cwV 2 S.2.2.2.2 gX6_considerNearest_X6_consider rfl rfl rfl (by decide +kernel) ⟨Nat.le_of_ble_eq_true rfl, Nat.le_of_ble_eq_true rfl⟩) rfl hl.1 rfl (Nat.le_of_ble_eq_true rfl) dX6_considerNearest_55 ⟨Nat.le_of_ble_eq_true rfl, Nat.le_of_ble_eq_true rfl⟩ (fun _ => Nat.le_of_ble_eq_true rfl) (fun _ => rfl) (fun u H locs hp hG => ?_)
      obtain ⟨vb2_55, vw2_55⟩ := u
      have hc_55 := hp
      have hc_55 : ConS vb vw r_2 (tg - (shF N r_2 vl vd)) vb2_55 vw2_55 := hc_55
      have hG : gW K A s.heap [gSvyC K va sc ra vl vd vn vf vt ve vg vb2_55 vw2_55, gRayU K ra xa sha lea tma sc rv2_50 XF, gScn K sc la lb sa sb ou mi bo ln LF sn SF] _ _ := hG
      have hG : gW K A s.heap [gSvyC K va sc ra vl vd vn vf vt ve vg vb2_55 vw2_55, gRayU K ra xa sha lea tma sc rv2_50 XF, gScn K sc la lb sa sb ou mi bo ln LF sn SF] _ _ := hG
      exact g_vret S hr hlk hQ dX6_considerNearest_58 (Nat.le_of_ble_eq_true rfl) (Nat.le_of_ble_eq_true rfl) ((rv2_50, vb2_55, vw2_55) : RU × Int × Int) ⟨(near_above hN hP0 hy hd h0 (show BestI N vl vd 0 (nsG N vl vd tg) True r_2 vb vw by rw [show r_2 = vf by omega] <;> exact hB) hr_2 (by omega) hc_55), (hc_55.bd1 hvb (by omega)), (hc_55.bd hvw (by omega))⟩ hG
  · skip
    refine lv_aload_n S.1 S.2.1 dX6_considerNearest_14 rfl (lv_at hl 1 rfl) ?_
    refine lv_iload_n S.1 S.2.1 dX6_considerNearest_15 rfl (lv_at hl 0 rfl) ?_
    refine g_iconst S dX6_considerNearest_16 ?_
    refine g_isub S dX6_considerNearest_17 rfl ?_
    refine g_invV (As := [.int (iI (r_2 - 1))]) (rest := []) (gs' := (fun u : RU => [gSvyC K va sc ra vl vd vn vf vt ve vg vb vw, gRayU K ra xa sha lea tma sc u XF, gScn K sc la lb sa sb ou mi bo ln LF sn SF])) S C hG [0, 1, 2] (c_X6_shiftsWith l K va vl vd vn vf vt ve vg vb vw ra xa sha lea tma sc rv2_2 XF la lb sa sb ou mi bo ln LF sn SF N (r_2 - 1) hS hN hE hy hvn hd (by omega)) rfl rfl 0 rfl rfl (cwV 1 S.2.2.2.2 gX6_considerNearest_X6_shiftsWith rfl rfl rfl (by decide +kernel) ⟨Nat.le_of_ble_eq_true rfl, Nat.le_of_ble_eq_true rfl⟩) rfl hl.1 rfl (Nat.le_of_ble_eq_true rfl) dX6_considerNearest_18 ⟨Nat.le_of_ble_eq_true rfl, Nat.le_of_ble_eq_true rfl⟩ (fun _ => Nat.le_of_ble_eq_true rfl) (fun _ => rfl) (fun v u H locs hp hG => ?_)
    obtain ⟨rv2_18, rfl⟩ : ∃ z, z = u := ⟨_, rfl⟩
    subst hp
    have hG : gW K A s.heap [gSvyC K va sc ra vl vd vn vf vt ve vg vb vw, gRayU K ra xa sha lea tma sc rv2_18 XF, gScn K sc la lb sa sb ou mi bo ln LF sn SF] _ _ := hG
    refine lv_istore_n (lv' := [(3, .int (iI (shF N (r_2 - 1) vl vd))), (2, .int (iI r_2)), (0, .ref va), (1, .int (iI tg))]) S.1 S.2.1 dX6_considerNearest_21 rfl hl (by decide) rfl (fun ls hl => ?_)
    have sb9 := (shF_bd hN (show 0 ≤ r_2 - 1 by omega) hd (y := vl)).1
    refine lv_aload_n S.1 S.2.1 dX6_considerNearest_22 rfl (lv_at hl 2 rfl) ?_
    refine lv_aload_n S.1 S.2.1 dX6_considerNearest_23 rfl (lv_at hl 2 rfl) ?_
    refine lv_iload_n S.1 S.2.1 dX6_considerNearest_24 rfl (lv_at hl 0 rfl) ?_
    refine g_invV (As := [.int (iI (shF N (r_2 - 1) vl vd))]) (rest := [.ref va]) (gs' := (fun u : Int × RU => [gSvyC K va sc ra vl vd vn vf vt ve vg vb vw, gRayU K ra xa sha lea tma sc u.2 XF, gScn K sc la lb sa sb ou mi bo ln LF sn SF])) S C hG [0, 1, 2] (c_X6_firstReaching l K va vl vd vn vf vt ve vg vb vw ra xa sha lea tma sc rv2_18 XF la lb sa sb ou mi bo ln LF sn SF N (shF N (r_2 - 1) vl vd) hS hN hE hy hvn hd hP h0 (by omega)) rfl rfl 0 rfl rfl (cwV 1 S.2.2.2.2 gX6_considerNearest_X6_firstReaching rfl rfl rfl (by decide +kernel) ⟨Nat.le_of_ble_eq_true rfl, Nat.le_of_ble_eq_true rfl⟩) rfl hl.1 rfl (Nat.le_of_ble_eq_true rfl) dX6_considerNearest_25 ⟨Nat.le_of_ble_eq_true rfl, Nat.le_of_ble_eq_true rfl⟩ (fun _ => Nat.le_of_ble_eq_true rfl) (fun _ => rfl) (fun v u H locs hp hG => ?_)
    obtain ⟨r_25, rv2_25⟩ := u
    obtain ⟨rfl, hr_25⟩ := hp
    have hr_25 : FstR N vl vd vf vt (shF N (r_2 - 1) vl vd) r_25 := hr_25
    have hG : gW K A s.heap [gSvyC K va sc ra vl vd vn vf vt ve vg vb vw, gRayU K ra xa sha lea tma sc rv2_25 XF, gScn K sc la lb sa sb ou mi bo ln LF sn SF] _ _ := hG
    refine lv_iload_n S.1 S.2.1 dX6_considerNearest_28 rfl (lv_at hl 0 rfl) ?_
    refine g_i2l S dX6_considerNearest_29 (by omega) ?_
    refine lv_iload_n S.1 S.2.1 dX6_considerNearest_30 rfl (lv_at hl 3 rfl) ?_
    refine g_i2l S dX6_considerNearest_31 (by omega) ?_
    refine g_lsub S dX6_considerNearest_32 rfl ?_
    have rgb := hr_25.1
    refine g_invVv (As := [.int (iI r_25), .long (iL ((shF N (r_2 - 1) vl vd) - tg))]) (rest := []) (gs' := (fun u : Int × Int => [gSvyC K va sc ra vl vd vn vf vt ve vg u.1 u.2, gRayU K ra xa sha lea tma sc rv2_25 XF, gScn K sc la lb sa sb ou mi bo ln LF sn SF])) S C hG [0] (c_X6_consider l K va vl vd vn vf vt ve vg vb vw sc ra r_25 ((shF N (r_2 - 1) vl vd) - tg) hvb hvw (by omega)) rfl rfl 0 rfl rfl (cwV 2 S.2.2.2.2 gX6_considerNearest_X6_consider rfl rfl rfl (by decide +kernel) ⟨Nat.le_of_ble_eq_true rfl, Nat.le_of_ble_eq_true rfl⟩) rfl hl.1 rfl (Nat.le_of_ble_eq_true rfl) dX6_considerNearest_33 ⟨Nat.le_of_ble_eq_true rfl, Nat.le_of_ble_eq_true rfl⟩ (fun _ => Nat.le_of_ble_eq_true rfl) (fun _ => rfl) (fun u H locs hp hG => ?_)
    obtain ⟨vb2_33, vw2_33⟩ := u
    have hc_33 := hp
    have hc_33 : ConS vb vw r_25 ((shF N (r_2 - 1) vl vd) - tg) vb2_33 vw2_33 := hc_33
    have hG : gW K A s.heap [gSvyC K va sc ra vl vd vn vf vt ve vg vb2_33 vw2_33, gRayU K ra xa sha lea tma sc rv2_25 XF, gScn K sc la lb sa sb ou mi bo ln LF sn SF] _ _ := hG
    refine lv_iload_n S.1 S.2.1 dX6_considerNearest_36 rfl (lv_at hl 1 rfl) ?_
    refine lv_aload_n S.1 S.2.1 dX6_considerNearest_37 rfl (lv_at hl 2 rfl) ?_
    refine g_get S C hG iX60 0 rfl rfl 6 (by decide) (List.mem_of_getElem? (i := 2) rfl) rfl dX6_considerNearest_38 ?_
    refine g_icmp_ge (tgt := 58) S dX6_considerNearest_41 (by decide) (by omega) (by omega) (fun q41 => ?_) (fun q41 => ?_)
    · skip
      have hG : gW K A s.heap [gSvyC K va sc ra vl vd vn vf vt ve vg vb2_33 vw2_33, gRayU K ra xa sha lea tma sc rv2_25 XF, gScn K sc la lb sa sb ou mi bo ln LF sn SF] _ _ := hG
      exact g_vret S hr hlk hQ dX6_considerNearest_58 (Nat.le_of_ble_eq_true rfl) (Nat.le_of_ble_eq_true rfl) ((rv2_25, vb2_33, vw2_33) : RU × Int × Int) ⟨(show BestI N vl vd 0 (nsG N vl vd tg) True vt _ _ from (show r_2 = vt by omega) ▸ (near_below hN hP0 hy hd h0 hB hr_2 (by omega) hr_25 hc_33)), (hc_33.bd1 hvb (by omega)), (hc_33.bd hvw (by omega))⟩ hG
    · skip
      refine lv_aload_n S.1 S.2.1 dX6_considerNearest_44 rfl (lv_at hl 2 rfl) ?_
      refine lv_iload_n S.1 S.2.1 dX6_considerNearest_45 rfl (lv_at hl 1 rfl) ?_
      refine lv_iload_n S.1 S.2.1 dX6_considerNearest_46 rfl (lv_at hl 3 rfl) ?_
      refine g_i2l S dX6_considerNearest_47 (by omega) ?_
      refine lv_aload_n S.1 S.2.1 dX6_considerNearest_48 rfl (lv_at hl 2 rfl) ?_
      refine lv_iload_n S.1 S.2.1 dX6_considerNearest_49 rfl (lv_at hl 1 rfl) ?_
      refine g_invV (As := [.int (iI r_2)]) (rest := [.long (iL tg), .int (iI r_2), .ref va]) (gs' := (fun u : RU => [gSvyC K va sc ra vl vd vn vf vt ve vg vb2_33 vw2_33, gRayU K ra xa sha lea tma sc u XF, gScn K sc la lb sa sb ou mi bo ln LF sn SF])) S C hG [0, 1, 2] (c_X6_shiftsWith l K va vl vd vn vf vt ve vg vb2_33 vw2_33 ra xa sha lea tma sc rv2_25 XF la lb sa sb ou mi bo ln LF sn SF N r_2 hS hN hE hy hvn hd (by omega)) rfl rfl 0 rfl rfl (cwV 1 S.2.2.2.2 gX6_considerNearest_X6_shiftsWith rfl rfl rfl (by decide +kernel) ⟨Nat.le_of_ble_eq_true rfl, Nat.le_of_ble_eq_true rfl⟩) rfl hl.1 rfl (Nat.le_of_ble_eq_true rfl) dX6_considerNearest_50 ⟨Nat.le_of_ble_eq_true rfl, Nat.le_of_ble_eq_true rfl⟩ (fun _ => Nat.le_of_ble_eq_true rfl) (fun _ => rfl) (fun v u H locs hp hG => ?_)
      obtain ⟨rv2_50, rfl⟩ : ∃ z, z = u := ⟨_, rfl⟩
      subst hp
      have hG : gW K A s.heap [gSvyC K va sc ra vl vd vn vf vt ve vg vb2_33 vw2_33, gRayU K ra xa sha lea tma sc rv2_50 XF, gScn K sc la lb sa sb ou mi bo ln LF sn SF] _ _ := hG
      have sc9 := (shF_bd hN (show 0 ≤ r_2 by omega) hd (y := vl)).1
      refine g_i2l S dX6_considerNearest_53 (by omega) ?_
      refine g_lsub S dX6_considerNearest_54 rfl ?_
      refine g_invVv (As := [.int (iI r_2), .long (iL (tg - (shF N r_2 vl vd)))]) (rest := []) (gs' := (fun u : Int × Int => [gSvyC K va sc ra vl vd vn vf vt ve vg u.1 u.2, gRayU K ra xa sha lea tma sc rv2_50 XF, gScn K sc la lb sa sb ou mi bo ln LF sn SF])) S C hG [0] (c_X6_consider l K va vl vd vn vf vt ve vg vb2_33 vw2_33 sc ra r_2 (tg - (shF N r_2 vl vd)) (hc_33.bd1 hvb (by omega)) (hc_33.bd hvw (by omega)) (by omega)) rfl rfl 0 rfl rfl (cwV 2 S.2.2.2.2 gX6_considerNearest_X6_consider rfl rfl rfl (by decide +kernel) ⟨Nat.le_of_ble_eq_true rfl, Nat.le_of_ble_eq_true rfl⟩) rfl hl.1 rfl (Nat.le_of_ble_eq_true rfl) dX6_considerNearest_55 ⟨Nat.le_of_ble_eq_true rfl, Nat.le_of_ble_eq_true rfl⟩ (fun _ => Nat.le_of_ble_eq_true rfl) (fun _ => rfl) (fun u H locs hp hG => ?_)
      obtain ⟨vb2_55, vw2_55⟩ := u
      have hc_55 := hp
      have hc_55 : ConS vb2_33 vw2_33 r_2 (tg - (shF N r_2 vl vd)) vb2_55 vw2_55 := hc_55
      have hG : gW K A s.heap [gSvyC K va sc ra vl vd vn vf vt ve vg vb2_55 vw2_55, gRayU K ra xa sha lea tma sc rv2_50 XF, gScn K sc la lb sa sb ou mi bo ln LF sn SF] _ _ := hG
      have hG : gW K A s.heap [gSvyC K va sc ra vl vd vn vf vt ve vg vb2_55 vw2_55, gRayU K ra xa sha lea tma sc rv2_50 XF, gScn K sc la lb sa sb ou mi bo ln LF sn SF] _ _ := hG
      exact g_vret S hr hlk hQ dX6_considerNearest_58 (Nat.le_of_ble_eq_true rfl) (Nat.le_of_ble_eq_true rfl) ((rv2_50, vb2_55, vw2_55) : RU × Int × Int) ⟨(near_above hN hP0 hy hd h0 (near_below hN hP0 hy hd h0 hB hr_2 (by omega) hr_25 hc_33) hr_2 (by omega) hc_55), (hc_55.bd1 (hc_33.bd1 hvb (by omega)) (by omega)), (hc_55.bd (hc_33.bd hvw (by omega)) (by omega))⟩ hG

set_option maxHeartbeats 1000000 in
set_option maxRecDepth 100000 in
theorem c_X6_countSlants (l : Launch) (K : KC) (va : Nat) (vl : Int) (vd : Int) (vn : Int) (vf : Int) (vt : Int) (ve : Int) (vg : Int) (vb : Int) (vw : Int) (ra : Nat) (xa : Nat) (sha : Nat) (lea : Nat) (tma : Nat) (sc : Nat) (rv : RU) (XF : Int → Int) (la : Nat) (lb : Nat) (sa : Nat) (sb : Nat) (ou : Int) (mi : Int) (bo : Int) (ln : Int) (LF : Int → Int) (sn : Int) (SF : Int → Int) (N : Int → Int) (y0 : Int) (e0 : Int) (x : Int) (hS : ScOk N ou mi bo ln LF sn SF) (hN : NOk0 N) (hy : 0 ≤ y0 ∧ y0 < N 0) (he : e0 = 0 ∨ e0 = 1) (hx : 0 ≤ x ∧ x ≤ 4) : mG l yX6_countSlants wsX6_countSlants 5 117 K [.ref va, .int (iI y0), .int (iI e0), .int (iI x)] [gSvyC K va sc ra vl vd vn vf vt ve vg vb vw, gRayU K ra xa sha lea tma sc rv XF, gScn K sc la lb sa sb ou mi bo ln LF sn SF] (fun (v : Value) (u : Int × Int × Int × Int × Int × RU × (Int → Int)) => (v = .int (iI (cntS N y0 e0 x (nX N y0).toNat))) ∧ (EntOk N u.2.2.2.2.2.2)) (fun (u : Int × Int × Int × Int × Int × RU × (Int → Int)) => [gSvyC K va sc ra y0 e0 (nX N y0) u.1 u.2.1 u.2.2.1 u.2.2.2.1 u.2.2.2.2.1 vw, gRayU K ra xa sha lea tma sc u.2.2.2.2.2.1 u.2.2.2.2.2.2, gScn K sc la lb sa sb ou mi bo ln LF sn SF]) 0 0 := by
  refine mG_of cX6_countSlants 6 (by decide) rfl (Nat.le_of_ble_eq_true rfl) ?_
  intro p e s m below meth c A ls Q S C hG hl hr hlk hin hQ
  have S : CallFix p m c cX6_countSlants 6 s ([.ref va, .int (iI y0), .int (iI e0), .int (iI x)] : List Value).toArray wsX6_countSlants RX6 := S
  have iX60 : ∀ w ∈ wsX60, w ∈ wsX6_countSlants := fun _ h => List.mem_cons_of_mem _ (List.mem_append_left _ (List.mem_append_left _ (List.mem_append_left _ (List.mem_append_right _ (h)))))
  have iX40 : ∀ w ∈ wsX40, w ∈ wsX6_countSlants := fun _ h => List.mem_cons_of_mem _ (List.mem_append_left _ (List.mem_append_left _ (List.mem_append_right _ (h))))
  have iX50 : ∀ w ∈ wsX50, w ∈ wsX6_countSlants := fun _ h => List.mem_cons_of_mem _ (List.mem_append_left _ (List.mem_append_right _ (h)))
  have iX70 : ∀ w ∈ wsX70, w ∈ wsX6_countSlants := fun _ h => List.mem_cons_of_mem _ (List.mem_append_right _ (h))
  have hl : lv_has ls 6 [(0, .ref va), (1, .int (iI y0)), (2, .int (iI e0)), (3, .int (iI x))] := hl
  have hG : gW K A s.heap [gSvyC K va sc ra vl vd vn vf vt ve vg vb vw, gRayU K ra xa sha lea tma sc rv XF, gScn K sc la lb sa sb ou mi bo ln LF sn SF] s.heap [] := hG
  obtain ⟨e0_, e1, e2, e3, e4, e5, e6⟩ := id hS
  have n0 := hN.1
  have nx := (lay_bd hN hy.1 hy.2).1
  refine lv_aload_n S.1 S.2.1 dX6_countSlants_0 rfl (lv_at hl 0 rfl) ?_
  refine lv_iload_n S.1 S.2.1 dX6_countSlants_1 rfl (lv_at hl 1 rfl) ?_
  refine lv_iload_n S.1 S.2.1 dX6_countSlants_2 rfl (lv_at hl 2 rfl) ?_
  refine g_invVv (As := [.int (iI y0), .int (iI e0)]) (rest := []) (gs' := (fun u : (Int → Int) => [gSvyC K va sc ra y0 e0 (nX N y0) vf 0 ve vg (-1) vw, gRayU K ra xa sha lea tma sc rv u, gScn K sc la lb sa sb ou mi bo ln LF sn SF])) S C hG [0, 1, 2] (c_X6_start l K va vl vd vn vf vt ve vg vb vw ra xa sha lea tma sc rv XF la lb sa sb ou mi bo ln LF sn SF N y0 e0 hS hN hy he) rfl rfl 0 rfl rfl (cwV 2 S.2.2.2.2 gX6_countSlants_X6_start rfl rfl rfl (by decide +kernel) ⟨Nat.le_of_ble_eq_true rfl, Nat.le_of_ble_eq_true rfl⟩) rfl hl.1 rfl (Nat.le_of_ble_eq_true rfl) dX6_countSlants_3 ⟨Nat.le_of_ble_eq_true rfl, Nat.le_of_ble_eq_true rfl⟩ (fun _ => Nat.le_of_ble_eq_true rfl) (fun _ => rfl) (fun u H locs hp hG => ?_)
  obtain ⟨X2_3, rfl⟩ : ∃ z, z = u := ⟨_, rfl⟩
  have hE_3 := hp
  have hE_3 : EntOk N X2_3 := hE_3
  have hG : gW K A s.heap [gSvyC K va sc ra y0 e0 (nX N y0) vf 0 ve vg (-1) vw, gRayU K ra xa sha lea tma sc rv X2_3, gScn K sc la lb sa sb ou mi bo ln LF sn SF] _ _ := hG
  refine g_iconst S dX6_countSlants_6 ?_
  refine lv_istore (lv' := [(4, .int (iI 0)), (0, .ref va), (1, .int (iI y0)), (2, .int (iI e0)), (3, .int (iI x))]) S.1 S.2.1 dX6_countSlants_7 hl (by decide) rfl (fun ls hl => ?_)
  refine g_iconst S dX6_countSlants_9 ?_
  refine lv_istore (lv' := [(5, .int (iI 0)), (4, .int (iI 0)), (0, .ref va), (1, .int (iI y0)), (2, .int (iI e0)), (3, .int (iI x))]) S.1 S.2.1 dX6_countSlants_10 hl (by decide) rfl (fun ls hl => ?_)
  have L12 : ∀ (fu : Nat) (w : Int) (uf : Int) (ut : Int) (ue : Int) (ug : Int) (ub : Int) (rv1 : RU) (zd : Int) (H : Heap) (locs : List Loc) (ls : Array Slot), (((793 : Int) - w).toNat) < fu → (0 ≤ w ∧ w ≤ 793) → (0 ≤ ut ∧ ut ≤ nX N y0) → (ut < nX N y0 → w + MN N y0 e0 ut ≤ 793) → (zd = cntS N y0 e0 x ut.toNat) → lv_has ls 6 [(0, .ref va), (1, .int (iI y0)), (2, .int (iI e0)), (3, .int (iI x)), (4, .int (iI zd)), (5, .int (iI w))] → gW K A s.heap [gSvyC K va sc ra y0 e0 (nX N y0) uf ut ue ug ub vw, gRayU K ra xa sha lea tma sc rv1 X2_3, gScn K sc la lb sa sb ou mi bo ln LF sn SF] H locs → W p l e { frames := 5, cells := 0, slots := 0, locals := 117 } s m ([.ref va, .int (iI y0), .int (iI e0), .int (iI x)] : List Value).toArray below meth c H locs 0 0 Q (F0 m 12 ls []) := by
    intro fu
    induction fu with
    | zero => intro w uf ut ue ug ub rv1 zd H locs ls hfu; exact absurd hfu (Nat.not_lt_zero _)
    | succ fu ih =>
      intro w uf ut ue ug ub rv1 zd H locs ls hfu hw ht hM hzd hl hG
      refine lv_iload S.1 S.2.1 dX6_countSlants_12 (lv_at hl 5 rfl) ?_
      refine g_sipush S dX6_countSlants_14 (by decide) ?_
      refine g_icmp_ge (tgt := 55) S dX6_countSlants_17 (by decide) (by omega) (by omega) (fun q17 => ?_) (fun q17 => ?_)
      · skip
        refine lv_iload S.1 S.2.1 dX6_countSlants_55 (lv_at hl 4 rfl) ?_
        have e9 : ut = nX N y0 := (by by_cases g : ut < nX N y0 <;> first | omega | (have p1 := hM g; have p2 := MN_pos hN hy he ht.1 g; omega))
        have hG : gW K A s.heap [gSvyC K va sc ra y0 e0 (nX N y0) uf ut ue ug ub vw, gRayU K ra xa sha lea tma sc rv1 X2_3, gScn K sc la lb sa sb ou mi bo ln LF sn SF] _ _ := hG
        exact g_iret S hr hlk hQ dX6_countSlants_57 (Nat.le_of_ble_eq_true rfl) (Nat.le_of_ble_eq_true rfl) ((uf, ut, ue, ug, ub, rv1, X2_3) : Int × Int × Int × Int × Int × RU × (Int → Int)) ⟨(congrArg (fun z : Int => Value.int (iI z)) (by rw [hzd, e9])), hE_3⟩ hG
      · skip
        refine lv_aload_n S.1 S.2.1 dX6_countSlants_20 rfl (lv_at hl 0 rfl) ?_
        refine g_invV (As := []) (rest := []) (gs' := (fun u : RU × Int × Int × Int => [gSvyC K va sc ra y0 e0 (nX N y0) ut u.2.1 u.2.2.1 u.2.2.2 ub vw, gRayU K ra xa sha lea tma sc u.1 X2_3, gScn K sc la lb sa sb ou mi bo ln LF sn SF])) S C hG [0, 1, 2] (c_X6_nextPart l K va y0 e0 (nX N y0) uf ut ue ug ub vw ra xa sha lea tma sc rv1 X2_3 la lb sa sb ou mi bo ln LF sn SF N hS hN hE_3 hy rfl he ht) rfl rfl 0 rfl rfl (cwV 0 S.2.2.2.2 gX6_countSlants_X6_nextPart rfl rfl rfl (by decide +kernel) ⟨Nat.le_of_ble_eq_true rfl, Nat.le_of_ble_eq_true rfl⟩) rfl hl.1 rfl (Nat.le_of_ble_eq_true rfl) dX6_countSlants_21 ⟨Nat.le_of_ble_eq_true rfl, Nat.le_of_ble_eq_true rfl⟩ (fun _ => Nat.le_of_ble_eq_true rfl) (fun _ => rfl) (fun v u H locs hp hG => ?_)
        obtain ⟨rv2_21, vt2_21, ve2_21, vg2_21⟩ := u
        obtain ⟨rfl, hp_21, hq_21⟩ := hp
        have hp_21 : ut < (nX N y0) → PartN N y0 e0 ut vt2_21 ve2_21 := hp_21
        have hq_21 : ¬ ut < (nX N y0) → vt2_21 = ut := hq_21
        have hG : gW K A s.heap [gSvyC K va sc ra y0 e0 (nX N y0) ut vt2_21 ve2_21 vg2_21 ub vw, gRayU K ra xa sha lea tma sc rv2_21 X2_3, gScn K sc la lb sa sb ou mi bo ln LF sn SF] _ _ := hG
        refine g_ifeq_b (B := (ut < (nX N y0))) (tgt := 55) S dX6_countSlants_24 (by decide) (fun q24 => ?_) (fun q24 => ?_)
        · skip
          refine lv_iload S.1 S.2.1 dX6_countSlants_55 (lv_at hl 4 rfl) ?_
          have e9 : ut = nX N y0 := (by by_cases g : ut < nX N y0 <;> first | omega | (have p1 := hM g; have p2 := MN_pos hN hy he ht.1 g; omega))
          have hG : gW K A s.heap [gSvyC K va sc ra y0 e0 (nX N y0) ut vt2_21 ve2_21 vg2_21 ub vw, gRayU K ra xa sha lea tma sc rv2_21 X2_3, gScn K sc la lb sa sb ou mi bo ln LF sn SF] _ _ := hG
          exact g_iret S hr hlk hQ dX6_countSlants_57 (Nat.le_of_ble_eq_true rfl) (Nat.le_of_ble_eq_true rfl) ((ut, vt2_21, ve2_21, vg2_21, ub, rv2_21, X2_3) : Int × Int × Int × Int × Int × RU × (Int → Int)) ⟨(congrArg (fun z : Int => Value.int (iI z)) (by rw [hzd, e9])), hE_3⟩ hG
        · skip
          have hP := hp_21 q24
          obtain ⟨⟨hP1, hP2⟩, hP3, hP4, hP5, hP6⟩ := id hP
          have b1 := enF_bd N ut y0 e0
          refine lv_aload_n S.1 S.2.1 dX6_countSlants_27 rfl (lv_at hl 0 rfl) ?_
          refine g_get S C hG iX60 0 rfl rfl 7 (by decide) (List.mem_of_getElem? (i := 1) rfl) rfl dX6_countSlants_28 ?_
          refine lv_iload_n S.1 S.2.1 dX6_countSlants_31 rfl (lv_at hl 3 rfl) ?_
          refine g_icmp_ne (tgt := 49) S dX6_countSlants_32 (by decide) (by omega) (by omega) (fun q32 => ?_) (fun q32 => ?_)
          · skip
            refine lv_iinc (v := iI (w + 1)) (lv' := [(5, .int (iI (w + 1))), (0, .ref va), (1, .int (iI y0)), (2, .int (iI e0)), (3, .int (iI x)), (4, .int (iI zd))]) S.1 S.2.1 dX6_countSlants_49 hl (k := 5) rfl (g_iinc rfl) (by decide) rfl (fun ls hl => ?_)
            refine lv_goto (tgt := 12) S.1 S.2.1 dX6_countSlants_52 (by decide) ?_
            exact ih (w + 1) ut vt2_21 ve2_21 vg2_21 ub rv2_21 zd _ _ _ (by omega) (by omega) (by omega) (fun q => by have p1 := hP5 q <;> have p2 := hM q24 <;> omega) (by rw [cntS_part hP ht.1, ← hzd, if_neg q32, Int.add_zero]) (lv_sub hl [1, 2, 3, 4, 5, 0] rfl) hG
          · skip
            refine lv_iload S.1 S.2.1 dX6_countSlants_35 (lv_at hl 4 rfl) ?_
            refine lv_aload_n S.1 S.2.1 dX6_countSlants_37 rfl (lv_at hl 0 rfl) ?_
            refine g_get S C hG iX60 0 rfl rfl 6 (by decide) (List.mem_of_getElem? (i := 2) rfl) rfl dX6_countSlants_38 ?_
            refine lv_aload_n S.1 S.2.1 dX6_countSlants_41 rfl (lv_at hl 0 rfl) ?_
            refine g_get S C hG iX60 0 rfl rfl 5 (by decide) (List.mem_of_getElem? (i := 3) rfl) rfl dX6_countSlants_42 ?_
            refine g_isub S dX6_countSlants_45 rfl ?_
            refine g_iadd S dX6_countSlants_46 rfl ?_
            refine lv_istore (lv' := [(4, .int (iI (zd + (vt2_21 - ut)))), (0, .ref va), (1, .int (iI y0)), (2, .int (iI e0)), (3, .int (iI x)), (5, .int (iI w))]) S.1 S.2.1 dX6_countSlants_47 hl (by decide) rfl (fun ls hl => ?_)
            refine lv_iinc (v := iI (w + 1)) (lv' := [(5, .int (iI (w + 1))), (4, .int (iI (zd + (vt2_21 - ut)))), (0, .ref va), (1, .int (iI y0)), (2, .int (iI e0)), (3, .int (iI x))]) S.1 S.2.1 dX6_countSlants_49 hl (k := 5) rfl (g_iinc rfl) (by decide) rfl (fun ls hl => ?_)
            refine lv_goto (tgt := 12) S.1 S.2.1 dX6_countSlants_52 (by decide) ?_
            exact ih (w + 1) ut vt2_21 ve2_21 vg2_21 ub rv2_21 (zd + (vt2_21 - ut)) _ _ _ (by omega) (by omega) (by omega) (fun q => by have p1 := hP5 q <;> have p2 := hM q24 <;> omega) (by rw [cntS_part hP ht.1, ← hzd, if_pos q32]) (lv_sub hl [2, 3, 4, 5, 1, 0] rfl) hG
  exact L12 (Nat.succ (((793 : Int) - 0).toNat)) 0 vf 0 ve vg (-1) rv 0 _ _ _ (Nat.lt_succ_self _) (by omega) (by omega) (fun _ => by have := MN_0 hN hy he <;> omega) rfl (lv_sub hl [2, 3, 4, 5, 1, 0] rfl) hG

def LowR (N : Int → Int) (y0 e0 x r : Int) : Prop := (r = -1 ∧ ∀ p : Int, 0 ≤ p → p < nX N y0 → enF N p y0 e0 ≠ x) ∨ ((0 ≤ r ∧ r < nX N y0) ∧ enF N r y0 e0 = x ∧ ∀ p : Int, 0 ≤ p → p < r → enF N p y0 e0 ≠ x)
set_option maxHeartbeats 1000000 in
set_option maxRecDepth 100000 in
theorem c_X6_lowestSlant (l : Launch) (K : KC) (va : Nat) (vl : Int) (vd : Int) (vn : Int) (vf : Int) (vt : Int) (ve : Int) (vg : Int) (vb : Int) (vw : Int) (ra : Nat) (xa : Nat) (sha : Nat) (lea : Nat) (tma : Nat) (sc : Nat) (rv : RU) (XF : Int → Int) (la : Nat) (lb : Nat) (sa : Nat) (sb : Nat) (ou : Int) (mi : Int) (bo : Int) (ln : Int) (LF : Int → Int) (sn : Int) (SF : Int → Int) (N : Int → Int) (y0 : Int) (e0 : Int) (x : Int) (hS : ScOk N ou mi bo ln LF sn SF) (hN : NOk0 N) (hy : 0 ≤ y0 ∧ y0 < N 0) (he : e0 = 0 ∨ e0 = 1) (hx : 0 ≤ x ∧ x ≤ 4) : mG l yX6_lowestSlant wsX6_lowestSlant 5 117 K [.ref va, .int (iI y0), .int (iI e0), .int (iI x)] [gSvyC K va sc ra vl vd vn vf vt ve vg vb vw, gRayU K ra xa sha lea tma sc rv XF, gScn K sc la lb sa sb ou mi bo ln LF sn SF] (fun (v : Value) (u : Int × Int × Int × Int × Int × Int × RU × (Int → Int)) => (v = .int (iI u.1)) ∧ (EntOk N u.2.2.2.2.2.2.2) ∧ (LowR N y0 e0 x u.1)) (fun (u : Int × Int × Int × Int × Int × Int × RU × (Int → Int)) => [gSvyC K va sc ra y0 e0 (nX N y0) u.2.1 u.2.2.1 u.2.2.2.1 u.2.2.2.2.1 u.2.2.2.2.2.1 vw, gRayU K ra xa sha lea tma sc u.2.2.2.2.2.2.1 u.2.2.2.2.2.2.2, gScn K sc la lb sa sb ou mi bo ln LF sn SF]) 0 0 := by
  refine mG_of cX6_lowestSlant 5 (by decide) rfl (Nat.le_of_ble_eq_true rfl) ?_
  intro p e s m below meth c A ls Q S C hG hl hr hlk hin hQ
  have S : CallFix p m c cX6_lowestSlant 5 s ([.ref va, .int (iI y0), .int (iI e0), .int (iI x)] : List Value).toArray wsX6_lowestSlant RX6 := S
  have iX60 : ∀ w ∈ wsX60, w ∈ wsX6_lowestSlant := fun _ h => List.mem_cons_of_mem _ (List.mem_append_left _ (List.mem_append_left _ (List.mem_append_left _ (List.mem_append_right _ (h)))))
  have iX40 : ∀ w ∈ wsX40, w ∈ wsX6_lowestSlant := fun _ h => List.mem_cons_of_mem _ (List.mem_append_left _ (List.mem_append_left _ (List.mem_append_right _ (h))))
  have iX50 : ∀ w ∈ wsX50, w ∈ wsX6_lowestSlant := fun _ h => List.mem_cons_of_mem _ (List.mem_append_left _ (List.mem_append_right _ (h)))
  have iX70 : ∀ w ∈ wsX70, w ∈ wsX6_lowestSlant := fun _ h => List.mem_cons_of_mem _ (List.mem_append_right _ (h))
  have hl : lv_has ls 5 [(0, .ref va), (1, .int (iI y0)), (2, .int (iI e0)), (3, .int (iI x))] := hl
  have hG : gW K A s.heap [gSvyC K va sc ra vl vd vn vf vt ve vg vb vw, gRayU K ra xa sha lea tma sc rv XF, gScn K sc la lb sa sb ou mi bo ln LF sn SF] s.heap [] := hG
  obtain ⟨e0_, e1, e2, e3, e4, e5, e6⟩ := id hS
  have n0 := hN.1
  have nx := (lay_bd hN hy.1 hy.2).1
  refine lv_aload_n S.1 S.2.1 dX6_lowestSlant_0 rfl (lv_at hl 0 rfl) ?_
  refine lv_iload_n S.1 S.2.1 dX6_lowestSlant_1 rfl (lv_at hl 1 rfl) ?_
  refine lv_iload_n S.1 S.2.1 dX6_lowestSlant_2 rfl (lv_at hl 2 rfl) ?_
  refine g_invVv (As := [.int (iI y0), .int (iI e0)]) (rest := []) (gs' := (fun u : (Int → Int) => [gSvyC K va sc ra y0 e0 (nX N y0) vf 0 ve vg (-1) vw, gRayU K ra xa sha lea tma sc rv u, gScn K sc la lb sa sb ou mi bo ln LF sn SF])) S C hG [0, 1, 2] (c_X6_start l K va vl vd vn vf vt ve vg vb vw ra xa sha lea tma sc rv XF la lb sa sb ou mi bo ln LF sn SF N y0 e0 hS hN hy he) rfl rfl 0 rfl rfl (cwV 2 S.2.2.2.2 gX6_lowestSlant_X6_start rfl rfl rfl (by decide +kernel) ⟨Nat.le_of_ble_eq_true rfl, Nat.le_of_ble_eq_true rfl⟩) rfl hl.1 rfl (Nat.le_of_ble_eq_true rfl) dX6_lowestSlant_3 ⟨Nat.le_of_ble_eq_true rfl, Nat.le_of_ble_eq_true rfl⟩ (fun _ => Nat.le_of_ble_eq_true rfl) (fun _ => rfl) (fun u H locs hp hG => ?_)
  obtain ⟨X2_3, rfl⟩ : ∃ z, z = u := ⟨_, rfl⟩
  have hE_3 := hp
  have hE_3 : EntOk N X2_3 := hE_3
  have hG : gW K A s.heap [gSvyC K va sc ra y0 e0 (nX N y0) vf 0 ve vg (-1) vw, gRayU K ra xa sha lea tma sc rv X2_3, gScn K sc la lb sa sb ou mi bo ln LF sn SF] _ _ := hG
  refine g_iconst S dX6_lowestSlant_6 ?_
  refine lv_istore (lv' := [(4, .int (iI 0)), (0, .ref va), (1, .int (iI y0)), (2, .int (iI e0)), (3, .int (iI x))]) S.1 S.2.1 dX6_lowestSlant_7 hl (by decide) rfl (fun ls hl => ?_)
  have L9 : ∀ (fu : Nat) (w : Int) (uf : Int) (ut : Int) (ue : Int) (ug : Int) (ub : Int) (rv1 : RU) (H : Heap) (locs : List Loc) (ls : Array Slot), (((793 : Int) - w).toNat) < fu → (0 ≤ w ∧ w ≤ 793) → (0 ≤ ut ∧ ut ≤ nX N y0) → (ut < nX N y0 → w + MN N y0 e0 ut ≤ 793) → (∀ p : Int, 0 ≤ p → p < ut → enF N p y0 e0 ≠ x) → lv_has ls 5 [(0, .ref va), (1, .int (iI y0)), (2, .int (iI e0)), (3, .int (iI x)), (4, .int (iI w))] → gW K A s.heap [gSvyC K va sc ra y0 e0 (nX N y0) uf ut ue ug ub vw, gRayU K ra xa sha lea tma sc rv1 X2_3, gScn K sc la lb sa sb ou mi bo ln LF sn SF] H locs → W p l e { frames := 5, cells := 0, slots := 0, locals := 117 } s m ([.ref va, .int (iI y0), .int (iI e0), .int (iI x)] : List Value).toArray below meth c H locs 0 0 Q (F0 m 9 ls []) := by
    intro fu
    induction fu with
    | zero => intro w uf ut ue ug ub rv1 H locs ls hfu; exact absurd hfu (Nat.not_lt_zero _)
    | succ fu ih =>
      intro w uf ut ue ug ub rv1 H locs ls hfu hw ht hM hz hl hG
      refine lv_iload S.1 S.2.1 dX6_lowestSlant_9 (lv_at hl 4 rfl) ?_
      refine g_sipush S dX6_lowestSlant_11 (by decide) ?_
      refine g_icmp_ge (tgt := 43) S dX6_lowestSlant_14 (by decide) (by omega) (by omega) (fun q14 => ?_) (fun q14 => ?_)
      · skip
        refine g_iconst S dX6_lowestSlant_43 ?_
        have e9 : ut = nX N y0 := (by by_cases g : ut < nX N y0 <;> first | omega | (have p1 := hM g; have p2 := MN_pos hN hy he ht.1 g; omega))
        have hG : gW K A s.heap [gSvyC K va sc ra y0 e0 (nX N y0) uf ut ue ug ub vw, gRayU K ra xa sha lea tma sc rv1 X2_3, gScn K sc la lb sa sb ou mi bo ln LF sn SF] _ _ := hG
        exact g_iret S hr hlk hQ dX6_lowestSlant_44 (Nat.le_of_ble_eq_true rfl) (Nat.le_of_ble_eq_true rfl) (((-1), uf, ut, ue, ug, ub, rv1, X2_3) : Int × Int × Int × Int × Int × Int × RU × (Int → Int)) ⟨rfl, hE_3, (Or.inl ⟨rfl, by rw [← e9] <;> exact hz⟩)⟩ hG
      · skip
        refine lv_aload_n S.1 S.2.1 dX6_lowestSlant_17 rfl (lv_at hl 0 rfl) ?_
        refine g_invV (As := []) (rest := []) (gs' := (fun u : RU × Int × Int × Int => [gSvyC K va sc ra y0 e0 (nX N y0) ut u.2.1 u.2.2.1 u.2.2.2 ub vw, gRayU K ra xa sha lea tma sc u.1 X2_3, gScn K sc la lb sa sb ou mi bo ln LF sn SF])) S C hG [0, 1, 2] (c_X6_nextPart l K va y0 e0 (nX N y0) uf ut ue ug ub vw ra xa sha lea tma sc rv1 X2_3 la lb sa sb ou mi bo ln LF sn SF N hS hN hE_3 hy rfl he ht) rfl rfl 0 rfl rfl (cwV 0 S.2.2.2.2 gX6_lowestSlant_X6_nextPart rfl rfl rfl (by decide +kernel) ⟨Nat.le_of_ble_eq_true rfl, Nat.le_of_ble_eq_true rfl⟩) rfl hl.1 rfl (Nat.le_of_ble_eq_true rfl) dX6_lowestSlant_18 ⟨Nat.le_of_ble_eq_true rfl, Nat.le_of_ble_eq_true rfl⟩ (fun _ => Nat.le_of_ble_eq_true rfl) (fun _ => rfl) (fun v u H locs hp hG => ?_)
        obtain ⟨rv2_18, vt2_18, ve2_18, vg2_18⟩ := u
        obtain ⟨rfl, hp_18, hq_18⟩ := hp
        have hp_18 : ut < (nX N y0) → PartN N y0 e0 ut vt2_18 ve2_18 := hp_18
        have hq_18 : ¬ ut < (nX N y0) → vt2_18 = ut := hq_18
        have hG : gW K A s.heap [gSvyC K va sc ra y0 e0 (nX N y0) ut vt2_18 ve2_18 vg2_18 ub vw, gRayU K ra xa sha lea tma sc rv2_18 X2_3, gScn K sc la lb sa sb ou mi bo ln LF sn SF] _ _ := hG
        refine g_ifeq_b (B := (ut < (nX N y0))) (tgt := 43) S dX6_lowestSlant_21 (by decide) (fun q21 => ?_) (fun q21 => ?_)
        · skip
          refine g_iconst S dX6_lowestSlant_43 ?_
          have e9 : ut = nX N y0 := (by by_cases g : ut < nX N y0 <;> first | omega | (have p1 := hM g; have p2 := MN_pos hN hy he ht.1 g; omega))
          have hG : gW K A s.heap [gSvyC K va sc ra y0 e0 (nX N y0) ut vt2_18 ve2_18 vg2_18 ub vw, gRayU K ra xa sha lea tma sc rv2_18 X2_3, gScn K sc la lb sa sb ou mi bo ln LF sn SF] _ _ := hG
          exact g_iret S hr hlk hQ dX6_lowestSlant_44 (Nat.le_of_ble_eq_true rfl) (Nat.le_of_ble_eq_true rfl) (((-1), ut, vt2_18, ve2_18, vg2_18, ub, rv2_18, X2_3) : Int × Int × Int × Int × Int × Int × RU × (Int → Int)) ⟨rfl, hE_3, (Or.inl ⟨rfl, by rw [← e9] <;> exact hz⟩)⟩ hG
        · skip
          have hP := hp_18 q21
          obtain ⟨⟨hP1, hP2⟩, hP3, hP4, hP5, hP6⟩ := id hP
          have b1 := enF_bd N ut y0 e0
          refine lv_aload_n S.1 S.2.1 dX6_lowestSlant_24 rfl (lv_at hl 0 rfl) ?_
          refine g_get S C hG iX60 0 rfl rfl 7 (by decide) (List.mem_of_getElem? (i := 1) rfl) rfl dX6_lowestSlant_25 ?_
          refine lv_iload_n S.1 S.2.1 dX6_lowestSlant_28 rfl (lv_at hl 3 rfl) ?_
          refine g_icmp_ne (tgt := 37) S dX6_lowestSlant_29 (by decide) (by omega) (by omega) (fun q29 => ?_) (fun q29 => ?_)
          · skip
            refine lv_iinc (v := iI (w + 1)) (lv' := [(4, .int (iI (w + 1))), (0, .ref va), (1, .int (iI y0)), (2, .int (iI e0)), (3, .int (iI x))]) S.1 S.2.1 dX6_lowestSlant_37 hl (k := 4) rfl (g_iinc rfl) (by decide) rfl (fun ls hl => ?_)
            refine lv_goto (tgt := 9) S.1 S.2.1 dX6_lowestSlant_40 (by decide) ?_
            exact ih (w + 1) ut vt2_18 ve2_18 vg2_18 ub rv2_18 _ _ _ (by omega) (by omega) (by omega) (fun q => by have p1 := hP5 q <;> have p2 := hM q21 <;> omega) (fun p a b => if q : p < ut then hz p a q else by rw [(hP4 p (by omega) b).2.1] <;> exact q29) (lv_sub hl [1, 2, 3, 4, 0] rfl) hG
          · skip
            refine lv_aload_n S.1 S.2.1 dX6_lowestSlant_32 rfl (lv_at hl 0 rfl) ?_
            refine g_get S C hG iX60 0 rfl rfl 5 (by decide) (List.mem_of_getElem? (i := 2) rfl) rfl dX6_lowestSlant_33 ?_
            have hG : gW K A s.heap [gSvyC K va sc ra y0 e0 (nX N y0) ut vt2_18 ve2_18 vg2_18 ub vw, gRayU K ra xa sha lea tma sc rv2_18 X2_3, gScn K sc la lb sa sb ou mi bo ln LF sn SF] _ _ := hG
            exact g_iret S hr hlk hQ dX6_lowestSlant_36 (Nat.le_of_ble_eq_true rfl) (Nat.le_of_ble_eq_true rfl) ((ut, ut, vt2_18, ve2_18, vg2_18, ub, rv2_18, X2_3) : Int × Int × Int × Int × Int × Int × RU × (Int → Int)) ⟨rfl, hE_3, (Or.inr ⟨⟨ht.1, q21⟩, by rw [← hP3] <;> exact q29, hz⟩)⟩ hG
  exact L9 (Nat.succ (((793 : Int) - 0).toNat)) 0 vf 0 ve vg (-1) rv _ _ _ (Nat.lt_succ_self _) (by omega) (by omega) (fun _ => by have := MN_0 hN hy he <;> omega) (fun p a b => by omega) (lv_sub hl [1, 2, 3, 4, 0] rfl) hG
