set_option maxHeartbeats 1000000 in
set_option maxRecDepth 100000 in
theorem c_X6_scoreFor_0 (l : Launch) (K : KC) (va : Nat) (vl : Int) (vd : Int) (vn : Int) (vf : Int) (vt : Int) (ve : Int) (vg : Int) (vb : Int) (vw : Int) (ra : Nat) (xa : Nat) (sha : Nat) (lea : Nat) (tma : Nat) (sc : Nat) (rv : RU) (XF : Int → Int) : mG l yX6_scoreFor wsX6_scoreFor 0 0 K [.ref va, .int (iI 0)] [gSvyC K va sc ra vl vd vn vf vt ve vg vb vw, gRayU K ra xa sha lea tma sc rv XF] (fun (v : Value) (u : Unit) => (v = .int (iI (-rv.2.2.2.2.2.2.2.1)))) (fun (u : Unit) => [gSvyC K va sc ra vl vd vn vf vt ve vg vb vw, gRayU K ra xa sha lea tma sc rv XF]) 0 0 := by
  refine mG_of cX6_scoreFor 2 (by decide) rfl (Nat.le_of_ble_eq_true rfl) ?_
  intro p e s m below meth c A ls Q S C hG hl hr hlk hin hQ
  have S : CallFix p m c cX6_scoreFor 2 s ([.ref va, .int (iI 0)] : List Value).toArray wsX6_scoreFor RX6 := S
  have iX60 : ∀ w ∈ wsX60, w ∈ wsX6_scoreFor := fun _ h => List.mem_cons_of_mem _ (List.mem_append_left _ (List.mem_append_right _ (h)))
  have iX40 : ∀ w ∈ wsX40, w ∈ wsX6_scoreFor := fun _ h => List.mem_cons_of_mem _ (List.mem_append_right _ (h))
  have hl : lv_has ls 2 [(0, .ref va), (1, .int (iI 0))] := hl
  have hG : gW K A s.heap [gSvyC K va sc ra vl vd vn vf vt ve vg vb vw, gRayU K ra xa sha lea tma sc rv XF] s.heap [] := hG
  refine lv_iload_n S.1 S.2.1 dX6_scoreFor_0 rfl (lv_at hl 1 rfl) ?_
  refine lv_lookup (off := 27) (tgt := 28) S.1 S.2.1 dX6_scoreFor_1 (by decide) (by decide) (by decide) ?_
  refine lv_aload_n S.1 S.2.1 dX6_scoreFor_28 rfl (lv_at hl 0 rfl) ?_
  refine g_get S C hG iX60 0 rfl rfl 1 (by decide) (List.mem_of_getElem? (i := 1) rfl) rfl dX6_scoreFor_29 ?_
  refine g_get S C hG iX40 1 rfl rfl 12 (by decide) (List.mem_of_getElem? (i := 2) rfl) rfl dX6_scoreFor_32 ?_
  refine g_ineg S dX6_scoreFor_35 rfl ?_
  have hG : gW K A s.heap [gSvyC K va sc ra vl vd vn vf vt ve vg vb vw, gRayU K ra xa sha lea tma sc rv XF] _ _ := hG
  exact g_iret S hr hlk hQ dX6_scoreFor_36 (Nat.le_of_ble_eq_true rfl) (Nat.le_of_ble_eq_true rfl) (() : Unit) rfl hG

set_option maxHeartbeats 1000000 in
set_option maxRecDepth 100000 in
theorem c_X6_scoreFor_1 (l : Launch) (K : KC) (va : Nat) (vl : Int) (vd : Int) (vn : Int) (vf : Int) (vt : Int) (ve : Int) (vg : Int) (vb : Int) (vw : Int) (ra : Nat) (xa : Nat) (sha : Nat) (lea : Nat) (tma : Nat) (sc : Nat) (rv : RU) (XF : Int → Int) : mG l yX6_scoreFor wsX6_scoreFor 0 0 K [.ref va, .int (iI 1)] [gSvyC K va sc ra vl vd vn vf vt ve vg vb vw, gRayU K ra xa sha lea tma sc rv XF] (fun (v : Value) (u : Unit) => (v = .int (iI rv.2.2.2.2.2.2.2.2.1))) (fun (u : Unit) => [gSvyC K va sc ra vl vd vn vf vt ve vg vb vw, gRayU K ra xa sha lea tma sc rv XF]) 0 0 := by
  refine mG_of cX6_scoreFor 2 (by decide) rfl (Nat.le_of_ble_eq_true rfl) ?_
  intro p e s m below meth c A ls Q S C hG hl hr hlk hin hQ
  have S : CallFix p m c cX6_scoreFor 2 s ([.ref va, .int (iI 1)] : List Value).toArray wsX6_scoreFor RX6 := S
  have iX60 : ∀ w ∈ wsX60, w ∈ wsX6_scoreFor := fun _ h => List.mem_cons_of_mem _ (List.mem_append_left _ (List.mem_append_right _ (h)))
  have iX40 : ∀ w ∈ wsX40, w ∈ wsX6_scoreFor := fun _ h => List.mem_cons_of_mem _ (List.mem_append_right _ (h))
  have hl : lv_has ls 2 [(0, .ref va), (1, .int (iI 1))] := hl
  have hG : gW K A s.heap [gSvyC K va sc ra vl vd vn vf vt ve vg vb vw, gRayU K ra xa sha lea tma sc rv XF] s.heap [] := hG
  refine lv_iload_n S.1 S.2.1 dX6_scoreFor_0 rfl (lv_at hl 1 rfl) ?_
  refine lv_lookup (off := 36) (tgt := 37) S.1 S.2.1 dX6_scoreFor_1 (by decide) (by decide) (by decide) ?_
  refine lv_aload_n S.1 S.2.1 dX6_scoreFor_37 rfl (lv_at hl 0 rfl) ?_
  refine g_get S C hG iX60 0 rfl rfl 1 (by decide) (List.mem_of_getElem? (i := 1) rfl) rfl dX6_scoreFor_38 ?_
  refine g_get S C hG iX40 1 rfl rfl 13 (by decide) (List.mem_of_getElem? (i := 3) rfl) rfl dX6_scoreFor_41 ?_
  have hG : gW K A s.heap [gSvyC K va sc ra vl vd vn vf vt ve vg vb vw, gRayU K ra xa sha lea tma sc rv XF] _ _ := hG
  exact g_iret S hr hlk hQ dX6_scoreFor_44 (Nat.le_of_ble_eq_true rfl) (Nat.le_of_ble_eq_true rfl) (() : Unit) rfl hG

set_option maxHeartbeats 1000000 in
set_option maxRecDepth 100000 in
theorem c_X6_scoreFor_2 (l : Launch) (K : KC) (va : Nat) (vl : Int) (vd : Int) (vn : Int) (vf : Int) (vt : Int) (ve : Int) (vg : Int) (vb : Int) (vw : Int) (ra : Nat) (xa : Nat) (sha : Nat) (lea : Nat) (tma : Nat) (sc : Nat) (rv : RU) (XF : Int → Int) : mG l yX6_scoreFor wsX6_scoreFor 0 0 K [.ref va, .int (iI 2)] [gSvyC K va sc ra vl vd vn vf vt ve vg vb vw, gRayU K ra xa sha lea tma sc rv XF] (fun (v : Value) (u : Unit) => (v = .int (iI rv.2.2.2.2.2.1))) (fun (u : Unit) => [gSvyC K va sc ra vl vd vn vf vt ve vg vb vw, gRayU K ra xa sha lea tma sc rv XF]) 0 0 := by
  refine mG_of cX6_scoreFor 2 (by decide) rfl (Nat.le_of_ble_eq_true rfl) ?_
  intro p e s m below meth c A ls Q S C hG hl hr hlk hin hQ
  have S : CallFix p m c cX6_scoreFor 2 s ([.ref va, .int (iI 2)] : List Value).toArray wsX6_scoreFor RX6 := S
  have iX60 : ∀ w ∈ wsX60, w ∈ wsX6_scoreFor := fun _ h => List.mem_cons_of_mem _ (List.mem_append_left _ (List.mem_append_right _ (h)))
  have iX40 : ∀ w ∈ wsX40, w ∈ wsX6_scoreFor := fun _ h => List.mem_cons_of_mem _ (List.mem_append_right _ (h))
  have hl : lv_has ls 2 [(0, .ref va), (1, .int (iI 2))] := hl
  have hG : gW K A s.heap [gSvyC K va sc ra vl vd vn vf vt ve vg vb vw, gRayU K ra xa sha lea tma sc rv XF] s.heap [] := hG
  refine lv_iload_n S.1 S.2.1 dX6_scoreFor_0 rfl (lv_at hl 1 rfl) ?_
  refine lv_lookup (off := 44) (tgt := 45) S.1 S.2.1 dX6_scoreFor_1 (by decide) (by decide) (by decide) ?_
  refine lv_aload_n S.1 S.2.1 dX6_scoreFor_45 rfl (lv_at hl 0 rfl) ?_
  refine g_get S C hG iX60 0 rfl rfl 1 (by decide) (List.mem_of_getElem? (i := 1) rfl) rfl dX6_scoreFor_46 ?_
  refine g_get S C hG iX40 1 rfl rfl 10 (by decide) (List.mem_of_getElem? (i := 4) rfl) rfl dX6_scoreFor_49 ?_
  have hG : gW K A s.heap [gSvyC K va sc ra vl vd vn vf vt ve vg vb vw, gRayU K ra xa sha lea tma sc rv XF] _ _ := hG
  exact g_iret S hr hlk hQ dX6_scoreFor_52 (Nat.le_of_ble_eq_true rfl) (Nat.le_of_ble_eq_true rfl) (() : Unit) rfl hG

set_option maxHeartbeats 1000000 in
set_option maxRecDepth 100000 in
theorem c_X6_findBest_0 (l : Launch) (K : KC) (va : Nat) (vl : Int) (vd : Int) (vn : Int) (vf : Int) (vt : Int) (ve : Int) (vg : Int) (vb : Int) (vw : Int) (ra : Nat) (xa : Nat) (sha : Nat) (lea : Nat) (tma : Nat) (sc : Nat) (rv : RU) (XF : Int → Int) (la : Nat) (lb : Nat) (sa : Nat) (sb : Nat) (ou : Int) (mi : Int) (bo : Int) (ln : Int) (LF : Int → Int) (sn : Int) (SF : Int → Int) (N : Int → Int) (y0 : Int) (e0 : Int) (x : Int) (hS : ScOk N ou mi bo ln LF sn SF) (hN : NOk0 N) (hy : 0 ≤ y0 ∧ y0 < N 0) (he : e0 = 0 ∨ e0 = 1) (hx : 0 ≤ x ∧ x ≤ 4) (hvw : -3000000000 ≤ vw ∧ vw ≤ 3000000000) : mV l yX6_findBest wsX6_findBest 5 117 K [.ref va, .int (iI y0), .int (iI e0), .int (iI x), .int (iI 0)] [gSvyC K va sc ra vl vd vn vf vt ve vg vb vw, gRayU K ra xa sha lea tma sc rv XF, gScn K sc la lb sa sb ou mi bo ln LF sn SF] (fun (u : Int × Int × Int × Int × Int × Int × RU × (Int → Int)) => (EntOk N u.2.2.2.2.2.2.2) ∧ (BestI N y0 e0 x (scG N y0 e0 0) ((0 : Int) ≠ 2) (nX N y0) u.2.2.2.2.1 u.2.2.2.2.2.1) ∧ (-3000000000 ≤ u.2.2.2.2.2.1 ∧ u.2.2.2.2.2.1 ≤ 3000000000)) (fun (u : Int × Int × Int × Int × Int × Int × RU × (Int → Int)) => [gSvyC K va sc ra y0 e0 (nX N y0) u.1 u.2.1 u.2.2.1 u.2.2.2.1 u.2.2.2.2.1 u.2.2.2.2.2.1, gRayU K ra xa sha lea tma sc u.2.2.2.2.2.2.1 u.2.2.2.2.2.2.2, gScn K sc la lb sa sb ou mi bo ln LF sn SF]) 0 0 := by
  refine mV_of cX6_findBest 7 (by decide) rfl (Nat.le_of_ble_eq_true rfl) ?_
  intro p e s m below meth c A ls Q S C hG hl hr hlk hin hQ
  have S : CallFix p m c cX6_findBest 7 s ([.ref va, .int (iI y0), .int (iI e0), .int (iI x), .int (iI 0)] : List Value).toArray wsX6_findBest RX6 := S
  have iX60 : ∀ w ∈ wsX60, w ∈ wsX6_findBest := fun _ h => List.mem_cons_of_mem _ (List.mem_append_left _ (List.mem_append_left _ (List.mem_append_left _ (List.mem_append_right _ (h)))))
  have iX40 : ∀ w ∈ wsX40, w ∈ wsX6_findBest := fun _ h => List.mem_cons_of_mem _ (List.mem_append_left _ (List.mem_append_left _ (List.mem_append_right _ (h))))
  have iX50 : ∀ w ∈ wsX50, w ∈ wsX6_findBest := fun _ h => List.mem_cons_of_mem _ (List.mem_append_left _ (List.mem_append_right _ (h)))
  have iX70 : ∀ w ∈ wsX70, w ∈ wsX6_findBest := fun _ h => List.mem_cons_of_mem _ (List.mem_append_right _ (h))
  have hl : lv_has ls 7 [(0, .ref va), (1, .int (iI y0)), (2, .int (iI e0)), (3, .int (iI x)), (4, .int (iI 0))] := hl
  have hG : gW K A s.heap [gSvyC K va sc ra vl vd vn vf vt ve vg vb vw, gRayU K ra xa sha lea tma sc rv XF, gScn K sc la lb sa sb ou mi bo ln LF sn SF] s.heap [] := hG
  obtain ⟨e0_, e1, e2, e3, e4, e5, e6⟩ := id hS
  have n0 := hN.1
  have nx := (lay_bd hN hy.1 hy.2).1
  refine lv_aload_n S.1 S.2.1 dX6_findBest_0 rfl (lv_at hl 0 rfl) ?_
  refine lv_iload_n S.1 S.2.1 dX6_findBest_1 rfl (lv_at hl 1 rfl) ?_
  refine lv_iload_n S.1 S.2.1 dX6_findBest_2 rfl (lv_at hl 2 rfl) ?_
  refine g_invVv (As := [.int (iI y0), .int (iI e0)]) (rest := []) (gs' := (fun u : (Int → Int) => [gSvyC K va sc ra y0 e0 (nX N y0) vf 0 ve vg (-1) vw, gRayU K ra xa sha lea tma sc rv u, gScn K sc la lb sa sb ou mi bo ln LF sn SF])) S C hG [0, 1, 2] (c_X6_start l K va vl vd vn vf vt ve vg vb vw ra xa sha lea tma sc rv XF la lb sa sb ou mi bo ln LF sn SF N y0 e0 hS hN hy he) rfl rfl 0 rfl rfl (cwV 2 S.2.2.2.2 gX6_findBest_X6_start rfl rfl rfl (by decide +kernel) ⟨Nat.le_of_ble_eq_true rfl, Nat.le_of_ble_eq_true rfl⟩) rfl hl.1 rfl (Nat.le_of_ble_eq_true rfl) dX6_findBest_3 ⟨Nat.le_of_ble_eq_true rfl, Nat.le_of_ble_eq_true rfl⟩ (fun _ => Nat.le_of_ble_eq_true rfl) (fun _ => rfl) (fun u H locs hp hG => ?_)
  obtain ⟨X2_3, rfl⟩ : ∃ z, z = u := ⟨_, rfl⟩
  have hE_3 := hp
  have hE_3 : EntOk N X2_3 := hE_3
  have hG : gW K A s.heap [gSvyC K va sc ra y0 e0 (nX N y0) vf 0 ve vg (-1) vw, gRayU K ra xa sha lea tma sc rv X2_3, gScn K sc la lb sa sb ou mi bo ln LF sn SF] _ _ := hG
  refine g_iconst S dX6_findBest_6 ?_
  refine lv_istore (lv' := [(5, .int (iI 0)), (0, .ref va), (1, .int (iI y0)), (2, .int (iI e0)), (3, .int (iI x)), (4, .int (iI 0))]) S.1 S.2.1 dX6_findBest_7 hl (by decide) rfl (fun ls hl => ?_)
  have L9 : ∀ (fu : Nat) (w : Int) (uf : Int) (ut : Int) (ue : Int) (ug : Int) (ub : Int) (uw : Int) (rv1 : RU) (H : Heap) (locs : List Loc) (ls : Array Slot), (((793 : Int) - w).toNat) < fu → (0 ≤ w ∧ w ≤ 793) → (0 ≤ ut ∧ ut ≤ nX N y0) → (ut < nX N y0 → w + MN N y0 e0 ut ≤ 793) → (-1 ≤ ub ∧ ub ≤ 4000) → (-3000000000 ≤ uw ∧ uw ≤ 3000000000) → (BestI N y0 e0 x (scG N y0 e0 0) ((0 : Int) ≠ 2) ut ub uw) → lv_has ls 7 [(0, .ref va), (1, .int (iI y0)), (2, .int (iI e0)), (3, .int (iI x)), (4, .int (iI 0)), (5, .int (iI w))] → gW K A s.heap [gSvyC K va sc ra y0 e0 (nX N y0) uf ut ue ug ub uw, gRayU K ra xa sha lea tma sc rv1 X2_3, gScn K sc la lb sa sb ou mi bo ln LF sn SF] H locs → W p l e { frames := 5, cells := 0, slots := 0, locals := 117 } s m ([.ref va, .int (iI y0), .int (iI e0), .int (iI x), .int (iI 0)] : List Value).toArray below meth c H locs 0 0 Q (F0 m 9 ls []) := by
    intro fu
    induction fu with
    | zero => intro w uf ut ue ug ub uw rv1 H locs ls hfu; exact absurd hfu (Nat.not_lt_zero _)
    | succ fu ih =>
      intro w uf ut ue ug ub uw rv1 H locs ls hfu hw ht hM hub huw hB hl hG
      refine lv_iload S.1 S.2.1 dX6_findBest_9 (lv_at hl 5 rfl) ?_
      refine g_sipush S dX6_findBest_11 (by decide) ?_
      refine g_icmp_ge (tgt := 89) S dX6_findBest_14 (by decide) (by omega) (by omega) (fun q14 => ?_) (fun q14 => ?_)
      · skip
        have e9 : ut = nX N y0 := (by by_cases g : ut < nX N y0 <;> first | omega | (have p1 := hM g; have p2 := MN_pos hN hy he ht.1 g; omega))
        have hG : gW K A s.heap [gSvyC K va sc ra y0 e0 (nX N y0) uf ut ue ug ub uw, gRayU K ra xa sha lea tma sc rv1 X2_3, gScn K sc la lb sa sb ou mi bo ln LF sn SF] _ _ := hG
        exact g_vret S hr hlk hQ dX6_findBest_89 (Nat.le_of_ble_eq_true rfl) (Nat.le_of_ble_eq_true rfl) ((uf, ut, ue, ug, ub, uw, rv1, X2_3) : Int × Int × Int × Int × Int × Int × RU × (Int → Int)) ⟨hE_3, (e9 ▸ hB), huw⟩ hG
      · skip
        refine lv_aload_n S.1 S.2.1 dX6_findBest_17 rfl (lv_at hl 0 rfl) ?_
        refine g_invV (As := []) (rest := []) (gs' := (fun u : RU × Int × Int × Int => [gSvyC K va sc ra y0 e0 (nX N y0) ut u.2.1 u.2.2.1 u.2.2.2 ub uw, gRayU K ra xa sha lea tma sc u.1 X2_3, gScn K sc la lb sa sb ou mi bo ln LF sn SF])) S C hG [0, 1, 2] (c_X6_nextPart l K va y0 e0 (nX N y0) uf ut ue ug ub uw ra xa sha lea tma sc rv1 X2_3 la lb sa sb ou mi bo ln LF sn SF N hS hN hE_3 hy rfl he ht) rfl rfl 0 rfl rfl (cwV 0 S.2.2.2.2 gX6_findBest_X6_nextPart rfl rfl rfl (by decide +kernel) ⟨Nat.le_of_ble_eq_true rfl, Nat.le_of_ble_eq_true rfl⟩) rfl hl.1 rfl (Nat.le_of_ble_eq_true rfl) dX6_findBest_18 ⟨Nat.le_of_ble_eq_true rfl, Nat.le_of_ble_eq_true rfl⟩ (fun _ => Nat.le_of_ble_eq_true rfl) (fun _ => rfl) (fun v u H locs hp hG => ?_)
        obtain ⟨rv2_18, vt2_18, ve2_18, vg2_18⟩ := u
        obtain ⟨rfl, hp_18, hq_18⟩ := hp
        have hp_18 : ut < (nX N y0) → PartN N y0 e0 ut vt2_18 ve2_18 := hp_18
        have hq_18 : ¬ ut < (nX N y0) → vt2_18 = ut := hq_18
        have hG : gW K A s.heap [gSvyC K va sc ra y0 e0 (nX N y0) ut vt2_18 ve2_18 vg2_18 ub uw, gRayU K ra xa sha lea tma sc rv2_18 X2_3, gScn K sc la lb sa sb ou mi bo ln LF sn SF] _ _ := hG
        refine g_ifeq_b (B := (ut < (nX N y0))) (tgt := 89) S dX6_findBest_21 (by decide) (fun q21 => ?_) (fun q21 => ?_)
        · skip
          have e9 : ut = nX N y0 := (by by_cases g : ut < nX N y0 <;> first | omega | (have p1 := hM g; have p2 := MN_pos hN hy he ht.1 g; omega))
          have hG : gW K A s.heap [gSvyC K va sc ra y0 e0 (nX N y0) ut vt2_18 ve2_18 vg2_18 ub uw, gRayU K ra xa sha lea tma sc rv2_18 X2_3, gScn K sc la lb sa sb ou mi bo ln LF sn SF] _ _ := hG
          exact g_vret S hr hlk hQ dX6_findBest_89 (Nat.le_of_ble_eq_true rfl) (Nat.le_of_ble_eq_true rfl) ((ut, vt2_18, ve2_18, vg2_18, ub, uw, rv2_18, X2_3) : Int × Int × Int × Int × Int × Int × RU × (Int → Int)) ⟨hE_3, (e9 ▸ hB), huw⟩ hG
        · skip
          have hP := hp_18 q21
          obtain ⟨⟨hP1, hP2⟩, hP3, hP4, hP5, hP6⟩ := id hP
          have b1 := enF_bd N ut y0 e0
          refine lv_aload_n S.1 S.2.1 dX6_findBest_24 rfl (lv_at hl 0 rfl) ?_
          refine g_get S C hG iX60 0 rfl rfl 7 (by decide) (List.mem_of_getElem? (i := 1) rfl) rfl dX6_findBest_25 ?_
          refine lv_iload_n S.1 S.2.1 dX6_findBest_28 rfl (lv_at hl 3 rfl) ?_
          refine g_icmp_ne (tgt := 83) S dX6_findBest_29 (by decide) (by omega) (by omega) (fun q29 => ?_) (fun q29 => ?_)
          · skip
            refine lv_iinc (v := iI (w + 1)) (lv' := [(5, .int (iI (w + 1))), (0, .ref va), (1, .int (iI y0)), (2, .int (iI e0)), (3, .int (iI x)), (4, .int (iI 0))]) S.1 S.2.1 dX6_findBest_83 hl (k := 5) rfl (g_iinc rfl) (by decide) rfl (fun ls hl => ?_)
            refine lv_goto (tgt := 9) S.1 S.2.1 dX6_findBest_86 (by decide) ?_
            exact ih (w + 1) ut vt2_18 ve2_18 vg2_18 ub uw rv2_18 _ _ _ (by omega) (by omega) (by omega) (fun q => by have p1 := hP5 q <;> have p2 := hM q21 <;> omega) (by omega) (by omega) (hB.skip (by omega) (fun p a b => by rw [(hP4 p a b).2.1] <;> exact q29)) (lv_sub hl [1, 2, 3, 4, 5, 0] rfl) hG
          · skip
            refine lv_iload S.1 S.2.1 dX6_findBest_32 (lv_at hl 4 rfl) ?_
            refine g_iconst S dX6_findBest_34 ?_
            refine g_icmp_ne (tgt := 47) S dX6_findBest_35 (by decide) (by omega) (by omega) (fun q35 => ?_) (fun q35 => ?_)
            · skip
              refine lv_aload_n S.1 S.2.1 dX6_findBest_47 rfl (lv_at hl 0 rfl) ?_
              refine g_get S C hG iX60 0 rfl rfl 5 (by decide) (List.mem_of_getElem? (i := 3) rfl) rfl dX6_findBest_48 ?_
              refine lv_istore (lv' := [(6, .int (iI ut)), (0, .ref va), (1, .int (iI y0)), (2, .int (iI e0)), (3, .int (iI x)), (4, .int (iI 0)), (5, .int (iI w))]) S.1 S.2.1 dX6_findBest_51 hl (by decide) rfl (fun ls hl => ?_)
              refine lv_aload_n S.1 S.2.1 dX6_findBest_53 rfl (lv_at hl 1 rfl) ?_
              refine g_get S C hG iX60 0 rfl rfl 1 (by decide) (List.mem_of_getElem? (i := 4) rfl) rfl dX6_findBest_54 ?_
              refine lv_aload_n S.1 S.2.1 dX6_findBest_57 rfl (lv_at hl 1 rfl) ?_
              refine g_get S C hG iX60 0 rfl rfl 2 (by decide) (List.mem_of_getElem? (i := 5) rfl) rfl dX6_findBest_58 ?_
              refine lv_aload_n S.1 S.2.1 dX6_findBest_61 rfl (lv_at hl 1 rfl) ?_
              refine g_get S C hG iX60 0 rfl rfl 3 (by decide) (List.mem_of_getElem? (i := 6) rfl) rfl dX6_findBest_62 ?_
              refine lv_iload S.1 S.2.1 dX6_findBest_65 (lv_at hl 0 rfl) ?_
              refine g_invVv (As := [.int (iI y0), .int (iI e0), .int (iI ut)]) (rest := []) (gs' := (fun u : RU => [gSvyC K va sc ra y0 e0 (nX N y0) ut vt2_18 ve2_18 vg2_18 ub uw, gRayU K ra xa sha lea tma sc u X2_3, gScn K sc la lb sa sb ou mi bo ln LF sn SF])) S C hG [1, 2] (c_X4_runU l K ra xa sha lea tma sc rv2_18 X2_3 la lb sa sb ou mi bo ln LF sn SF N y0 e0 ut hS hN hE_3 (by omega) (by omega) he) rfl rfl 0 rfl rfl (cwV 3 S.2.2.2.2 gX6_findBest_X4_run rfl rfl rfl (by decide +kernel) ⟨Nat.le_of_ble_eq_true rfl, Nat.le_of_ble_eq_true rfl⟩) rfl hl.1 rfl (Nat.le_of_ble_eq_true rfl) dX6_findBest_67 ⟨Nat.le_of_ble_eq_true rfl, Nat.le_of_ble_eq_true rfl⟩ (fun _ => Nat.le_of_ble_eq_true rfl) (fun _ => rfl) (fun u H locs hp hG => ?_)
              obtain ⟨rv2_67, rfl⟩ : ∃ z, z = u := ⟨_, rfl⟩
              have hr_67 := hp
              have hr_67 : ResU N ut y0 e0 rv2_67 := hr_67
              have hG : gW K A s.heap [gSvyC K va sc ra y0 e0 (nX N y0) ut vt2_18 ve2_18 vg2_18 ub uw, gRayU K ra xa sha lea tma sc rv2_67 X2_3, gScn K sc la lb sa sb ou mi bo ln LF sn SF] _ _ := hG
              refine lv_aload_n S.1 S.2.1 dX6_findBest_70 rfl (lv_at hl 1 rfl) ?_
              refine lv_iload S.1 S.2.1 dX6_findBest_71 (lv_at hl 0 rfl) ?_
              refine lv_aload_n S.1 S.2.1 dX6_findBest_73 rfl (lv_at hl 1 rfl) ?_
              refine lv_iload S.1 S.2.1 dX6_findBest_74 (lv_at hl 5 rfl) ?_
              have sb9 := shF_bd hN (show 0 ≤ ut by omega) he (y := y0)
              have hs1 : -200000000 ≤ scG N y0 e0 0 (ut) ∧ scG N y0 e0 0 (ut) ≤ 200000000 := by unfold scG <;> (repeat' split) <;> omega
              have hsr : -3000000000 ≤ scG N y0 e0 0 (ut) ∧ scG N y0 e0 0 (ut) ≤ 3000000000 := by omega
              refine g_invV (As := [.int (iI 0)]) (rest := [.int (iI ut), .ref va]) (gs' := (fun u : Unit => [gSvyC K va sc ra y0 e0 (nX N y0) ut vt2_18 ve2_18 vg2_18 ub uw, gRayU K ra xa sha lea tma sc rv2_67 X2_3, gScn K sc la lb sa sb ou mi bo ln LF sn SF])) S C hG [0, 1] (c_X6_scoreFor_0 l K va y0 e0 (nX N y0) ut vt2_18 ve2_18 vg2_18 ub uw ra xa sha lea tma sc rv2_67 X2_3) rfl rfl 0 rfl rfl (cwV 1 S.2.2.2.2 gX6_findBest_X6_scoreFor rfl rfl rfl (by decide +kernel) ⟨Nat.le_of_ble_eq_true rfl, Nat.le_of_ble_eq_true rfl⟩) rfl hl.1 rfl (Nat.le_of_ble_eq_true rfl) dX6_findBest_76 ⟨Nat.le_of_ble_eq_true rfl, Nat.le_of_ble_eq_true rfl⟩ (fun _ => Nat.le_of_ble_eq_true rfl) (fun _ => rfl) (fun v u H locs hp hG => ?_)
              subst hp
              refine g_top (w := .int (iI (scG N y0 e0 0 (ut)))) (congrArg (fun z : Int => Value.int (iI z)) (by rw [hr_67.f.2.2.2.1] <;> rfl)) ?_
              refine g_i2l S dX6_findBest_79 (by omega) ?_
              refine g_invVv (As := [.int (iI ut), .long (iL (scG N y0 e0 0 (ut)))]) (rest := []) (gs' := (fun u : Int × Int => [gSvyC K va sc ra y0 e0 (nX N y0) ut vt2_18 ve2_18 vg2_18 u.1 u.2, gRayU K ra xa sha lea tma sc rv2_67 X2_3, gScn K sc la lb sa sb ou mi bo ln LF sn SF])) S C hG [0] (c_X6_consider l K va y0 e0 (nX N y0) ut vt2_18 ve2_18 vg2_18 ub uw sc ra ut (scG N y0 e0 0 (ut)) hub huw hsr) rfl rfl 0 rfl rfl (cwV 2 S.2.2.2.2 gX6_findBest_X6_consider rfl rfl rfl (by decide +kernel) ⟨Nat.le_of_ble_eq_true rfl, Nat.le_of_ble_eq_true rfl⟩) rfl hl.1 rfl (Nat.le_of_ble_eq_true rfl) dX6_findBest_80 ⟨Nat.le_of_ble_eq_true rfl, Nat.le_of_ble_eq_true rfl⟩ (fun _ => Nat.le_of_ble_eq_true rfl) (fun _ => rfl) (fun u H locs hp hG => ?_)
              obtain ⟨vb2_80, vw2_80⟩ := u
              have hc_80 := hp
              have hc_80 : ConS ub uw ut (scG N y0 e0 0 (ut)) vb2_80 vw2_80 := hc_80
              have hG : gW K A s.heap [gSvyC K va sc ra y0 e0 (nX N y0) ut vt2_18 ve2_18 vg2_18 vb2_80 vw2_80, gRayU K ra xa sha lea tma sc rv2_67 X2_3, gScn K sc la lb sa sb ou mi bo ln LF sn SF] _ _ := hG
              refine lv_iinc (v := iI (w + 1)) (lv' := [(5, .int (iI (w + 1))), (6, .int (iI ut)), (0, .ref va), (1, .int (iI y0)), (2, .int (iI e0)), (3, .int (iI x)), (4, .int (iI 0))]) S.1 S.2.1 dX6_findBest_83 hl (k := 6) rfl (g_iinc rfl) (by decide) rfl (fun ls hl => ?_)
              refine lv_goto (tgt := 9) S.1 S.2.1 dX6_findBest_86 (by decide) ?_
              exact ih (w + 1) ut vt2_18 ve2_18 vg2_18 vb2_80 vw2_80 rv2_67 _ _ _ (by omega) (by omega) (by omega) (fun q => by have p1 := hP5 q <;> have p2 := hM q21 <;> omega) (hc_80.bd1 hub (by omega)) (hc_80.bd huw hsr) (q29 ▸ PartN.best hN hP hy he ht.1 (by decide) (by rw [q29] <;> exact hB) (by first | rfl | exact (if_pos rfl).symm | exact (if_neg (by decide)).symm) hc_80) (lv_sub hl [2, 3, 4, 5, 6, 0] rfl) hG
            · skip
              exact absurd q35 (by decide)
  exact L9 (Nat.succ (((793 : Int) - 0).toNat)) 0 vf 0 ve vg (-1) vw rv _ _ _ (Nat.lt_succ_self _) (by omega) (by omega) (fun _ => by have := MN_0 hN hy he <;> omega) (by omega) (by omega) (Or.inl ⟨rfl, fun p a b => by omega⟩) (lv_sub hl [1, 2, 3, 4, 5, 0] rfl) hG

set_option maxHeartbeats 1000000 in
set_option maxRecDepth 100000 in
theorem c_X6_findBest_1 (l : Launch) (K : KC) (va : Nat) (vl : Int) (vd : Int) (vn : Int) (vf : Int) (vt : Int) (ve : Int) (vg : Int) (vb : Int) (vw : Int) (ra : Nat) (xa : Nat) (sha : Nat) (lea : Nat) (tma : Nat) (sc : Nat) (rv : RU) (XF : Int → Int) (la : Nat) (lb : Nat) (sa : Nat) (sb : Nat) (ou : Int) (mi : Int) (bo : Int) (ln : Int) (LF : Int → Int) (sn : Int) (SF : Int → Int) (N : Int → Int) (y0 : Int) (e0 : Int) (x : Int) (hS : ScOk N ou mi bo ln LF sn SF) (hN : NOk0 N) (hy : 0 ≤ y0 ∧ y0 < N 0) (he : e0 = 0 ∨ e0 = 1) (hx : 0 ≤ x ∧ x ≤ 4) (hvw : -3000000000 ≤ vw ∧ vw ≤ 3000000000) : mV l yX6_findBest wsX6_findBest 5 117 K [.ref va, .int (iI y0), .int (iI e0), .int (iI x), .int (iI 1)] [gSvyC K va sc ra vl vd vn vf vt ve vg vb vw, gRayU K ra xa sha lea tma sc rv XF, gScn K sc la lb sa sb ou mi bo ln LF sn SF] (fun (u : Int × Int × Int × Int × Int × Int × RU × (Int → Int)) => (EntOk N u.2.2.2.2.2.2.2) ∧ (BestI N y0 e0 x (scG N y0 e0 1) ((1 : Int) ≠ 2) (nX N y0) u.2.2.2.2.1 u.2.2.2.2.2.1) ∧ (-3000000000 ≤ u.2.2.2.2.2.1 ∧ u.2.2.2.2.2.1 ≤ 3000000000)) (fun (u : Int × Int × Int × Int × Int × Int × RU × (Int → Int)) => [gSvyC K va sc ra y0 e0 (nX N y0) u.1 u.2.1 u.2.2.1 u.2.2.2.1 u.2.2.2.2.1 u.2.2.2.2.2.1, gRayU K ra xa sha lea tma sc u.2.2.2.2.2.2.1 u.2.2.2.2.2.2.2, gScn K sc la lb sa sb ou mi bo ln LF sn SF]) 0 0 := by
  refine mV_of cX6_findBest 7 (by decide) rfl (Nat.le_of_ble_eq_true rfl) ?_
  intro p e s m below meth c A ls Q S C hG hl hr hlk hin hQ
  have S : CallFix p m c cX6_findBest 7 s ([.ref va, .int (iI y0), .int (iI e0), .int (iI x), .int (iI 1)] : List Value).toArray wsX6_findBest RX6 := S
  have iX60 : ∀ w ∈ wsX60, w ∈ wsX6_findBest := fun _ h => List.mem_cons_of_mem _ (List.mem_append_left _ (List.mem_append_left _ (List.mem_append_left _ (List.mem_append_right _ (h)))))
  have iX40 : ∀ w ∈ wsX40, w ∈ wsX6_findBest := fun _ h => List.mem_cons_of_mem _ (List.mem_append_left _ (List.mem_append_left _ (List.mem_append_right _ (h))))
  have iX50 : ∀ w ∈ wsX50, w ∈ wsX6_findBest := fun _ h => List.mem_cons_of_mem _ (List.mem_append_left _ (List.mem_append_right _ (h)))
  have iX70 : ∀ w ∈ wsX70, w ∈ wsX6_findBest := fun _ h => List.mem_cons_of_mem _ (List.mem_append_right _ (h))
  have hl : lv_has ls 7 [(0, .ref va), (1, .int (iI y0)), (2, .int (iI e0)), (3, .int (iI x)), (4, .int (iI 1))] := hl
  have hG : gW K A s.heap [gSvyC K va sc ra vl vd vn vf vt ve vg vb vw, gRayU K ra xa sha lea tma sc rv XF, gScn K sc la lb sa sb ou mi bo ln LF sn SF] s.heap [] := hG
  obtain ⟨e0_, e1, e2, e3, e4, e5, e6⟩ := id hS
  have n0 := hN.1
  have nx := (lay_bd hN hy.1 hy.2).1
  refine lv_aload_n S.1 S.2.1 dX6_findBest_0 rfl (lv_at hl 0 rfl) ?_
  refine lv_iload_n S.1 S.2.1 dX6_findBest_1 rfl (lv_at hl 1 rfl) ?_
  refine lv_iload_n S.1 S.2.1 dX6_findBest_2 rfl (lv_at hl 2 rfl) ?_
  refine g_invVv (As := [.int (iI y0), .int (iI e0)]) (rest := []) (gs' := (fun u : (Int → Int) => [gSvyC K va sc ra y0 e0 (nX N y0) vf 0 ve vg (-1) vw, gRayU K ra xa sha lea tma sc rv u, gScn K sc la lb sa sb ou mi bo ln LF sn SF])) S C hG [0, 1, 2] (c_X6_start l K va vl vd vn vf vt ve vg vb vw ra xa sha lea tma sc rv XF la lb sa sb ou mi bo ln LF sn SF N y0 e0 hS hN hy he) rfl rfl 0 rfl rfl (cwV 2 S.2.2.2.2 gX6_findBest_X6_start rfl rfl rfl (by decide +kernel) ⟨Nat.le_of_ble_eq_true rfl, Nat.le_of_ble_eq_true rfl⟩) rfl hl.1 rfl (Nat.le_of_ble_eq_true rfl) dX6_findBest_3 ⟨Nat.le_of_ble_eq_true rfl, Nat.le_of_ble_eq_true rfl⟩ (fun _ => Nat.le_of_ble_eq_true rfl) (fun _ => rfl) (fun u H locs hp hG => ?_)
  obtain ⟨X2_3, rfl⟩ : ∃ z, z = u := ⟨_, rfl⟩
  have hE_3 := hp
  have hE_3 : EntOk N X2_3 := hE_3
  have hG : gW K A s.heap [gSvyC K va sc ra y0 e0 (nX N y0) vf 0 ve vg (-1) vw, gRayU K ra xa sha lea tma sc rv X2_3, gScn K sc la lb sa sb ou mi bo ln LF sn SF] _ _ := hG
  refine g_iconst S dX6_findBest_6 ?_
  refine lv_istore (lv' := [(5, .int (iI 0)), (0, .ref va), (1, .int (iI y0)), (2, .int (iI e0)), (3, .int (iI x)), (4, .int (iI 1))]) S.1 S.2.1 dX6_findBest_7 hl (by decide) rfl (fun ls hl => ?_)
  have L9 : ∀ (fu : Nat) (w : Int) (uf : Int) (ut : Int) (ue : Int) (ug : Int) (ub : Int) (uw : Int) (rv1 : RU) (H : Heap) (locs : List Loc) (ls : Array Slot), (((793 : Int) - w).toNat) < fu → (0 ≤ w ∧ w ≤ 793) → (0 ≤ ut ∧ ut ≤ nX N y0) → (ut < nX N y0 → w + MN N y0 e0 ut ≤ 793) → (-1 ≤ ub ∧ ub ≤ 4000) → (-3000000000 ≤ uw ∧ uw ≤ 3000000000) → (BestI N y0 e0 x (scG N y0 e0 1) ((1 : Int) ≠ 2) ut ub uw) → lv_has ls 7 [(0, .ref va), (1, .int (iI y0)), (2, .int (iI e0)), (3, .int (iI x)), (4, .int (iI 1)), (5, .int (iI w))] → gW K A s.heap [gSvyC K va sc ra y0 e0 (nX N y0) uf ut ue ug ub uw, gRayU K ra xa sha lea tma sc rv1 X2_3, gScn K sc la lb sa sb ou mi bo ln LF sn SF] H locs → W p l e { frames := 5, cells := 0, slots := 0, locals := 117 } s m ([.ref va, .int (iI y0), .int (iI e0), .int (iI x), .int (iI 1)] : List Value).toArray below meth c H locs 0 0 Q (F0 m 9 ls []) := by
    intro fu
    induction fu with
    | zero => intro w uf ut ue ug ub uw rv1 H locs ls hfu; exact absurd hfu (Nat.not_lt_zero _)
    | succ fu ih =>
      intro w uf ut ue ug ub uw rv1 H locs ls hfu hw ht hM hub huw hB hl hG
      refine lv_iload S.1 S.2.1 dX6_findBest_9 (lv_at hl 5 rfl) ?_
      refine g_sipush S dX6_findBest_11 (by decide) ?_
      refine g_icmp_ge (tgt := 89) S dX6_findBest_14 (by decide) (by omega) (by omega) (fun q14 => ?_) (fun q14 => ?_)
      · skip
        have e9 : ut = nX N y0 := (by by_cases g : ut < nX N y0 <;> first | omega | (have p1 := hM g; have p2 := MN_pos hN hy he ht.1 g; omega))
        have hG : gW K A s.heap [gSvyC K va sc ra y0 e0 (nX N y0) uf ut ue ug ub uw, gRayU K ra xa sha lea tma sc rv1 X2_3, gScn K sc la lb sa sb ou mi bo ln LF sn SF] _ _ := hG
        exact g_vret S hr hlk hQ dX6_findBest_89 (Nat.le_of_ble_eq_true rfl) (Nat.le_of_ble_eq_true rfl) ((uf, ut, ue, ug, ub, uw, rv1, X2_3) : Int × Int × Int × Int × Int × Int × RU × (Int → Int)) ⟨hE_3, (e9 ▸ hB), huw⟩ hG
      · skip
        refine lv_aload_n S.1 S.2.1 dX6_findBest_17 rfl (lv_at hl 0 rfl) ?_
        refine g_invV (As := []) (rest := []) (gs' := (fun u : RU × Int × Int × Int => [gSvyC K va sc ra y0 e0 (nX N y0) ut u.2.1 u.2.2.1 u.2.2.2 ub uw, gRayU K ra xa sha lea tma sc u.1 X2_3, gScn K sc la lb sa sb ou mi bo ln LF sn SF])) S C hG [0, 1, 2] (c_X6_nextPart l K va y0 e0 (nX N y0) uf ut ue ug ub uw ra xa sha lea tma sc rv1 X2_3 la lb sa sb ou mi bo ln LF sn SF N hS hN hE_3 hy rfl he ht) rfl rfl 0 rfl rfl (cwV 0 S.2.2.2.2 gX6_findBest_X6_nextPart rfl rfl rfl (by decide +kernel) ⟨Nat.le_of_ble_eq_true rfl, Nat.le_of_ble_eq_true rfl⟩) rfl hl.1 rfl (Nat.le_of_ble_eq_true rfl) dX6_findBest_18 ⟨Nat.le_of_ble_eq_true rfl, Nat.le_of_ble_eq_true rfl⟩ (fun _ => Nat.le_of_ble_eq_true rfl) (fun _ => rfl) (fun v u H locs hp hG => ?_)
        obtain ⟨rv2_18, vt2_18, ve2_18, vg2_18⟩ := u
        obtain ⟨rfl, hp_18, hq_18⟩ := hp
        have hp_18 : ut < (nX N y0) → PartN N y0 e0 ut vt2_18 ve2_18 := hp_18
        have hq_18 : ¬ ut < (nX N y0) → vt2_18 = ut := hq_18
        have hG : gW K A s.heap [gSvyC K va sc ra y0 e0 (nX N y0) ut vt2_18 ve2_18 vg2_18 ub uw, gRayU K ra xa sha lea tma sc rv2_18 X2_3, gScn K sc la lb sa sb ou mi bo ln LF sn SF] _ _ := hG
        refine g_ifeq_b (B := (ut < (nX N y0))) (tgt := 89) S dX6_findBest_21 (by decide) (fun q21 => ?_) (fun q21 => ?_)
        · skip
          have e9 : ut = nX N y0 := (by by_cases g : ut < nX N y0 <;> first | omega | (have p1 := hM g; have p2 := MN_pos hN hy he ht.1 g; omega))
          have hG : gW K A s.heap [gSvyC K va sc ra y0 e0 (nX N y0) ut vt2_18 ve2_18 vg2_18 ub uw, gRayU K ra xa sha lea tma sc rv2_18 X2_3, gScn K sc la lb sa sb ou mi bo ln LF sn SF] _ _ := hG
          exact g_vret S hr hlk hQ dX6_findBest_89 (Nat.le_of_ble_eq_true rfl) (Nat.le_of_ble_eq_true rfl) ((ut, vt2_18, ve2_18, vg2_18, ub, uw, rv2_18, X2_3) : Int × Int × Int × Int × Int × Int × RU × (Int → Int)) ⟨hE_3, (e9 ▸ hB), huw⟩ hG
        · skip
          have hP := hp_18 q21
          obtain ⟨⟨hP1, hP2⟩, hP3, hP4, hP5, hP6⟩ := id hP
          have b1 := enF_bd N ut y0 e0
          refine lv_aload_n S.1 S.2.1 dX6_findBest_24 rfl (lv_at hl 0 rfl) ?_
          refine g_get S C hG iX60 0 rfl rfl 7 (by decide) (List.mem_of_getElem? (i := 1) rfl) rfl dX6_findBest_25 ?_
          refine lv_iload_n S.1 S.2.1 dX6_findBest_28 rfl (lv_at hl 3 rfl) ?_
          refine g_icmp_ne (tgt := 83) S dX6_findBest_29 (by decide) (by omega) (by omega) (fun q29 => ?_) (fun q29 => ?_)
          · skip
            refine lv_iinc (v := iI (w + 1)) (lv' := [(5, .int (iI (w + 1))), (0, .ref va), (1, .int (iI y0)), (2, .int (iI e0)), (3, .int (iI x)), (4, .int (iI 1))]) S.1 S.2.1 dX6_findBest_83 hl (k := 5) rfl (g_iinc rfl) (by decide) rfl (fun ls hl => ?_)
            refine lv_goto (tgt := 9) S.1 S.2.1 dX6_findBest_86 (by decide) ?_
            exact ih (w + 1) ut vt2_18 ve2_18 vg2_18 ub uw rv2_18 _ _ _ (by omega) (by omega) (by omega) (fun q => by have p1 := hP5 q <;> have p2 := hM q21 <;> omega) (by omega) (by omega) (hB.skip (by omega) (fun p a b => by rw [(hP4 p a b).2.1] <;> exact q29)) (lv_sub hl [1, 2, 3, 4, 5, 0] rfl) hG
          · skip
            refine lv_iload S.1 S.2.1 dX6_findBest_32 (lv_at hl 4 rfl) ?_
            refine g_iconst S dX6_findBest_34 ?_
            refine g_icmp_ne (tgt := 47) S dX6_findBest_35 (by decide) (by omega) (by omega) (fun q35 => ?_) (fun q35 => ?_)
            · skip
              refine lv_aload_n S.1 S.2.1 dX6_findBest_47 rfl (lv_at hl 0 rfl) ?_
              refine g_get S C hG iX60 0 rfl rfl 5 (by decide) (List.mem_of_getElem? (i := 3) rfl) rfl dX6_findBest_48 ?_
              refine lv_istore (lv' := [(6, .int (iI ut)), (0, .ref va), (1, .int (iI y0)), (2, .int (iI e0)), (3, .int (iI x)), (4, .int (iI 1)), (5, .int (iI w))]) S.1 S.2.1 dX6_findBest_51 hl (by decide) rfl (fun ls hl => ?_)
              refine lv_aload_n S.1 S.2.1 dX6_findBest_53 rfl (lv_at hl 1 rfl) ?_
              refine g_get S C hG iX60 0 rfl rfl 1 (by decide) (List.mem_of_getElem? (i := 4) rfl) rfl dX6_findBest_54 ?_
              refine lv_aload_n S.1 S.2.1 dX6_findBest_57 rfl (lv_at hl 1 rfl) ?_
              refine g_get S C hG iX60 0 rfl rfl 2 (by decide) (List.mem_of_getElem? (i := 5) rfl) rfl dX6_findBest_58 ?_
              refine lv_aload_n S.1 S.2.1 dX6_findBest_61 rfl (lv_at hl 1 rfl) ?_
              refine g_get S C hG iX60 0 rfl rfl 3 (by decide) (List.mem_of_getElem? (i := 6) rfl) rfl dX6_findBest_62 ?_
              refine lv_iload S.1 S.2.1 dX6_findBest_65 (lv_at hl 0 rfl) ?_
              refine g_invVv (As := [.int (iI y0), .int (iI e0), .int (iI ut)]) (rest := []) (gs' := (fun u : RU => [gSvyC K va sc ra y0 e0 (nX N y0) ut vt2_18 ve2_18 vg2_18 ub uw, gRayU K ra xa sha lea tma sc u X2_3, gScn K sc la lb sa sb ou mi bo ln LF sn SF])) S C hG [1, 2] (c_X4_runU l K ra xa sha lea tma sc rv2_18 X2_3 la lb sa sb ou mi bo ln LF sn SF N y0 e0 ut hS hN hE_3 (by omega) (by omega) he) rfl rfl 0 rfl rfl (cwV 3 S.2.2.2.2 gX6_findBest_X4_run rfl rfl rfl (by decide +kernel) ⟨Nat.le_of_ble_eq_true rfl, Nat.le_of_ble_eq_true rfl⟩) rfl hl.1 rfl (Nat.le_of_ble_eq_true rfl) dX6_findBest_67 ⟨Nat.le_of_ble_eq_true rfl, Nat.le_of_ble_eq_true rfl⟩ (fun _ => Nat.le_of_ble_eq_true rfl) (fun _ => rfl) (fun u H locs hp hG => ?_)
              obtain ⟨rv2_67, rfl⟩ : ∃ z, z = u := ⟨_, rfl⟩
              have hr_67 := hp
              have hr_67 : ResU N ut y0 e0 rv2_67 := hr_67
              have hG : gW K A s.heap [gSvyC K va sc ra y0 e0 (nX N y0) ut vt2_18 ve2_18 vg2_18 ub uw, gRayU K ra xa sha lea tma sc rv2_67 X2_3, gScn K sc la lb sa sb ou mi bo ln LF sn SF] _ _ := hG
              refine lv_aload_n S.1 S.2.1 dX6_findBest_70 rfl (lv_at hl 1 rfl) ?_
              refine lv_iload S.1 S.2.1 dX6_findBest_71 (lv_at hl 0 rfl) ?_
              refine lv_aload_n S.1 S.2.1 dX6_findBest_73 rfl (lv_at hl 1 rfl) ?_
              refine lv_iload S.1 S.2.1 dX6_findBest_74 (lv_at hl 5 rfl) ?_
              have sb9 := shF_bd hN (show 0 ≤ ut by omega) he (y := y0)
              have hs1 : -200000000 ≤ scG N y0 e0 1 (ut) ∧ scG N y0 e0 1 (ut) ≤ 200000000 := by unfold scG <;> (repeat' split) <;> omega
              have hsr : -3000000000 ≤ scG N y0 e0 1 (ut) ∧ scG N y0 e0 1 (ut) ≤ 3000000000 := by omega
              refine g_invV (As := [.int (iI 1)]) (rest := [.int (iI ut), .ref va]) (gs' := (fun u : Unit => [gSvyC K va sc ra y0 e0 (nX N y0) ut vt2_18 ve2_18 vg2_18 ub uw, gRayU K ra xa sha lea tma sc rv2_67 X2_3, gScn K sc la lb sa sb ou mi bo ln LF sn SF])) S C hG [0, 1] (c_X6_scoreFor_1 l K va y0 e0 (nX N y0) ut vt2_18 ve2_18 vg2_18 ub uw ra xa sha lea tma sc rv2_67 X2_3) rfl rfl 0 rfl rfl (cwV 1 S.2.2.2.2 gX6_findBest_X6_scoreFor rfl rfl rfl (by decide +kernel) ⟨Nat.le_of_ble_eq_true rfl, Nat.le_of_ble_eq_true rfl⟩) rfl hl.1 rfl (Nat.le_of_ble_eq_true rfl) dX6_findBest_76 ⟨Nat.le_of_ble_eq_true rfl, Nat.le_of_ble_eq_true rfl⟩ (fun _ => Nat.le_of_ble_eq_true rfl) (fun _ => rfl) (fun v u H locs hp hG => ?_)
              subst hp
              refine g_top (w := .int (iI (scG N y0 e0 1 (ut)))) (congrArg (fun z : Int => Value.int (iI z)) (by rw [hr_67.f.2.2.2.2] <;> rfl)) ?_
              refine g_i2l S dX6_findBest_79 (by omega) ?_
              refine g_invVv (As := [.int (iI ut), .long (iL (scG N y0 e0 1 (ut)))]) (rest := []) (gs' := (fun u : Int × Int => [gSvyC K va sc ra y0 e0 (nX N y0) ut vt2_18 ve2_18 vg2_18 u.1 u.2, gRayU K ra xa sha lea tma sc rv2_67 X2_3, gScn K sc la lb sa sb ou mi bo ln LF sn SF])) S C hG [0] (c_X6_consider l K va y0 e0 (nX N y0) ut vt2_18 ve2_18 vg2_18 ub uw sc ra ut (scG N y0 e0 1 (ut)) hub huw hsr) rfl rfl 0 rfl rfl (cwV 2 S.2.2.2.2 gX6_findBest_X6_consider rfl rfl rfl (by decide +kernel) ⟨Nat.le_of_ble_eq_true rfl, Nat.le_of_ble_eq_true rfl⟩) rfl hl.1 rfl (Nat.le_of_ble_eq_true rfl) dX6_findBest_80 ⟨Nat.le_of_ble_eq_true rfl, Nat.le_of_ble_eq_true rfl⟩ (fun _ => Nat.le_of_ble_eq_true rfl) (fun _ => rfl) (fun u H locs hp hG => ?_)
              obtain ⟨vb2_80, vw2_80⟩ := u
              have hc_80 := hp
              have hc_80 : ConS ub uw ut (scG N y0 e0 1 (ut)) vb2_80 vw2_80 := hc_80
              have hG : gW K A s.heap [gSvyC K va sc ra y0 e0 (nX N y0) ut vt2_18 ve2_18 vg2_18 vb2_80 vw2_80, gRayU K ra xa sha lea tma sc rv2_67 X2_3, gScn K sc la lb sa sb ou mi bo ln LF sn SF] _ _ := hG
              refine lv_iinc (v := iI (w + 1)) (lv' := [(5, .int (iI (w + 1))), (6, .int (iI ut)), (0, .ref va), (1, .int (iI y0)), (2, .int (iI e0)), (3, .int (iI x)), (4, .int (iI 1))]) S.1 S.2.1 dX6_findBest_83 hl (k := 6) rfl (g_iinc rfl) (by decide) rfl (fun ls hl => ?_)
              refine lv_goto (tgt := 9) S.1 S.2.1 dX6_findBest_86 (by decide) ?_
              exact ih (w + 1) ut vt2_18 ve2_18 vg2_18 vb2_80 vw2_80 rv2_67 _ _ _ (by omega) (by omega) (by omega) (fun q => by have p1 := hP5 q <;> have p2 := hM q21 <;> omega) (hc_80.bd1 hub (by omega)) (hc_80.bd huw hsr) (q29 ▸ PartN.best hN hP hy he ht.1 (by decide) (by rw [q29] <;> exact hB) (by first | rfl | exact (if_pos rfl).symm | exact (if_neg (by decide)).symm) hc_80) (lv_sub hl [2, 3, 4, 5, 6, 0] rfl) hG
            · skip
              exact absurd q35 (by decide)
  exact L9 (Nat.succ (((793 : Int) - 0).toNat)) 0 vf 0 ve vg (-1) vw rv _ _ _ (Nat.lt_succ_self _) (by omega) (by omega) (fun _ => by have := MN_0 hN hy he <;> omega) (by omega) (by omega) (Or.inl ⟨rfl, fun p a b => by omega⟩) (lv_sub hl [1, 2, 3, 4, 5, 0] rfl) hG

set_option maxHeartbeats 1000000 in
set_option maxRecDepth 100000 in
theorem c_X6_findBest_2 (l : Launch) (K : KC) (va : Nat) (vl : Int) (vd : Int) (vn : Int) (vf : Int) (vt : Int) (ve : Int) (vg : Int) (vb : Int) (vw : Int) (ra : Nat) (xa : Nat) (sha : Nat) (lea : Nat) (tma : Nat) (sc : Nat) (rv : RU) (XF : Int → Int) (la : Nat) (lb : Nat) (sa : Nat) (sb : Nat) (ou : Int) (mi : Int) (bo : Int) (ln : Int) (LF : Int → Int) (sn : Int) (SF : Int → Int) (N : Int → Int) (y0 : Int) (e0 : Int) (x : Int) (hS : ScOk N ou mi bo ln LF sn SF) (hN : NOk0 N) (hy : 0 ≤ y0 ∧ y0 < N 0) (he : e0 = 0 ∨ e0 = 1) (hx : 0 ≤ x ∧ x ≤ 4) (hvw : -3000000000 ≤ vw ∧ vw ≤ 3000000000) : mV l yX6_findBest wsX6_findBest 5 117 K [.ref va, .int (iI y0), .int (iI e0), .int (iI x), .int (iI 2)] [gSvyC K va sc ra vl vd vn vf vt ve vg vb vw, gRayU K ra xa sha lea tma sc rv XF, gScn K sc la lb sa sb ou mi bo ln LF sn SF] (fun (u : Int × Int × Int × Int × Int × Int × RU × (Int → Int)) => (EntOk N u.2.2.2.2.2.2.2) ∧ (BestI N y0 e0 x (scG N y0 e0 2) ((2 : Int) ≠ 2) (nX N y0) u.2.2.2.2.1 u.2.2.2.2.2.1) ∧ (-3000000000 ≤ u.2.2.2.2.2.1 ∧ u.2.2.2.2.2.1 ≤ 3000000000)) (fun (u : Int × Int × Int × Int × Int × Int × RU × (Int → Int)) => [gSvyC K va sc ra y0 e0 (nX N y0) u.1 u.2.1 u.2.2.1 u.2.2.2.1 u.2.2.2.2.1 u.2.2.2.2.2.1, gRayU K ra xa sha lea tma sc u.2.2.2.2.2.2.1 u.2.2.2.2.2.2.2, gScn K sc la lb sa sb ou mi bo ln LF sn SF]) 0 0 := by
  refine mV_of cX6_findBest 7 (by decide) rfl (Nat.le_of_ble_eq_true rfl) ?_
  intro p e s m below meth c A ls Q S C hG hl hr hlk hin hQ
  have S : CallFix p m c cX6_findBest 7 s ([.ref va, .int (iI y0), .int (iI e0), .int (iI x), .int (iI 2)] : List Value).toArray wsX6_findBest RX6 := S
  have iX60 : ∀ w ∈ wsX60, w ∈ wsX6_findBest := fun _ h => List.mem_cons_of_mem _ (List.mem_append_left _ (List.mem_append_left _ (List.mem_append_left _ (List.mem_append_right _ (h)))))
  have iX40 : ∀ w ∈ wsX40, w ∈ wsX6_findBest := fun _ h => List.mem_cons_of_mem _ (List.mem_append_left _ (List.mem_append_left _ (List.mem_append_right _ (h))))
  have iX50 : ∀ w ∈ wsX50, w ∈ wsX6_findBest := fun _ h => List.mem_cons_of_mem _ (List.mem_append_left _ (List.mem_append_right _ (h)))
  have iX70 : ∀ w ∈ wsX70, w ∈ wsX6_findBest := fun _ h => List.mem_cons_of_mem _ (List.mem_append_right _ (h))
  have hl : lv_has ls 7 [(0, .ref va), (1, .int (iI y0)), (2, .int (iI e0)), (3, .int (iI x)), (4, .int (iI 2))] := hl
  have hG : gW K A s.heap [gSvyC K va sc ra vl vd vn vf vt ve vg vb vw, gRayU K ra xa sha lea tma sc rv XF, gScn K sc la lb sa sb ou mi bo ln LF sn SF] s.heap [] := hG
  obtain ⟨e0_, e1, e2, e3, e4, e5, e6⟩ := id hS
  have n0 := hN.1
  have nx := (lay_bd hN hy.1 hy.2).1
  refine lv_aload_n S.1 S.2.1 dX6_findBest_0 rfl (lv_at hl 0 rfl) ?_
  refine lv_iload_n S.1 S.2.1 dX6_findBest_1 rfl (lv_at hl 1 rfl) ?_
  refine lv_iload_n S.1 S.2.1 dX6_findBest_2 rfl (lv_at hl 2 rfl) ?_
  refine g_invVv (As := [.int (iI y0), .int (iI e0)]) (rest := []) (gs' := (fun u : (Int → Int) => [gSvyC K va sc ra y0 e0 (nX N y0) vf 0 ve vg (-1) vw, gRayU K ra xa sha lea tma sc rv u, gScn K sc la lb sa sb ou mi bo ln LF sn SF])) S C hG [0, 1, 2] (c_X6_start l K va vl vd vn vf vt ve vg vb vw ra xa sha lea tma sc rv XF la lb sa sb ou mi bo ln LF sn SF N y0 e0 hS hN hy he) rfl rfl 0 rfl rfl (cwV 2 S.2.2.2.2 gX6_findBest_X6_start rfl rfl rfl (by decide +kernel) ⟨Nat.le_of_ble_eq_true rfl, Nat.le_of_ble_eq_true rfl⟩) rfl hl.1 rfl (Nat.le_of_ble_eq_true rfl) dX6_findBest_3 ⟨Nat.le_of_ble_eq_true rfl, Nat.le_of_ble_eq_true rfl⟩ (fun _ => Nat.le_of_ble_eq_true rfl) (fun _ => rfl) (fun u H locs hp hG => ?_)
  obtain ⟨X2_3, rfl⟩ : ∃ z, z = u := ⟨_, rfl⟩
  have hE_3 := hp
  have hE_3 : EntOk N X2_3 := hE_3
  have hG : gW K A s.heap [gSvyC K va sc ra y0 e0 (nX N y0) vf 0 ve vg (-1) vw, gRayU K ra xa sha lea tma sc rv X2_3, gScn K sc la lb sa sb ou mi bo ln LF sn SF] _ _ := hG
  refine g_iconst S dX6_findBest_6 ?_
  refine lv_istore (lv' := [(5, .int (iI 0)), (0, .ref va), (1, .int (iI y0)), (2, .int (iI e0)), (3, .int (iI x)), (4, .int (iI 2))]) S.1 S.2.1 dX6_findBest_7 hl (by decide) rfl (fun ls hl => ?_)
  have L9 : ∀ (fu : Nat) (w : Int) (uf : Int) (ut : Int) (ue : Int) (ug : Int) (ub : Int) (uw : Int) (rv1 : RU) (H : Heap) (locs : List Loc) (ls : Array Slot), (((793 : Int) - w).toNat) < fu → (0 ≤ w ∧ w ≤ 793) → (0 ≤ ut ∧ ut ≤ nX N y0) → (ut < nX N y0 → w + MN N y0 e0 ut ≤ 793) → (-1 ≤ ub ∧ ub ≤ 4000) → (-3000000000 ≤ uw ∧ uw ≤ 3000000000) → (BestI N y0 e0 x (scG N y0 e0 2) ((2 : Int) ≠ 2) ut ub uw) → lv_has ls 7 [(0, .ref va), (1, .int (iI y0)), (2, .int (iI e0)), (3, .int (iI x)), (4, .int (iI 2)), (5, .int (iI w))] → gW K A s.heap [gSvyC K va sc ra y0 e0 (nX N y0) uf ut ue ug ub uw, gRayU K ra xa sha lea tma sc rv1 X2_3, gScn K sc la lb sa sb ou mi bo ln LF sn SF] H locs → W p l e { frames := 5, cells := 0, slots := 0, locals := 117 } s m ([.ref va, .int (iI y0), .int (iI e0), .int (iI x), .int (iI 2)] : List Value).toArray below meth c H locs 0 0 Q (F0 m 9 ls []) := by
    intro fu
    induction fu with
    | zero => intro w uf ut ue ug ub uw rv1 H locs ls hfu; exact absurd hfu (Nat.not_lt_zero _)
    | succ fu ih =>
      intro w uf ut ue ug ub uw rv1 H locs ls hfu hw ht hM hub huw hB hl hG
      refine lv_iload S.1 S.2.1 dX6_findBest_9 (lv_at hl 5 rfl) ?_
      refine g_sipush S dX6_findBest_11 (by decide) ?_
      refine g_icmp_ge (tgt := 89) S dX6_findBest_14 (by decide) (by omega) (by omega) (fun q14 => ?_) (fun q14 => ?_)
      · skip
        have e9 : ut = nX N y0 := (by by_cases g : ut < nX N y0 <;> first | omega | (have p1 := hM g; have p2 := MN_pos hN hy he ht.1 g; omega))
        have hG : gW K A s.heap [gSvyC K va sc ra y0 e0 (nX N y0) uf ut ue ug ub uw, gRayU K ra xa sha lea tma sc rv1 X2_3, gScn K sc la lb sa sb ou mi bo ln LF sn SF] _ _ := hG
        exact g_vret S hr hlk hQ dX6_findBest_89 (Nat.le_of_ble_eq_true rfl) (Nat.le_of_ble_eq_true rfl) ((uf, ut, ue, ug, ub, uw, rv1, X2_3) : Int × Int × Int × Int × Int × Int × RU × (Int → Int)) ⟨hE_3, (e9 ▸ hB), huw⟩ hG
      · skip
        refine lv_aload_n S.1 S.2.1 dX6_findBest_17 rfl (lv_at hl 0 rfl) ?_
        refine g_invV (As := []) (rest := []) (gs' := (fun u : RU × Int × Int × Int => [gSvyC K va sc ra y0 e0 (nX N y0) ut u.2.1 u.2.2.1 u.2.2.2 ub uw, gRayU K ra xa sha lea tma sc u.1 X2_3, gScn K sc la lb sa sb ou mi bo ln LF sn SF])) S C hG [0, 1, 2] (c_X6_nextPart l K va y0 e0 (nX N y0) uf ut ue ug ub uw ra xa sha lea tma sc rv1 X2_3 la lb sa sb ou mi bo ln LF sn SF N hS hN hE_3 hy rfl he ht) rfl rfl 0 rfl rfl (cwV 0 S.2.2.2.2 gX6_findBest_X6_nextPart rfl rfl rfl (by decide +kernel) ⟨Nat.le_of_ble_eq_true rfl, Nat.le_of_ble_eq_true rfl⟩) rfl hl.1 rfl (Nat.le_of_ble_eq_true rfl) dX6_findBest_18 ⟨Nat.le_of_ble_eq_true rfl, Nat.le_of_ble_eq_true rfl⟩ (fun _ => Nat.le_of_ble_eq_true rfl) (fun _ => rfl) (fun v u H locs hp hG => ?_)
        obtain ⟨rv2_18, vt2_18, ve2_18, vg2_18⟩ := u
        obtain ⟨rfl, hp_18, hq_18⟩ := hp
        have hp_18 : ut < (nX N y0) → PartN N y0 e0 ut vt2_18 ve2_18 := hp_18
        have hq_18 : ¬ ut < (nX N y0) → vt2_18 = ut := hq_18
        have hG : gW K A s.heap [gSvyC K va sc ra y0 e0 (nX N y0) ut vt2_18 ve2_18 vg2_18 ub uw, gRayU K ra xa sha lea tma sc rv2_18 X2_3, gScn K sc la lb sa sb ou mi bo ln LF sn SF] _ _ := hG
        refine g_ifeq_b (B := (ut < (nX N y0))) (tgt := 89) S dX6_findBest_21 (by decide) (fun q21 => ?_) (fun q21 => ?_)
        · skip
          have e9 : ut = nX N y0 := (by by_cases g : ut < nX N y0 <;> first | omega | (have p1 := hM g; have p2 := MN_pos hN hy he ht.1 g; omega))
          have hG : gW K A s.heap [gSvyC K va sc ra y0 e0 (nX N y0) ut vt2_18 ve2_18 vg2_18 ub uw, gRayU K ra xa sha lea tma sc rv2_18 X2_3, gScn K sc la lb sa sb ou mi bo ln LF sn SF] _ _ := hG
          exact g_vret S hr hlk hQ dX6_findBest_89 (Nat.le_of_ble_eq_true rfl) (Nat.le_of_ble_eq_true rfl) ((ut, vt2_18, ve2_18, vg2_18, ub, uw, rv2_18, X2_3) : Int × Int × Int × Int × Int × Int × RU × (Int → Int)) ⟨hE_3, (e9 ▸ hB), huw⟩ hG
        · skip
          have hP := hp_18 q21
          obtain ⟨⟨hP1, hP2⟩, hP3, hP4, hP5, hP6⟩ := id hP
          have b1 := enF_bd N ut y0 e0
          refine lv_aload_n S.1 S.2.1 dX6_findBest_24 rfl (lv_at hl 0 rfl) ?_
          refine g_get S C hG iX60 0 rfl rfl 7 (by decide) (List.mem_of_getElem? (i := 1) rfl) rfl dX6_findBest_25 ?_
          refine lv_iload_n S.1 S.2.1 dX6_findBest_28 rfl (lv_at hl 3 rfl) ?_
          refine g_icmp_ne (tgt := 83) S dX6_findBest_29 (by decide) (by omega) (by omega) (fun q29 => ?_) (fun q29 => ?_)
          · skip
            refine lv_iinc (v := iI (w + 1)) (lv' := [(5, .int (iI (w + 1))), (0, .ref va), (1, .int (iI y0)), (2, .int (iI e0)), (3, .int (iI x)), (4, .int (iI 2))]) S.1 S.2.1 dX6_findBest_83 hl (k := 5) rfl (g_iinc rfl) (by decide) rfl (fun ls hl => ?_)
            refine lv_goto (tgt := 9) S.1 S.2.1 dX6_findBest_86 (by decide) ?_
            exact ih (w + 1) ut vt2_18 ve2_18 vg2_18 ub uw rv2_18 _ _ _ (by omega) (by omega) (by omega) (fun q => by have p1 := hP5 q <;> have p2 := hM q21 <;> omega) (by omega) (by omega) (hB.skip (by omega) (fun p a b => by rw [(hP4 p a b).2.1] <;> exact q29)) (lv_sub hl [1, 2, 3, 4, 5, 0] rfl) hG
          · skip
            refine lv_iload S.1 S.2.1 dX6_findBest_32 (lv_at hl 4 rfl) ?_
            refine g_iconst S dX6_findBest_34 ?_
            refine g_icmp_ne (tgt := 47) S dX6_findBest_35 (by decide) (by omega) (by omega) (fun q35 => ?_) (fun q35 => ?_)
            · skip
              exact absurd q35 (by decide)
            · skip
              refine lv_aload_n S.1 S.2.1 dX6_findBest_38 rfl (lv_at hl 0 rfl) ?_
              refine g_get S C hG iX60 0 rfl rfl 6 (by decide) (List.mem_of_getElem? (i := 2) rfl) rfl dX6_findBest_39 ?_
              refine g_iconst S dX6_findBest_42 ?_
              refine g_isub S dX6_findBest_43 rfl ?_
              refine lv_goto (tgt := 51) S.1 S.2.1 dX6_findBest_44 (by decide) ?_
              refine lv_istore (lv' := [(6, .int (iI (vt2_18 - 1))), (0, .ref va), (1, .int (iI y0)), (2, .int (iI e0)), (3, .int (iI x)), (4, .int (iI 2)), (5, .int (iI w))]) S.1 S.2.1 dX6_findBest_51 hl (by decide) rfl (fun ls hl => ?_)
              refine lv_aload_n S.1 S.2.1 dX6_findBest_53 rfl (lv_at hl 1 rfl) ?_
              refine g_get S C hG iX60 0 rfl rfl 1 (by decide) (List.mem_of_getElem? (i := 4) rfl) rfl dX6_findBest_54 ?_
              refine lv_aload_n S.1 S.2.1 dX6_findBest_57 rfl (lv_at hl 1 rfl) ?_
              refine g_get S C hG iX60 0 rfl rfl 2 (by decide) (List.mem_of_getElem? (i := 5) rfl) rfl dX6_findBest_58 ?_
              refine lv_aload_n S.1 S.2.1 dX6_findBest_61 rfl (lv_at hl 1 rfl) ?_
              refine g_get S C hG iX60 0 rfl rfl 3 (by decide) (List.mem_of_getElem? (i := 6) rfl) rfl dX6_findBest_62 ?_
              refine lv_iload S.1 S.2.1 dX6_findBest_65 (lv_at hl 0 rfl) ?_
              refine g_invVv (As := [.int (iI y0), .int (iI e0), .int (iI (vt2_18 - 1))]) (rest := []) (gs' := (fun u : RU => [gSvyC K va sc ra y0 e0 (nX N y0) ut vt2_18 ve2_18 vg2_18 ub uw, gRayU K ra xa sha lea tma sc u X2_3, gScn K sc la lb sa sb ou mi bo ln LF sn SF])) S C hG [1, 2] (c_X4_runU l K ra xa sha lea tma sc rv2_18 X2_3 la lb sa sb ou mi bo ln LF sn SF N y0 e0 (vt2_18 - 1) hS hN hE_3 (by omega) (by omega) he) rfl rfl 0 rfl rfl (cwV 3 S.2.2.2.2 gX6_findBest_X4_run rfl rfl rfl (by decide +kernel) ⟨Nat.le_of_ble_eq_true rfl, Nat.le_of_ble_eq_true rfl⟩) rfl hl.1 rfl (Nat.le_of_ble_eq_true rfl) dX6_findBest_67 ⟨Nat.le_of_ble_eq_true rfl, Nat.le_of_ble_eq_true rfl⟩ (fun _ => Nat.le_of_ble_eq_true rfl) (fun _ => rfl) (fun u H locs hp hG => ?_)
              obtain ⟨rv2_67, rfl⟩ : ∃ z, z = u := ⟨_, rfl⟩
              have hr_67 := hp
              have hr_67 : ResU N (vt2_18 - 1) y0 e0 rv2_67 := hr_67
              have hG : gW K A s.heap [gSvyC K va sc ra y0 e0 (nX N y0) ut vt2_18 ve2_18 vg2_18 ub uw, gRayU K ra xa sha lea tma sc rv2_67 X2_3, gScn K sc la lb sa sb ou mi bo ln LF sn SF] _ _ := hG
              refine lv_aload_n S.1 S.2.1 dX6_findBest_70 rfl (lv_at hl 1 rfl) ?_
              refine lv_iload S.1 S.2.1 dX6_findBest_71 (lv_at hl 0 rfl) ?_
              refine lv_aload_n S.1 S.2.1 dX6_findBest_73 rfl (lv_at hl 1 rfl) ?_
              refine lv_iload S.1 S.2.1 dX6_findBest_74 (lv_at hl 5 rfl) ?_
              have sb9 := shF_bd hN (show 0 ≤ vt2_18 - 1 by omega) he (y := y0)
              have hs1 : -200000000 ≤ scG N y0 e0 2 (vt2_18 - 1) ∧ scG N y0 e0 2 (vt2_18 - 1) ≤ 200000000 := by unfold scG <;> (repeat' split) <;> omega
              have hsr : -3000000000 ≤ scG N y0 e0 2 (vt2_18 - 1) ∧ scG N y0 e0 2 (vt2_18 - 1) ≤ 3000000000 := by omega
              refine g_invV (As := [.int (iI 2)]) (rest := [.int (iI (vt2_18 - 1)), .ref va]) (gs' := (fun u : Unit => [gSvyC K va sc ra y0 e0 (nX N y0) ut vt2_18 ve2_18 vg2_18 ub uw, gRayU K ra xa sha lea tma sc rv2_67 X2_3, gScn K sc la lb sa sb ou mi bo ln LF sn SF])) S C hG [0, 1] (c_X6_scoreFor_2 l K va y0 e0 (nX N y0) ut vt2_18 ve2_18 vg2_18 ub uw ra xa sha lea tma sc rv2_67 X2_3) rfl rfl 0 rfl rfl (cwV 1 S.2.2.2.2 gX6_findBest_X6_scoreFor rfl rfl rfl (by decide +kernel) ⟨Nat.le_of_ble_eq_true rfl, Nat.le_of_ble_eq_true rfl⟩) rfl hl.1 rfl (Nat.le_of_ble_eq_true rfl) dX6_findBest_76 ⟨Nat.le_of_ble_eq_true rfl, Nat.le_of_ble_eq_true rfl⟩ (fun _ => Nat.le_of_ble_eq_true rfl) (fun _ => rfl) (fun v u H locs hp hG => ?_)
              subst hp
              refine g_top (w := .int (iI (scG N y0 e0 2 (vt2_18 - 1)))) (congrArg (fun z : Int => Value.int (iI z)) (by rw [hr_67.f.2.2.1] <;> rfl)) ?_
              refine g_i2l S dX6_findBest_79 (by omega) ?_
              refine g_invVv (As := [.int (iI (vt2_18 - 1)), .long (iL (scG N y0 e0 2 (vt2_18 - 1)))]) (rest := []) (gs' := (fun u : Int × Int => [gSvyC K va sc ra y0 e0 (nX N y0) ut vt2_18 ve2_18 vg2_18 u.1 u.2, gRayU K ra xa sha lea tma sc rv2_67 X2_3, gScn K sc la lb sa sb ou mi bo ln LF sn SF])) S C hG [0] (c_X6_consider l K va y0 e0 (nX N y0) ut vt2_18 ve2_18 vg2_18 ub uw sc ra (vt2_18 - 1) (scG N y0 e0 2 (vt2_18 - 1)) hub huw hsr) rfl rfl 0 rfl rfl (cwV 2 S.2.2.2.2 gX6_findBest_X6_consider rfl rfl rfl (by decide +kernel) ⟨Nat.le_of_ble_eq_true rfl, Nat.le_of_ble_eq_true rfl⟩) rfl hl.1 rfl (Nat.le_of_ble_eq_true rfl) dX6_findBest_80 ⟨Nat.le_of_ble_eq_true rfl, Nat.le_of_ble_eq_true rfl⟩ (fun _ => Nat.le_of_ble_eq_true rfl) (fun _ => rfl) (fun u H locs hp hG => ?_)
              obtain ⟨vb2_80, vw2_80⟩ := u
              have hc_80 := hp
              have hc_80 : ConS ub uw (vt2_18 - 1) (scG N y0 e0 2 (vt2_18 - 1)) vb2_80 vw2_80 := hc_80
              have hG : gW K A s.heap [gSvyC K va sc ra y0 e0 (nX N y0) ut vt2_18 ve2_18 vg2_18 vb2_80 vw2_80, gRayU K ra xa sha lea tma sc rv2_67 X2_3, gScn K sc la lb sa sb ou mi bo ln LF sn SF] _ _ := hG
              refine lv_iinc (v := iI (w + 1)) (lv' := [(5, .int (iI (w + 1))), (6, .int (iI (vt2_18 - 1))), (0, .ref va), (1, .int (iI y0)), (2, .int (iI e0)), (3, .int (iI x)), (4, .int (iI 2))]) S.1 S.2.1 dX6_findBest_83 hl (k := 6) rfl (g_iinc rfl) (by decide) rfl (fun ls hl => ?_)
              refine lv_goto (tgt := 9) S.1 S.2.1 dX6_findBest_86 (by decide) ?_
              exact ih (w + 1) ut vt2_18 ve2_18 vg2_18 vb2_80 vw2_80 rv2_67 _ _ _ (by omega) (by omega) (by omega) (fun q => by have p1 := hP5 q <;> have p2 := hM q21 <;> omega) (hc_80.bd1 hub (by omega)) (hc_80.bd huw hsr) (q29 ▸ PartN.best hN hP hy he ht.1 (by decide) (by rw [q29] <;> exact hB) (by first | rfl | exact (if_pos rfl).symm | exact (if_neg (by decide)).symm) hc_80) (lv_sub hl [2, 3, 4, 5, 6, 0] rfl) hG
  exact L9 (Nat.succ (((793 : Int) - 0).toNat)) 0 vf 0 ve vg (-1) vw rv _ _ _ (Nat.lt_succ_self _) (by omega) (by omega) (fun _ => by have := MN_0 hN hy he <;> omega) (by omega) (by omega) (Or.inl ⟨rfl, fun p a b => by omega⟩) (lv_sub hl [1, 2, 3, 4, 5, 0] rfl) hG

set_option maxHeartbeats 1000000 in
set_option maxRecDepth 100000 in
theorem c_X6_nearestSlant (l : Launch) (K : KC) (va : Nat) (vl : Int) (vd : Int) (vn : Int) (vf : Int) (vt : Int) (ve : Int) (vg : Int) (vb : Int) (vw : Int) (ra : Nat) (xa : Nat) (sha : Nat) (lea : Nat) (tma : Nat) (sc : Nat) (rv : RU) (XF : Int → Int) (la : Nat) (lb : Nat) (sa : Nat) (sb : Nat) (ou : Int) (mi : Int) (bo : Int) (ln : Int) (LF : Int → Int) (sn : Int) (SF : Int → Int) (N : Int → Int) (y0 : Int) (e0 : Int) (tg : Int) (hS : ScOk N ou mi bo ln LF sn SF) (hN : NOk0 N) (hy : 0 ≤ y0 ∧ y0 < N 0) (he : e0 = 0 ∨ e0 = 1) (h1 : 0 ≤ tg ∧ tg ≤ 2147483647) (hvw : -3000000000 ≤ vw ∧ vw ≤ 3000000000) : mG l yX6_nearestSlant wsX6_nearestSlant 6 142 K [.ref va, .int (iI y0), .int (iI e0), .int (iI tg)] [gSvyC K va sc ra vl vd vn vf vt ve vg vb vw, gRayU K ra xa sha lea tma sc rv XF, gScn K sc la lb sa sb ou mi bo ln LF sn SF] (fun (v : Value) (u : Int × Int × Int × Int × Int × Int × RU × (Int → Int)) => (v = .int (iI u.2.2.2.2.1)) ∧ (EntOk N u.2.2.2.2.2.2.2) ∧ (BestI N y0 e0 0 (nsG N y0 e0 tg) True (nX N y0) u.2.2.2.2.1 u.2.2.2.2.2.1) ∧ (-3000000000 ≤ u.2.2.2.2.2.1 ∧ u.2.2.2.2.2.1 ≤ 3000000000)) (fun (u : Int × Int × Int × Int × Int × Int × RU × (Int → Int)) => [gSvyC K va sc ra y0 e0 (nX N y0) u.1 u.2.1 u.2.2.1 u.2.2.2.1 u.2.2.2.2.1 u.2.2.2.2.2.1, gRayU K ra xa sha lea tma sc u.2.2.2.2.2.2.1 u.2.2.2.2.2.2.2, gScn K sc la lb sa sb ou mi bo ln LF sn SF]) 0 0 := by
  refine mG_of cX6_nearestSlant 5 (by decide) rfl (Nat.le_of_ble_eq_true rfl) ?_
  intro p e s m below meth c A ls Q S C hG hl hr hlk hin hQ
  have S : CallFix p m c cX6_nearestSlant 5 s ([.ref va, .int (iI y0), .int (iI e0), .int (iI tg)] : List Value).toArray wsX6_nearestSlant RX6 := S
  have iX60 : ∀ w ∈ wsX60, w ∈ wsX6_nearestSlant := fun _ h => List.mem_cons_of_mem _ (List.mem_append_left _ (List.mem_append_left _ (List.mem_append_left _ (List.mem_append_right _ (h)))))
  have iX40 : ∀ w ∈ wsX40, w ∈ wsX6_nearestSlant := fun _ h => List.mem_cons_of_mem _ (List.mem_append_left _ (List.mem_append_left _ (List.mem_append_right _ (h))))
  have iX50 : ∀ w ∈ wsX50, w ∈ wsX6_nearestSlant := fun _ h => List.mem_cons_of_mem _ (List.mem_append_left _ (List.mem_append_right _ (h)))
  have iX70 : ∀ w ∈ wsX70, w ∈ wsX6_nearestSlant := fun _ h => List.mem_cons_of_mem _ (List.mem_append_right _ (h))
  have hl : lv_has ls 5 [(0, .ref va), (1, .int (iI y0)), (2, .int (iI e0)), (3, .int (iI tg))] := hl
  have hG : gW K A s.heap [gSvyC K va sc ra vl vd vn vf vt ve vg vb vw, gRayU K ra xa sha lea tma sc rv XF, gScn K sc la lb sa sb ou mi bo ln LF sn SF] s.heap [] := hG
  obtain ⟨e0_, e1, e2, e3, e4, e5, e6⟩ := id hS
  have n0 := hN.1
  have nx := (lay_bd hN hy.1 hy.2).1
  refine lv_aload_n S.1 S.2.1 dX6_nearestSlant_0 rfl (lv_at hl 0 rfl) ?_
  refine lv_iload_n S.1 S.2.1 dX6_nearestSlant_1 rfl (lv_at hl 1 rfl) ?_
  refine lv_iload_n S.1 S.2.1 dX6_nearestSlant_2 rfl (lv_at hl 2 rfl) ?_
  refine g_invVv (As := [.int (iI y0), .int (iI e0)]) (rest := []) (gs' := (fun u : (Int → Int) => [gSvyC K va sc ra y0 e0 (nX N y0) vf 0 ve vg (-1) vw, gRayU K ra xa sha lea tma sc rv u, gScn K sc la lb sa sb ou mi bo ln LF sn SF])) S C hG [0, 1, 2] (c_X6_start l K va vl vd vn vf vt ve vg vb vw ra xa sha lea tma sc rv XF la lb sa sb ou mi bo ln LF sn SF N y0 e0 hS hN hy he) rfl rfl 0 rfl rfl (cwV 2 S.2.2.2.2 gX6_nearestSlant_X6_start rfl rfl rfl (by decide +kernel) ⟨Nat.le_of_ble_eq_true rfl, Nat.le_of_ble_eq_true rfl⟩) rfl hl.1 rfl (Nat.le_of_ble_eq_true rfl) dX6_nearestSlant_3 ⟨Nat.le_of_ble_eq_true rfl, Nat.le_of_ble_eq_true rfl⟩ (fun _ => Nat.le_of_ble_eq_true rfl) (fun _ => rfl) (fun u H locs hp hG => ?_)
  obtain ⟨X2_3, rfl⟩ : ∃ z, z = u := ⟨_, rfl⟩
  have hE_3 := hp
  have hE_3 : EntOk N X2_3 := hE_3
  have hG : gW K A s.heap [gSvyC K va sc ra y0 e0 (nX N y0) vf 0 ve vg (-1) vw, gRayU K ra xa sha lea tma sc rv X2_3, gScn K sc la lb sa sb ou mi bo ln LF sn SF] _ _ := hG
  refine g_iconst S dX6_nearestSlant_6 ?_
  refine lv_istore (lv' := [(4, .int (iI 0)), (0, .ref va), (1, .int (iI y0)), (2, .int (iI e0)), (3, .int (iI tg))]) S.1 S.2.1 dX6_nearestSlant_7 hl (by decide) rfl (fun ls hl => ?_)
  have L9 : ∀ (fu : Nat) (w : Int) (uf : Int) (ut : Int) (ue : Int) (ug : Int) (ub : Int) (uw : Int) (rv1 : RU) (H : Heap) (locs : List Loc) (ls : Array Slot), (((793 : Int) - w).toNat) < fu → (0 ≤ w ∧ w ≤ 793) → (0 ≤ ut ∧ ut ≤ nX N y0) → (ut < nX N y0 → w + MN N y0 e0 ut ≤ 793) → (-1 ≤ ub ∧ ub ≤ 4000) → (-3000000000 ≤ uw ∧ uw ≤ 3000000000) → (BestI N y0 e0 0 (nsG N y0 e0 tg) True ut ub uw) → lv_has ls 5 [(0, .ref va), (1, .int (iI y0)), (2, .int (iI e0)), (3, .int (iI tg)), (4, .int (iI w))] → gW K A s.heap [gSvyC K va sc ra y0 e0 (nX N y0) uf ut ue ug ub uw, gRayU K ra xa sha lea tma sc rv1 X2_3, gScn K sc la lb sa sb ou mi bo ln LF sn SF] H locs → W p l e { frames := 6, cells := 0, slots := 0, locals := 142 } s m ([.ref va, .int (iI y0), .int (iI e0), .int (iI tg)] : List Value).toArray below meth c H locs 0 0 Q (F0 m 9 ls []) := by
    intro fu
    induction fu with
    | zero => intro w uf ut ue ug ub uw rv1 H locs ls hfu; exact absurd hfu (Nat.not_lt_zero _)
    | succ fu ih =>
      intro w uf ut ue ug ub uw rv1 H locs ls hfu hw ht hM hub huw hB hl hG
      refine lv_iload S.1 S.2.1 dX6_nearestSlant_9 (lv_at hl 4 rfl) ?_
      refine g_sipush S dX6_nearestSlant_11 (by decide) ?_
      refine g_icmp_ge (tgt := 42) S dX6_nearestSlant_14 (by decide) (by omega) (by omega) (fun q14 => ?_) (fun q14 => ?_)
      · skip
        refine lv_aload_n S.1 S.2.1 dX6_nearestSlant_42 rfl (lv_at hl 0 rfl) ?_
        refine g_get S C hG iX60 0 rfl rfl 9 (by decide) (List.mem_of_getElem? (i := 2) rfl) rfl dX6_nearestSlant_43 ?_
        have e9 : ut = nX N y0 := (by by_cases g : ut < nX N y0 <;> first | omega | (have p1 := hM g; have p2 := MN_pos hN hy he ht.1 g; omega))
        have hG : gW K A s.heap [gSvyC K va sc ra y0 e0 (nX N y0) uf ut ue ug ub uw, gRayU K ra xa sha lea tma sc rv1 X2_3, gScn K sc la lb sa sb ou mi bo ln LF sn SF] _ _ := hG
        exact g_iret S hr hlk hQ dX6_nearestSlant_46 (Nat.le_of_ble_eq_true rfl) (Nat.le_of_ble_eq_true rfl) ((uf, ut, ue, ug, ub, uw, rv1, X2_3) : Int × Int × Int × Int × Int × Int × RU × (Int → Int)) ⟨rfl, hE_3, (e9 ▸ hB), huw⟩ hG
      · skip
        refine lv_aload_n S.1 S.2.1 dX6_nearestSlant_17 rfl (lv_at hl 0 rfl) ?_
        refine g_invV (As := []) (rest := []) (gs' := (fun u : RU × Int × Int × Int => [gSvyC K va sc ra y0 e0 (nX N y0) ut u.2.1 u.2.2.1 u.2.2.2 ub uw, gRayU K ra xa sha lea tma sc u.1 X2_3, gScn K sc la lb sa sb ou mi bo ln LF sn SF])) S C hG [0, 1, 2] (c_X6_nextPart l K va y0 e0 (nX N y0) uf ut ue ug ub uw ra xa sha lea tma sc rv1 X2_3 la lb sa sb ou mi bo ln LF sn SF N hS hN hE_3 hy rfl he ht) rfl rfl 0 rfl rfl (cwV 0 S.2.2.2.2 gX6_nearestSlant_X6_nextPart rfl rfl rfl (by decide +kernel) ⟨Nat.le_of_ble_eq_true rfl, Nat.le_of_ble_eq_true rfl⟩) rfl hl.1 rfl (Nat.le_of_ble_eq_true rfl) dX6_nearestSlant_18 ⟨Nat.le_of_ble_eq_true rfl, Nat.le_of_ble_eq_true rfl⟩ (fun _ => Nat.le_of_ble_eq_true rfl) (fun _ => rfl) (fun v u H locs hp hG => ?_)
        obtain ⟨rv2_18, vt2_18, ve2_18, vg2_18⟩ := u
        obtain ⟨rfl, hp_18, hq_18⟩ := hp
        have hp_18 : ut < (nX N y0) → PartN N y0 e0 ut vt2_18 ve2_18 := hp_18
        have hq_18 : ¬ ut < (nX N y0) → vt2_18 = ut := hq_18
        have hG : gW K A s.heap [gSvyC K va sc ra y0 e0 (nX N y0) ut vt2_18 ve2_18 vg2_18 ub uw, gRayU K ra xa sha lea tma sc rv2_18 X2_3, gScn K sc la lb sa sb ou mi bo ln LF sn SF] _ _ := hG
        refine g_ifeq_b (B := (ut < (nX N y0))) (tgt := 42) S dX6_nearestSlant_21 (by decide) (fun q21 => ?_) (fun q21 => ?_)
        · skip
          refine lv_aload_n S.1 S.2.1 dX6_nearestSlant_42 rfl (lv_at hl 0 rfl) ?_
          refine g_get S C hG iX60 0 rfl rfl 9 (by decide) (List.mem_of_getElem? (i := 2) rfl) rfl dX6_nearestSlant_43 ?_
          have e9 : ut = nX N y0 := (by by_cases g : ut < nX N y0 <;> first | omega | (have p1 := hM g; have p2 := MN_pos hN hy he ht.1 g; omega))
          have hG : gW K A s.heap [gSvyC K va sc ra y0 e0 (nX N y0) ut vt2_18 ve2_18 vg2_18 ub uw, gRayU K ra xa sha lea tma sc rv2_18 X2_3, gScn K sc la lb sa sb ou mi bo ln LF sn SF] _ _ := hG
          exact g_iret S hr hlk hQ dX6_nearestSlant_46 (Nat.le_of_ble_eq_true rfl) (Nat.le_of_ble_eq_true rfl) ((ut, vt2_18, ve2_18, vg2_18, ub, uw, rv2_18, X2_3) : Int × Int × Int × Int × Int × Int × RU × (Int → Int)) ⟨rfl, hE_3, (e9 ▸ hB), huw⟩ hG
        · skip
          have hP := hp_18 q21
          obtain ⟨⟨hP1, hP2⟩, hP3, hP4, hP5, hP6⟩ := id hP
          have b1 := enF_bd N ut y0 e0
          refine lv_aload_n S.1 S.2.1 dX6_nearestSlant_24 rfl (lv_at hl 0 rfl) ?_
          refine g_get S C hG iX60 0 rfl rfl 7 (by decide) (List.mem_of_getElem? (i := 1) rfl) rfl dX6_nearestSlant_25 ?_
          refine g_if_ne (tgt := 36) S dX6_nearestSlant_28 (by decide) (by omega) (fun q28 => ?_) (fun q28 => ?_)
          · skip
            refine lv_iinc (v := iI (w + 1)) (lv' := [(4, .int (iI (w + 1))), (0, .ref va), (1, .int (iI y0)), (2, .int (iI e0)), (3, .int (iI tg))]) S.1 S.2.1 dX6_nearestSlant_36 hl (k := 4) rfl (g_iinc rfl) (by decide) rfl (fun ls hl => ?_)
            refine lv_goto (tgt := 9) S.1 S.2.1 dX6_nearestSlant_39 (by decide) ?_
            exact ih (w + 1) ut vt2_18 ve2_18 vg2_18 ub uw rv2_18 _ _ _ (by omega) (by omega) (by omega) (fun q => by have p1 := hP5 q <;> have p2 := hM q21 <;> omega) (by omega) (by omega) (hB.skip (by omega) (fun p a b => by rw [(hP4 p a b).2.1] <;> exact q28)) (lv_sub hl [1, 2, 3, 4, 0] rfl) hG
          · skip
            refine lv_aload_n S.1 S.2.1 dX6_nearestSlant_31 rfl (lv_at hl 0 rfl) ?_
            refine lv_iload_n S.1 S.2.1 dX6_nearestSlant_32 rfl (lv_at hl 3 rfl) ?_
            refine g_invVv (As := [.int (iI tg)]) (rest := []) (gs' := (fun u : RU × Int × Int => [gSvyC K va sc ra y0 e0 (nX N y0) ut vt2_18 ve2_18 vg2_18 u.2.1 u.2.2, gRayU K ra xa sha lea tma sc u.1 X2_3, gScn K sc la lb sa sb ou mi bo ln LF sn SF])) S C hG [0, 1, 2] (c_X6_considerNearest l K va y0 e0 (nX N y0) ut vt2_18 ve2_18 vg2_18 ub uw ra xa sha lea tma sc rv2_18 X2_3 la lb sa sb ou mi bo ln LF sn SF N tg hS hN hE_3 hy rfl he hP ht.1 q28 h1 hB hub huw) rfl rfl 0 rfl rfl (cwV 1 S.2.2.2.2 gX6_nearestSlant_X6_considerNearest rfl rfl rfl (by decide +kernel) ⟨Nat.le_of_ble_eq_true rfl, Nat.le_of_ble_eq_true rfl⟩) rfl hl.1 rfl (Nat.le_of_ble_eq_true rfl) dX6_nearestSlant_33 ⟨Nat.le_of_ble_eq_true rfl, Nat.le_of_ble_eq_true rfl⟩ (fun _ => Nat.le_of_ble_eq_true rfl) (fun _ => rfl) (fun u H locs hp hG => ?_)
            obtain ⟨rv2_33, vb2_33, vw2_33⟩ := u
            obtain ⟨hB2_33, hvb2_33, hvw2_33⟩ := hp
            have hB2_33 : BestI N y0 e0 0 (nsG N y0 e0 tg) True vt2_18 vb2_33 vw2_33 := hB2_33
            have hvb2_33 : -1 ≤ vb2_33 ∧ vb2_33 ≤ 4000 := hvb2_33
            have hvw2_33 : -3000000000 ≤ vw2_33 ∧ vw2_33 ≤ 3000000000 := hvw2_33
            have hG : gW K A s.heap [gSvyC K va sc ra y0 e0 (nX N y0) ut vt2_18 ve2_18 vg2_18 vb2_33 vw2_33, gRayU K ra xa sha lea tma sc rv2_33 X2_3, gScn K sc la lb sa sb ou mi bo ln LF sn SF] _ _ := hG
            refine lv_iinc (v := iI (w + 1)) (lv' := [(4, .int (iI (w + 1))), (0, .ref va), (1, .int (iI y0)), (2, .int (iI e0)), (3, .int (iI tg))]) S.1 S.2.1 dX6_nearestSlant_36 hl (k := 4) rfl (g_iinc rfl) (by decide) rfl (fun ls hl => ?_)
            refine lv_goto (tgt := 9) S.1 S.2.1 dX6_nearestSlant_39 (by decide) ?_
            exact ih (w + 1) ut vt2_18 ve2_18 vg2_18 vb2_33 vw2_33 rv2_33 _ _ _ (by omega) (by omega) (by omega) (fun q => by have p1 := hP5 q <;> have p2 := hM q21 <;> omega) hvb2_33 hvw2_33 hB2_33 (lv_sub hl [1, 2, 3, 4, 0] rfl) hG
  exact L9 (Nat.succ (((793 : Int) - 0).toNat)) 0 vf 0 ve vg (-1) vw rv _ _ _ (Nat.lt_succ_self _) (by omega) (by omega) (fun _ => by have := MN_0 hN hy he <;> omega) (by omega) (by omega) (Or.inl ⟨rfl, fun p a b => by omega⟩) (lv_sub hl [1, 2, 3, 4, 0] rfl) hG
