def stX (N : Int → Int) (vn un : Int) : Prop := un = vn ∨ ∃ z : Int, -1 ≤ z ∧ z ≤ N 0 ∧ ixN N z = un
theorem c_X4_enterU (l : Launch) (K : KC) (ra : Nat) (xa : Nat) (sha : Nat) (lea : Nat) (tma : Nat) (sc : Nat) (rv : RU) (XF : Int → Int) (s2 : Nat) (la : Nat) (lb : Nat) (sa : Nat) (sb : Nat) (ou : Int) (mi : Int) (bo : Int) (ln : Int) (LF : Int → Int) (sn : Int) (SF : Int → Int) (N : Int → Int) (hS : ScOk N ou mi bo ln LF sn SF) (hN : NOk0 N) : mV l yX4_enter wsX4_enter 2 44 K [.ref ra, .ref s2] [gRayU K ra xa sha lea tma sc rv XF, gScn K s2 la lb sa sb ou mi bo ln LF sn SF] (fun (u : (Int → Int)) => (EntOk N u)) (fun (u : (Int → Int)) => [gRayU K ra xa sha lea tma s2 rv u, gScn K s2 la lb sa sb ou mi bo ln LF sn SF]) 0 0 :=
  mV.world (c_X4_enter l K ra xa sha lea tma sc _ _ _ _ _ _ _ _ _ _ _ _ _ XF _ _ _ s2 la lb sa sb ou mi bo ln LF sn SF N hS hN) (List.Perm.refl _) (fun u hu => ⟨u, hu, List.Perm.refl _⟩)

set_option maxHeartbeats 1000000 in
set_option maxRecDepth 100000 in
theorem c_X6_start (l : Launch) (K : KC) (va : Nat) (vl : Int) (vd : Int) (vn : Int) (vf : Int) (vt : Int) (ve : Int) (vg : Int) (vb : Int) (vw : Int) (ra : Nat) (xa : Nat) (sha : Nat) (lea : Nat) (tma : Nat) (sc : Nat) (rv : RU) (XF : Int → Int) (la : Nat) (lb : Nat) (sa : Nat) (sb : Nat) (ou : Int) (mi : Int) (bo : Int) (ln : Int) (LF : Int → Int) (sn : Int) (SF : Int → Int) (N : Int → Int) (y0 : Int) (e0 : Int) (hS : ScOk N ou mi bo ln LF sn SF) (hN : NOk0 N) (hy : 0 ≤ y0 ∧ y0 < N 0) (he : e0 = 0 ∨ e0 = 1) : mV l yX6_start wsX6_start 3 66 K [.ref va, .int (iI y0), .int (iI e0)] [gSvyC K va sc ra vl vd vn vf vt ve vg vb vw, gRayU K ra xa sha lea tma sc rv XF, gScn K sc la lb sa sb ou mi bo ln LF sn SF] (fun (u : (Int → Int)) => (EntOk N u)) (fun (u : (Int → Int)) => [gSvyC K va sc ra y0 e0 (nX N y0) vf 0 ve vg (-1) vw, gRayU K ra xa sha lea tma sc rv u, gScn K sc la lb sa sb ou mi bo ln LF sn SF]) 0 0 := by
  refine mV_of cX6_start 3 (by decide) rfl (Nat.le_of_ble_eq_true rfl) ?_
  intro p e s m below meth c A ls Q S C hG hl hr hlk hin hQ
  have S : CallFix p m c cX6_start 3 s ([.ref va, .int (iI y0), .int (iI e0)] : List Value).toArray wsX6_start RX6 := S
  have iX60 : ∀ w ∈ wsX60, w ∈ wsX6_start := fun _ h => List.mem_cons_of_mem _ (List.mem_append_left _ (List.mem_append_left _ (List.mem_append_left _ (List.mem_append_right _ (h)))))
  have iX40 : ∀ w ∈ wsX40, w ∈ wsX6_start := fun _ h => List.mem_cons_of_mem _ (List.mem_append_left _ (List.mem_append_left _ (List.mem_append_right _ (h))))
  have iX50 : ∀ w ∈ wsX50, w ∈ wsX6_start := fun _ h => List.mem_cons_of_mem _ (List.mem_append_left _ (List.mem_append_right _ (h)))
  have iX70 : ∀ w ∈ wsX70, w ∈ wsX6_start := fun _ h => List.mem_cons_of_mem _ (List.mem_append_right _ (h))
  have hl : lv_has ls 3 [(0, .ref va), (1, .int (iI y0)), (2, .int (iI e0))] := hl
  have hG : gW K A s.heap [gSvyC K va sc ra vl vd vn vf vt ve vg vb vw, gRayU K ra xa sha lea tma sc rv XF, gScn K sc la lb sa sb ou mi bo ln LF sn SF] s.heap [] := hG
  obtain ⟨e0_, e1, e2, e3, e4, e5, e6⟩ := id hS
  have n0 := hN.1
  refine lv_aload_n S.1 S.2.1 dX6_start_0 rfl (lv_at hl 0 rfl) ?_
  refine g_get S C hG iX60 0 rfl rfl 1 (by decide) (List.mem_of_getElem? (i := 1) rfl) rfl dX6_start_1 ?_
  refine lv_aload_n S.1 S.2.1 dX6_start_4 rfl (lv_at hl 0 rfl) ?_
  refine g_get S C hG iX60 0 rfl rfl 0 (by decide) (List.mem_of_getElem? (i := 2) rfl) rfl dX6_start_5 ?_
  refine g_invVv (As := [.ref sc]) (rest := []) (gs' := (fun u : (Int → Int) => [gSvyC K va sc ra vl vd vn vf vt ve vg vb vw, gRayU K ra xa sha lea tma sc rv u, gScn K sc la lb sa sb ou mi bo ln LF sn SF])) S C hG [1, 2] (c_X4_enterU l K ra xa sha lea tma sc rv XF sc la lb sa sb ou mi bo ln LF sn SF N hS hN) rfl rfl 0 rfl rfl (cwV 1 S.2.2.2.2 gX6_start_X4_enter rfl rfl rfl (by decide +kernel) ⟨Nat.le_of_ble_eq_true rfl, Nat.le_of_ble_eq_true rfl⟩) rfl hl.1 rfl (Nat.le_of_ble_eq_true rfl) dX6_start_8 ⟨Nat.le_of_ble_eq_true rfl, Nat.le_of_ble_eq_true rfl⟩ (fun _ => Nat.le_of_ble_eq_true rfl) (fun _ => rfl) (fun u H locs hp hG => ?_)
  obtain ⟨X2, rfl⟩ : ∃ z, z = u := ⟨_, rfl⟩
  have hE_8 := hp
  have hE_8 : EntOk N X2 := hE_8
  have hG : gW K A s.heap [gSvyC K va sc ra vl vd vn vf vt ve vg vb vw, gRayU K ra xa sha lea tma sc rv X2, gScn K sc la lb sa sb ou mi bo ln LF sn SF] _ _ := hG
  refine lv_aload_n S.1 S.2.1 dX6_start_11 rfl (lv_at hl 0 rfl) ?_
  refine lv_iload_n S.1 S.2.1 dX6_start_12 rfl (lv_at hl 1 rfl) ?_
  refine g_put (gs' := [gSvyC K va sc ra y0 vd vn vf vt ve vg vb vw, gRayU K ra xa sha lea tma sc rv X2, gScn K sc la lb sa sb ou mi bo ln LF sn SF]) S C hG iX60 tyX6 tyX6_ok nmX6 0 rfl rfl 2 (by decide) (List.mem_of_getElem? (i := 3) rfl) rfl rfl rfl (Nat.le_of_ble_eq_true rfl) rfl dX6_start_13 (fun H locs hG => ?_)
  refine lv_aload_n S.1 S.2.1 dX6_start_16 rfl (lv_at hl 0 rfl) ?_
  refine lv_iload_n S.1 S.2.1 dX6_start_17 rfl (lv_at hl 2 rfl) ?_
  refine g_put (gs' := [gSvyC K va sc ra y0 e0 vn vf vt ve vg vb vw, gRayU K ra xa sha lea tma sc rv X2, gScn K sc la lb sa sb ou mi bo ln LF sn SF]) S C hG iX60 tyX6 tyX6_ok nmX6 0 rfl rfl 3 (by decide) (List.mem_of_getElem? (i := 4) rfl) rfl (nz_b (by omega)) (fz_b (by omega)) (Nat.le_of_ble_eq_true rfl) rfl dX6_start_18 (fun H locs hG => ?_)
  refine lv_aload_n S.1 S.2.1 dX6_start_21 rfl (lv_at hl 0 rfl) ?_
  refine lv_aload_n S.1 S.2.1 dX6_start_22 rfl (lv_at hl 0 rfl) ?_
  refine g_get S C hG iX60 0 rfl rfl 0 (by decide) (List.mem_of_getElem? (i := 2) rfl) rfl dX6_start_23 ?_
  refine lv_iload_n S.1 S.2.1 dX6_start_26 rfl (lv_at hl 1 rfl) ?_
  refine g_invV (As := [.int (iI y0)]) (rest := [.ref va]) (gs' := (fun u : Unit => [gSvyC K va sc ra y0 e0 vn vf vt ve vg vb vw, gRayU K ra xa sha lea tma sc rv X2, gScn K sc la lb sa sb ou mi bo ln LF sn SF])) S C hG [2] (c_X5_indexAt l K sc la lb sa sb ou mi bo ln LF sn SF N y0 hS hN (by omega)) rfl rfl 0 rfl rfl (cwV 1 S.2.2.2.2 gX6_start_X5_indexAt rfl rfl rfl (by decide +kernel) ⟨Nat.le_of_ble_eq_true rfl, Nat.le_of_ble_eq_true rfl⟩) rfl hl.1 rfl (Nat.le_of_ble_eq_true rfl) dX6_start_27 ⟨Nat.le_of_ble_eq_true rfl, Nat.le_of_ble_eq_true rfl⟩ (fun _ => Nat.le_of_ble_eq_true rfl) (fun _ => rfl) (fun v u H locs hp hG => ?_)
  subst hp
  refine g_top (w := .int (iI (nX N y0))) (congrArg (fun z : Int => Value.int (iI z)) (ixN_in hy)) ?_
  refine g_put (gs' := [gSvyC K va sc ra y0 e0 (nX N y0) vf vt ve vg vb vw, gRayU K ra xa sha lea tma sc rv X2, gScn K sc la lb sa sb ou mi bo ln LF sn SF]) S C hG iX60 tyX6 tyX6_ok nmX6 0 rfl rfl 4 (by decide) (List.mem_of_getElem? (i := 5) rfl) rfl rfl rfl (Nat.le_of_ble_eq_true rfl) rfl dX6_start_30 (fun H locs hG => ?_)
  refine lv_aload_n S.1 S.2.1 dX6_start_33 rfl (lv_at hl 0 rfl) ?_
  refine g_iconst S dX6_start_34 ?_
  refine g_put (gs' := [gSvyC K va sc ra y0 e0 (nX N y0) vf 0 ve vg vb vw, gRayU K ra xa sha lea tma sc rv X2, gScn K sc la lb sa sb ou mi bo ln LF sn SF]) S C hG iX60 tyX6 tyX6_ok nmX6 0 rfl rfl 6 (by decide) (List.mem_of_getElem? (i := 6) rfl) rfl rfl rfl (Nat.le_of_ble_eq_true rfl) rfl dX6_start_35 (fun H locs hG => ?_)
  refine lv_aload_n S.1 S.2.1 dX6_start_38 rfl (lv_at hl 0 rfl) ?_
  refine g_iconst S dX6_start_39 ?_
  refine g_put (gs' := [gSvyC K va sc ra y0 e0 (nX N y0) vf 0 ve vg (-1) vw, gRayU K ra xa sha lea tma sc rv X2, gScn K sc la lb sa sb ou mi bo ln LF sn SF]) S C hG iX60 tyX6 tyX6_ok nmX6 0 rfl rfl 9 (by decide) (List.mem_of_getElem? (i := 7) rfl) rfl rfl rfl (Nat.le_of_ble_eq_true rfl) rfl dX6_start_40 (fun H locs hG => ?_)
  have hG : gW K A s.heap [gSvyC K va sc ra y0 e0 (nX N y0) vf 0 ve vg (-1) vw, gRayU K ra xa sha lea tma sc rv X2, gScn K sc la lb sa sb ou mi bo ln LF sn SF] _ _ := hG
  exact g_vret S hr hlk hQ dX6_start_43 (Nat.le_of_ble_eq_true rfl) (Nat.le_of_ble_eq_true rfl) ((X2) : (Int → Int)) hE_8 hG

set_option maxHeartbeats 1000000 in
set_option maxRecDepth 100000 in
theorem c_X6_sameTurnsUntil (l : Launch) (K : KC) (va : Nat) (vl : Int) (vd : Int) (vn : Int) (vf : Int) (vt : Int) (ve : Int) (vg : Int) (vb : Int) (vw : Int) (ra : Nat) (xa : Nat) (sha : Nat) (lea : Nat) (tma : Nat) (sc : Nat) (rv : RU) (XF : Int → Int) (la : Nat) (lb : Nat) (sa : Nat) (sb : Nat) (ou : Int) (mi : Int) (bo : Int) (ln : Int) (LF : Int → Int) (sn : Int) (SF : Int → Int) (N : Int → Int) (hS : ScOk N ou mi bo ln LF sn SF) (hN : NOk0 N) (hy : 0 ≤ vl ∧ vl < N 0) (hvn : vn = nX N vl) (hf : 0 ≤ vf ∧ vf < vn) : mG l yX6_sameTurnsUntil wsX6_sameTurnsUntil 2 44 K [.ref va] [gSvyC K va sc ra vl vd vn vf vt ve vg vb vw, gRayU K ra xa sha lea tma sc rv XF, gScn K sc la lb sa sb ou mi bo ln LF sn SF] (fun (v : Value) (u : Int) => (v = .int (iI u)) ∧ (untN N vl vf u)) (fun (u : Int) => [gSvyC K va sc ra vl vd vn vf vt ve vg vb vw, gRayU K ra xa sha lea tma sc rv XF, gScn K sc la lb sa sb ou mi bo ln LF sn SF]) 0 0 := by
  refine mG_of cX6_sameTurnsUntil 4 (by decide) rfl (Nat.le_of_ble_eq_true rfl) ?_
  intro p e s m below meth c A ls Q S C hG hl hr hlk hin hQ
  have S : CallFix p m c cX6_sameTurnsUntil 4 s ([.ref va] : List Value).toArray wsX6_sameTurnsUntil RX6 := S
  have iX60 : ∀ w ∈ wsX60, w ∈ wsX6_sameTurnsUntil := fun _ h => List.mem_cons_of_mem _ (List.mem_append_left _ (List.mem_append_left _ (List.mem_append_right _ (h))))
  have iX50 : ∀ w ∈ wsX50, w ∈ wsX6_sameTurnsUntil := fun _ h => List.mem_cons_of_mem _ (List.mem_append_left _ (List.mem_append_right _ (h)))
  have iX70 : ∀ w ∈ wsX70, w ∈ wsX6_sameTurnsUntil := fun _ h => List.mem_cons_of_mem _ (List.mem_append_right _ (h))
  have hl : lv_has ls 4 [(0, .ref va)] := hl
  have hG : gW K A s.heap [gSvyC K va sc ra vl vd vn vf vt ve vg vb vw, gRayU K ra xa sha lea tma sc rv XF, gScn K sc la lb sa sb ou mi bo ln LF sn SF] s.heap [] := hG
  obtain ⟨e0_, e1, e2, e3, e4, e5, e6⟩ := id hS
  have n0 := hN.1
  have nx := (lay_bd hN hy.1 hy.2).1
  refine lv_aload_n S.1 S.2.1 dX6_sameTurnsUntil_0 rfl (lv_at hl 0 rfl) ?_
  refine g_get S C hG iX60 0 rfl rfl 4 (by decide) (List.mem_of_getElem? (i := 1) rfl) rfl dX6_sameTurnsUntil_1 ?_
  refine lv_istore_n (lv' := [(1, .int (iI vn)), (0, .ref va)]) S.1 S.2.1 dX6_sameTurnsUntil_4 rfl hl (by decide) rfl (fun ls hl => ?_)
  refine g_iconst S dX6_sameTurnsUntil_5 ?_
  refine lv_istore_n (lv' := [(2, .int (iI (-1))), (1, .int (iI vn)), (0, .ref va)]) S.1 S.2.1 dX6_sameTurnsUntil_6 rfl hl (by decide) rfl (fun ls hl => ?_)
  have L7 : ∀ (fu : Nat) (w : Int) (un : Int) (H : Heap) (locs : List Loc) (ls : Array Slot), ((N 0 + 1 - w).toNat) < fu → (-1 ≤ w ∧ w ≤ N 0 + 1) → (vf < un ∧ un ≤ vn) → (∀ z : Int, -1 ≤ z → z < w → vf < ixN N z → un ≤ ixN N z) → (stX N vn un) → lv_has ls 4 [(0, .ref va), (1, .int (iI un)), (2, .int (iI w))] → gW K A s.heap [gSvyC K va sc ra vl vd vn vf vt ve vg vb vw, gRayU K ra xa sha lea tma sc rv XF, gScn K sc la lb sa sb ou mi bo ln LF sn SF] H locs → W p l e { frames := 2, cells := 0, slots := 0, locals := 44 } s m ([.ref va] : List Value).toArray below meth c H locs 0 0 Q (F0 m 7 ls []) := by
    intro fu
    induction fu with
    | zero => intro w un H locs ls hfu; exact absurd hfu (Nat.not_lt_zero _)
    | succ fu ih =>
      intro w un H locs ls hfu hw hu hz hx hl hG
      refine lv_iload_n S.1 S.2.1 dX6_sameTurnsUntil_7 rfl (lv_at hl 2 rfl) ?_
      refine lv_aload_n S.1 S.2.1 dX6_sameTurnsUntil_8 rfl (lv_at hl 0 rfl) ?_
      refine g_get S C hG iX60 0 rfl rfl 0 (by decide) (List.mem_of_getElem? (i := 2) rfl) rfl dX6_sameTurnsUntil_9 ?_
      refine g_get S C hG iX50 6 rfl rfl 0 (by decide) (List.mem_of_getElem? (i := 3) rfl) rfl dX6_sameTurnsUntil_12 ?_
      refine g_get S C hG iX70 7 rfl rfl 1 (by decide) (List.mem_of_getElem? (i := 4) rfl) rfl dX6_sameTurnsUntil_15 ?_
      refine g_icmp_gt (tgt := 51) S dX6_sameTurnsUntil_18 (by decide) (by omega) (by omega) (fun q18 => ?_) (fun q18 => ?_)
      · skip
        refine lv_iload_n S.1 S.2.1 dX6_sameTurnsUntil_51 rfl (lv_at hl 1 rfl) ?_
        have hG : gW K A s.heap [gSvyC K va sc ra vl vd vn vf vt ve vg vb vw, gRayU K ra xa sha lea tma sc rv XF, gScn K sc la lb sa sb ou mi bo ln LF sn SF] _ _ := hG
        exact g_iret S hr hlk hQ dX6_sameTurnsUntil_52 (Nat.le_of_ble_eq_true rfl) (Nat.le_of_ble_eq_true rfl) ((un) : Int) ⟨rfl, ⟨⟨hu.1, by omega⟩, fun z a b c => hz z a (by omega) c, (by rw [← hvn]; exact hx)⟩⟩ hG
      · skip
        refine lv_aload_n S.1 S.2.1 dX6_sameTurnsUntil_21 rfl (lv_at hl 0 rfl) ?_
        refine g_get S C hG iX60 0 rfl rfl 0 (by decide) (List.mem_of_getElem? (i := 2) rfl) rfl dX6_sameTurnsUntil_22 ?_
        refine lv_iload_n S.1 S.2.1 dX6_sameTurnsUntil_25 rfl (lv_at hl 2 rfl) ?_
        refine g_invV (As := [.int (iI w)]) (rest := []) (gs' := (fun u : Unit => [gSvyC K va sc ra vl vd vn vf vt ve vg vb vw, gRayU K ra xa sha lea tma sc rv XF, gScn K sc la lb sa sb ou mi bo ln LF sn SF])) S C hG [2] (c_X5_indexAt l K sc la lb sa sb ou mi bo ln LF sn SF N w hS hN (by omega)) rfl rfl 0 rfl rfl (cwV 1 S.2.2.2.2 gX6_sameTurnsUntil_X5_indexAt rfl rfl rfl (by decide +kernel) ⟨Nat.le_of_ble_eq_true rfl, Nat.le_of_ble_eq_true rfl⟩) rfl hl.1 rfl (Nat.le_of_ble_eq_true rfl) dX6_sameTurnsUntil_26 ⟨Nat.le_of_ble_eq_true rfl, Nat.le_of_ble_eq_true rfl⟩ (fun _ => Nat.le_of_ble_eq_true rfl) (fun _ => rfl) (fun v u H locs hp hG => ?_)
        subst hp
        have ib := ixN_bd hN w
        refine lv_istore_n (lv' := [(3, .int (iI (ixN N w))), (0, .ref va), (1, .int (iI un)), (2, .int (iI w))]) S.1 S.2.1 dX6_sameTurnsUntil_29 rfl hl (by decide) rfl (fun ls hl => ?_)
        refine lv_iload_n S.1 S.2.1 dX6_sameTurnsUntil_30 rfl (lv_at hl 0 rfl) ?_
        refine lv_aload_n S.1 S.2.1 dX6_sameTurnsUntil_31 rfl (lv_at hl 1 rfl) ?_
        refine g_get S C hG iX60 0 rfl rfl 5 (by decide) (List.mem_of_getElem? (i := 5) rfl) rfl dX6_sameTurnsUntil_32 ?_
        refine g_icmp_le (tgt := 45) S dX6_sameTurnsUntil_35 (by decide) (by omega) (by omega) (fun q35 => ?_) (fun q35 => ?_)
        · skip
          refine lv_iinc (v := iI (w + 1)) (lv' := [(2, .int (iI (w + 1))), (3, .int (iI (ixN N w))), (0, .ref va), (1, .int (iI un))]) S.1 S.2.1 dX6_sameTurnsUntil_45 hl (k := 3) rfl (g_iinc rfl) (by decide) rfl (fun ls hl => ?_)
          refine lv_goto (tgt := 7) S.1 S.2.1 dX6_sameTurnsUntil_48 (by decide) ?_
          exact ih (w + 1) un _ _ _ (by omega) (by omega) (by omega) (stu_keep hz (fun q => absurd q (by omega)) (Int.le_refl _)) hx (lv_sub hl [2, 3, 0] rfl) hG
        · skip
          refine lv_iload_n S.1 S.2.1 dX6_sameTurnsUntil_38 rfl (lv_at hl 0 rfl) ?_
          refine lv_iload_n S.1 S.2.1 dX6_sameTurnsUntil_39 rfl (lv_at hl 2 rfl) ?_
          refine g_icmp_ge (tgt := 45) S dX6_sameTurnsUntil_40 (by decide) (by omega) (by omega) (fun q40 => ?_) (fun q40 => ?_)
          · skip
            refine lv_iinc (v := iI (w + 1)) (lv' := [(2, .int (iI (w + 1))), (3, .int (iI (ixN N w))), (0, .ref va), (1, .int (iI un))]) S.1 S.2.1 dX6_sameTurnsUntil_45 hl (k := 3) rfl (g_iinc rfl) (by decide) rfl (fun ls hl => ?_)
            refine lv_goto (tgt := 7) S.1 S.2.1 dX6_sameTurnsUntil_48 (by decide) ?_
            exact ih (w + 1) un _ _ _ (by omega) (by omega) (by omega) (stu_keep hz (fun q => by omega) (Int.le_refl _)) hx (lv_sub hl [2, 3, 0] rfl) hG
          · skip
            refine lv_iload_n S.1 S.2.1 dX6_sameTurnsUntil_43 rfl (lv_at hl 0 rfl) ?_
            refine lv_istore_n (lv' := [(1, .int (iI (ixN N w))), (3, .int (iI (ixN N w))), (0, .ref va), (2, .int (iI w))]) S.1 S.2.1 dX6_sameTurnsUntil_44 rfl hl (by decide) rfl (fun ls hl => ?_)
            refine lv_iinc (v := iI (w + 1)) (lv' := [(2, .int (iI (w + 1))), (1, .int (iI (ixN N w))), (3, .int (iI (ixN N w))), (0, .ref va)]) S.1 S.2.1 dX6_sameTurnsUntil_45 hl (k := 3) rfl (g_iinc rfl) (by decide) rfl (fun ls hl => ?_)
            refine lv_goto (tgt := 7) S.1 S.2.1 dX6_sameTurnsUntil_48 (by decide) ?_
            exact ih (w + 1) (ixN N w) _ _ _ (by omega) (by omega) (by omega) (stu_keep hz (fun q => Int.le_refl _) (by omega)) (Or.inr ⟨w, by omega, by omega, rfl⟩) (lv_sub hl [3, 1, 0] rfl) hG
  exact L7 (Nat.succ ((N 0 + 1 - (-1)).toNat)) (-1) vn _ _ _ (Nat.lt_succ_self _) (by omega) (by omega) (fun z a b c => by omega) (Or.inl rfl) (lv_sub hl [2, 1, 0] rfl) hG

set_option maxHeartbeats 1000000 in
set_option maxRecDepth 100000 in
theorem c_X6_nextPart (l : Launch) (K : KC) (va : Nat) (vl : Int) (vd : Int) (vn : Int) (vf : Int) (vt : Int) (ve : Int) (vg : Int) (vb : Int) (vw : Int) (ra : Nat) (xa : Nat) (sha : Nat) (lea : Nat) (tma : Nat) (sc : Nat) (rv : RU) (XF : Int → Int) (la : Nat) (lb : Nat) (sa : Nat) (sb : Nat) (ou : Int) (mi : Int) (bo : Int) (ln : Int) (LF : Int → Int) (sn : Int) (SF : Int → Int) (N : Int → Int) (hS : ScOk N ou mi bo ln LF sn SF) (hN : NOk0 N) (hE : EntOk N XF) (hy : 0 ≤ vl ∧ vl < N 0) (hvn : vn = nX N vl) (hd : vd = 0 ∨ vd = 1) (ht : 0 ≤ vt ∧ vt ≤ vn) : mG l yX6_nextPart wsX6_nextPart 4 94 K [.ref va] [gSvyC K va sc ra vl vd vn vf vt ve vg vb vw, gRayU K ra xa sha lea tma sc rv XF, gScn K sc la lb sa sb ou mi bo ln LF sn SF] (fun (v : Value) (u : RU × Int × Int × Int) => (v = .int (iI (bI (vt < vn)))) ∧ (vt < vn → PartN N vl vd vt u.2.1 u.2.2.1) ∧ (¬ vt < vn → u.2.1 = vt)) (fun (u : RU × Int × Int × Int) => [gSvyC K va sc ra vl vd vn vt u.2.1 u.2.2.1 u.2.2.2 vb vw, gRayU K ra xa sha lea tma sc u.1 XF, gScn K sc la lb sa sb ou mi bo ln LF sn SF]) 0 0 := by
  refine mG_of cX6_nextPart 4 (by decide) rfl (Nat.le_of_ble_eq_true rfl) ?_
  intro p e s m below meth c A ls Q S C hG hl hr hlk hin hQ
  have S : CallFix p m c cX6_nextPart 4 s ([.ref va] : List Value).toArray wsX6_nextPart RX6 := S
  have iX60 : ∀ w ∈ wsX60, w ∈ wsX6_nextPart := fun _ h => List.mem_cons_of_mem _ (List.mem_append_left _ (List.mem_append_left _ (List.mem_append_left _ (List.mem_append_right _ (h)))))
  have iX40 : ∀ w ∈ wsX40, w ∈ wsX6_nextPart := fun _ h => List.mem_cons_of_mem _ (List.mem_append_left _ (List.mem_append_left _ (List.mem_append_right _ (h))))
  have iX50 : ∀ w ∈ wsX50, w ∈ wsX6_nextPart := fun _ h => List.mem_cons_of_mem _ (List.mem_append_left _ (List.mem_append_right _ (h)))
  have iX70 : ∀ w ∈ wsX70, w ∈ wsX6_nextPart := fun _ h => List.mem_cons_of_mem _ (List.mem_append_right _ (h))
  have hl : lv_has ls 4 [(0, .ref va)] := hl
  have hG : gW K A s.heap [gSvyC K va sc ra vl vd vn vf vt ve vg vb vw, gRayU K ra xa sha lea tma sc rv XF, gScn K sc la lb sa sb ou mi bo ln LF sn SF] s.heap [] := hG
  obtain ⟨e0_, e1, e2, e3, e4, e5, e6⟩ := id hS
  have n0 := hN.1
  have nx := (lay_bd hN hy.1 hy.2).1
  refine lv_aload_n S.1 S.2.1 dX6_nextPart_0 rfl (lv_at hl 0 rfl) ?_
  refine lv_aload_n S.1 S.2.1 dX6_nextPart_1 rfl (lv_at hl 0 rfl) ?_
  refine g_get S C hG iX60 0 rfl rfl 6 (by decide) (List.mem_of_getElem? (i := 1) rfl) rfl dX6_nextPart_2 ?_
  refine g_put (gs' := [gSvyC K va sc ra vl vd vn vt vt ve vg vb vw, gRayU K ra xa sha lea tma sc rv XF, gScn K sc la lb sa sb ou mi bo ln LF sn SF]) S C hG iX60 tyX6 tyX6_ok nmX6 0 rfl rfl 5 (by decide) (List.mem_of_getElem? (i := 2) rfl) rfl rfl rfl (Nat.le_of_ble_eq_true rfl) rfl dX6_nextPart_5 (fun H locs hG => ?_)
  refine lv_aload_n S.1 S.2.1 dX6_nextPart_8 rfl (lv_at hl 0 rfl) ?_
  refine g_get S C hG iX60 0 rfl rfl 5 (by decide) (List.mem_of_getElem? (i := 2) rfl) rfl dX6_nextPart_9 ?_
  refine lv_aload_n S.1 S.2.1 dX6_nextPart_12 rfl (lv_at hl 0 rfl) ?_
  refine g_get S C hG iX60 0 rfl rfl 4 (by decide) (List.mem_of_getElem? (i := 3) rfl) rfl dX6_nextPart_13 ?_
  refine g_icmp_lt (tgt := 21) S dX6_nextPart_16 (by decide) (by omega) (by omega) (fun q16 => ?_) (fun q16 => ?_)
  · skip
    refine lv_aload_n S.1 S.2.1 dX6_nextPart_21 rfl (lv_at hl 0 rfl) ?_
    refine g_get S C hG iX60 0 rfl rfl 1 (by decide) (List.mem_of_getElem? (i := 4) rfl) rfl dX6_nextPart_22 ?_
    refine lv_aload_n S.1 S.2.1 dX6_nextPart_25 rfl (lv_at hl 0 rfl) ?_
    refine g_get S C hG iX60 0 rfl rfl 2 (by decide) (List.mem_of_getElem? (i := 5) rfl) rfl dX6_nextPart_26 ?_
    refine lv_aload_n S.1 S.2.1 dX6_nextPart_29 rfl (lv_at hl 0 rfl) ?_
    refine g_get S C hG iX60 0 rfl rfl 3 (by decide) (List.mem_of_getElem? (i := 6) rfl) rfl dX6_nextPart_30 ?_
    refine lv_aload_n S.1 S.2.1 dX6_nextPart_33 rfl (lv_at hl 0 rfl) ?_
    refine g_get S C hG iX60 0 rfl rfl 5 (by decide) (List.mem_of_getElem? (i := 2) rfl) rfl dX6_nextPart_34 ?_
    refine g_invVv (As := [.int (iI vl), .int (iI vd), .int (iI vt)]) (rest := []) (gs' := (fun u : RU => [gSvyC K va sc ra vl vd vn vt vt ve vg vb vw, gRayU K ra xa sha lea tma sc u XF, gScn K sc la lb sa sb ou mi bo ln LF sn SF])) S C hG [1, 2] (c_X4_runU l K ra xa sha lea tma sc rv XF la lb sa sb ou mi bo ln LF sn SF N vl vd vt hS hN hE (by omega) (by omega) hd) rfl rfl 0 rfl rfl (cwV 3 S.2.2.2.2 gX6_nextPart_X4_run rfl rfl rfl (by decide +kernel) ⟨Nat.le_of_ble_eq_true rfl, Nat.le_of_ble_eq_true rfl⟩) rfl hl.1 rfl (Nat.le_of_ble_eq_true rfl) dX6_nextPart_37 ⟨Nat.le_of_ble_eq_true rfl, Nat.le_of_ble_eq_true rfl⟩ (fun _ => Nat.le_of_ble_eq_true rfl) (fun _ => rfl) (fun u H locs hp hG => ?_)
    obtain ⟨rv2_37, rfl⟩ : ∃ z, z = u := ⟨_, rfl⟩
    have hr_37 := hp
    have hr_37 : ResU N vt vl vd rv2_37 := hr_37
    have hG : gW K A s.heap [gSvyC K va sc ra vl vd vn vt vt ve vg vb vw, gRayU K ra xa sha lea tma sc rv2_37 XF, gScn K sc la lb sa sb ou mi bo ln LF sn SF] _ _ := hG
    refine lv_aload_n S.1 S.2.1 dX6_nextPart_40 rfl (lv_at hl 0 rfl) ?_
    refine lv_aload_n S.1 S.2.1 dX6_nextPart_41 rfl (lv_at hl 0 rfl) ?_
    refine g_get S C hG iX60 0 rfl rfl 1 (by decide) (List.mem_of_getElem? (i := 4) rfl) rfl dX6_nextPart_42 ?_
    refine g_get S C hG iX40 1 rfl rfl 9 (by decide) (List.mem_of_getElem? (i := 7) rfl) rfl dX6_nextPart_45 ?_
    refine g_top (w := .int (iI (enF N vt vl vd))) (congrArg (fun z : Int => Value.int (iI z)) (hr_37.f.2.1)) ?_
    refine g_put (gs' := [gSvyC K va sc ra vl vd vn vt vt (enF N vt vl vd) vg vb vw, gRayU K ra xa sha lea tma sc rv2_37 XF, gScn K sc la lb sa sb ou mi bo ln LF sn SF]) S C hG iX60 tyX6 tyX6_ok nmX6 0 rfl rfl 7 (by decide) (List.mem_of_getElem? (i := 8) rfl) rfl rfl rfl (Nat.le_of_ble_eq_true rfl) rfl dX6_nextPart_48 (fun H locs hG => ?_)
    refine lv_aload_n S.1 S.2.1 dX6_nextPart_51 rfl (lv_at hl 0 rfl) ?_
    refine lv_aload_n S.1 S.2.1 dX6_nextPart_52 rfl (lv_at hl 0 rfl) ?_
    refine g_get S C hG iX60 0 rfl rfl 1 (by decide) (List.mem_of_getElem? (i := 4) rfl) rfl dX6_nextPart_53 ?_
    refine g_get S C hG iX40 1 rfl rfl 8 (by decide) (List.mem_of_getElem? (i := 9) rfl) rfl dX6_nextPart_56 ?_
    refine g_top (w := .int (iI ((lgF N vt vl vd : Int)))) (congrArg (fun z : Int => Value.int (iI z)) (hr_37.f.1)) ?_
    refine g_put (gs' := [gSvyC K va sc ra vl vd vn vt vt (enF N vt vl vd) (lgF N vt vl vd : Int) vb vw, gRayU K ra xa sha lea tma sc rv2_37 XF, gScn K sc la lb sa sb ou mi bo ln LF sn SF]) S C hG iX60 tyX6 tyX6_ok nmX6 0 rfl rfl 8 (by decide) (List.mem_of_getElem? (i := 10) rfl) rfl rfl rfl (Nat.le_of_ble_eq_true rfl) rfl dX6_nextPart_59 (fun H locs hG => ?_)
    refine lv_aload_n S.1 S.2.1 dX6_nextPart_62 rfl (lv_at hl 0 rfl) ?_
    refine lv_aload_n S.1 S.2.1 dX6_nextPart_63 rfl (lv_at hl 0 rfl) ?_
    refine g_get S C hG iX60 0 rfl rfl 5 (by decide) (List.mem_of_getElem? (i := 2) rfl) rfl dX6_nextPart_64 ?_
    refine g_iconst S dX6_nextPart_67 ?_
    refine g_iadd S dX6_nextPart_68 rfl ?_
    refine g_put (gs' := [gSvyC K va sc ra vl vd vn vt (vt + 1) (enF N vt vl vd) (lgF N vt vl vd : Int) vb vw, gRayU K ra xa sha lea tma sc rv2_37 XF, gScn K sc la lb sa sb ou mi bo ln LF sn SF]) S C hG iX60 tyX6 tyX6_ok nmX6 0 rfl rfl 6 (by decide) (List.mem_of_getElem? (i := 1) rfl) rfl rfl rfl (Nat.le_of_ble_eq_true rfl) rfl dX6_nextPart_69 (fun H locs hG => ?_)
    refine lv_aload_n S.1 S.2.1 dX6_nextPart_72 rfl (lv_at hl 0 rfl) ?_
    refine g_invV (As := []) (rest := []) (gs' := (fun u : Int => [gSvyC K va sc ra vl vd vn vt (vt + 1) (enF N vt vl vd) (lgF N vt vl vd : Int) vb vw, gRayU K ra xa sha lea tma sc rv2_37 XF, gScn K sc la lb sa sb ou mi bo ln LF sn SF])) S C hG [0, 1, 2] (c_X6_sameTurnsUntil l K va vl vd vn vt (vt + 1) (enF N vt vl vd) (lgF N vt vl vd : Int) vb vw ra xa sha lea tma sc rv2_37 XF la lb sa sb ou mi bo ln LF sn SF N hS hN hy hvn (by omega)) rfl rfl 0 rfl rfl (cwV 0 S.2.2.2.2 gX6_nextPart_X6_sameTurnsUntil rfl rfl rfl (by decide +kernel) ⟨Nat.le_of_ble_eq_true rfl, Nat.le_of_ble_eq_true rfl⟩) rfl hl.1 rfl (Nat.le_of_ble_eq_true rfl) dX6_nextPart_73 ⟨Nat.le_of_ble_eq_true rfl, Nat.le_of_ble_eq_true rfl⟩ (fun _ => Nat.le_of_ble_eq_true rfl) (fun _ => rfl) (fun v u H locs hp hG => ?_)
    obtain ⟨U_73, rfl⟩ : ∃ z, z = u := ⟨_, rfl⟩
    obtain ⟨rfl, hU_73⟩ := hp
    have hU_73 : untN N vl vt U_73 := hU_73
    have hG : gW K A s.heap [gSvyC K va sc ra vl vd vn vt (vt + 1) (enF N vt vl vd) (lgF N vt vl vd : Int) vb vw, gRayU K ra xa sha lea tma sc rv2_37 XF, gScn K sc la lb sa sb ou mi bo ln LF sn SF] _ _ := hG
    refine lv_istore_n (lv' := [(1, .int (iI U_73)), (0, .ref va)]) S.1 S.2.1 dX6_nextPart_76 rfl hl (by decide) rfl (fun ls hl => ?_)
    refine g_iconst S dX6_nextPart_77 ?_
    refine lv_istore_n (lv' := [(2, .int (iI 0)), (1, .int (iI U_73)), (0, .ref va)]) S.1 S.2.1 dX6_nextPart_78 rfl hl (by decide) rfl (fun ls hl => ?_)
    have L79 : ∀ (fu : Nat) (w : Int) (us : Int) (ut : Int) (rv1 : RU) (H : Heap) (locs : List Loc) (ls : Array Slot), (((32 : Int) - w).toNat) < fu → (0 ≤ w ∧ w ≤ 32) → (vt < ut ∧ ut ≤ us ∧ us ≤ U_73) → (rkI N vl vd vt ut) → (us = U_73 ∨ rk N us vl vd ≠ rk N vt vl vd) → (w = 0 ∧ us - ut ≤ 4000 ∨ 1 ≤ w ∧ us - ut ≤ gB (w - 1).toNat) → lv_has ls 4 [(0, .ref va), (1, .int (iI us)), (2, .int (iI w))] → gW K A s.heap [gSvyC K va sc ra vl vd vn vt ut (enF N vt vl vd) (lgF N vt vl vd : Int) vb vw, gRayU K ra xa sha lea tma sc rv1 XF, gScn K sc la lb sa sb ou mi bo ln LF sn SF] H locs → W p l e { frames := 4, cells := 0, slots := 0, locals := 94 } s m ([.ref va] : List Value).toArray below meth c H locs 0 0 Q (F0 m 79 ls []) := by
      intro fu
      induction fu with
      | zero => intro w us ut rv1 H locs ls hfu; exact absurd hfu (Nat.not_lt_zero _)
      | succ fu ih =>
        intro w us ut rv1 H locs ls hfu hw hu hq hs hg hl hG
        have hU1 := hU_73.1
        have nz := gB_nn (w - 1).toNat
        refine lv_iload_n S.1 S.2.1 dX6_nextPart_79 rfl (lv_at hl 2 rfl) ?_
        refine g_bipush S dX6_nextPart_80 (by decide) ?_
        refine g_icmp_ge (tgt := 174) S dX6_nextPart_82 (by decide) (by omega) (by omega) (fun q82 => ?_) (fun q82 => ?_)
        · skip
          refine g_iconst S dX6_nextPart_174 ?_
          have g9 := gap_end hg (by omega)
          have hG : gW K A s.heap [gSvyC K va sc ra vl vd vn vt ut (enF N vt vl vd) (lgF N vt vl vd : Int) vb vw, gRayU K ra xa sha lea tma sc rv1 XF, gScn K sc la lb sa sb ou mi bo ln LF sn SF] _ _ := hG
          exact g_zret S hr hlk hQ (Or.inr rfl) dX6_nextPart_175 (Nat.le_of_ble_eq_true rfl) (Nat.le_of_ble_eq_true rfl) ((rv1, ut, enF N vt vl vd, (lgF N vt vl vd : Int)) : RU × Int × Int × Int) ⟨(congrArg (fun z : Int => Value.int (iI z)) (bI_t (by omega)).symm), (fun _ => show PartN N vl vd vt ut (enF N vt vl vd) from part_done hN hU_73 hy hd ht.1 (by omega) hq (by rw [show ut = us by omega]; exact hs)), (fun q => absurd (by omega) q)⟩ hG
        · skip
          refine lv_aload_n S.1 S.2.1 dX6_nextPart_85 rfl (lv_at hl 0 rfl) ?_
          refine g_get S C hG iX60 0 rfl rfl 6 (by decide) (List.mem_of_getElem? (i := 1) rfl) rfl dX6_nextPart_86 ?_
          refine lv_iload_n S.1 S.2.1 dX6_nextPart_89 rfl (lv_at hl 1 rfl) ?_
          refine g_icmp_ge (tgt := 174) S dX6_nextPart_90 (by decide) (by omega) (by omega) (fun q90 => ?_) (fun q90 => ?_)
          · skip
            refine g_iconst S dX6_nextPart_174 ?_
            have hG : gW K A s.heap [gSvyC K va sc ra vl vd vn vt ut (enF N vt vl vd) (lgF N vt vl vd : Int) vb vw, gRayU K ra xa sha lea tma sc rv1 XF, gScn K sc la lb sa sb ou mi bo ln LF sn SF] _ _ := hG
            exact g_zret S hr hlk hQ (Or.inr rfl) dX6_nextPart_175 (Nat.le_of_ble_eq_true rfl) (Nat.le_of_ble_eq_true rfl) ((rv1, ut, enF N vt vl vd, (lgF N vt vl vd : Int)) : RU × Int × Int × Int) ⟨(congrArg (fun z : Int => Value.int (iI z)) (bI_t (by omega)).symm), (fun _ => show PartN N vl vd vt ut (enF N vt vl vd) from part_done hN hU_73 hy hd ht.1 (by omega) hq (by rw [show ut = us by omega]; exact hs)), (fun q => absurd (by omega) q)⟩ hG
          · skip
            refine lv_iload_n S.1 S.2.1 dX6_nextPart_93 rfl (lv_at hl 2 rfl) ?_
            refine g_if_ne (tgt := 103) S dX6_nextPart_94 (by decide) (by omega) (fun q94 => ?_) (fun q94 => ?_)
            · skip
              refine lv_aload_n S.1 S.2.1 dX6_nextPart_103 rfl (lv_at hl 0 rfl) ?_
              refine g_get S C hG iX60 0 rfl rfl 6 (by decide) (List.mem_of_getElem? (i := 1) rfl) rfl dX6_nextPart_104 ?_
              refine lv_iload_n S.1 S.2.1 dX6_nextPart_107 rfl (lv_at hl 1 rfl) ?_
              refine g_iadd S dX6_nextPart_108 rfl ?_
              refine g_iconst S dX6_nextPart_109 ?_
              refine g_idiv S dX6_nextPart_110 (by omega) (by omega) rfl ?_
              refine lv_istore_n (lv' := [(3, .int (iI ((ut + us) / 2))), (0, .ref va), (1, .int (iI us)), (2, .int (iI w))]) S.1 S.2.1 dX6_nextPart_111 rfl hl (by decide) rfl (fun ls hl => ?_)
              refine lv_aload_n S.1 S.2.1 dX6_nextPart_112 rfl (lv_at hl 1 rfl) ?_
              refine g_get S C hG iX60 0 rfl rfl 1 (by decide) (List.mem_of_getElem? (i := 4) rfl) rfl dX6_nextPart_113 ?_
              refine lv_aload_n S.1 S.2.1 dX6_nextPart_116 rfl (lv_at hl 1 rfl) ?_
              refine g_get S C hG iX60 0 rfl rfl 2 (by decide) (List.mem_of_getElem? (i := 5) rfl) rfl dX6_nextPart_117 ?_
              refine lv_aload_n S.1 S.2.1 dX6_nextPart_120 rfl (lv_at hl 1 rfl) ?_
              refine g_get S C hG iX60 0 rfl rfl 3 (by decide) (List.mem_of_getElem? (i := 6) rfl) rfl dX6_nextPart_121 ?_
              refine lv_iload_n S.1 S.2.1 dX6_nextPart_124 rfl (lv_at hl 0 rfl) ?_
              refine g_invVv (As := [.int (iI vl), .int (iI vd), .int (iI ((ut + us) / 2))]) (rest := []) (gs' := (fun u : RU => [gSvyC K va sc ra vl vd vn vt ut (enF N vt vl vd) (lgF N vt vl vd : Int) vb vw, gRayU K ra xa sha lea tma sc u XF, gScn K sc la lb sa sb ou mi bo ln LF sn SF])) S C hG [1, 2] (c_X4_runU l K ra xa sha lea tma sc rv1 XF la lb sa sb ou mi bo ln LF sn SF N vl vd ((ut + us) / 2) hS hN hE (by omega) (by omega) hd) rfl rfl 0 rfl rfl (cwV 3 S.2.2.2.2 gX6_nextPart_X4_run rfl rfl rfl (by decide +kernel) ⟨Nat.le_of_ble_eq_true rfl, Nat.le_of_ble_eq_true rfl⟩) rfl hl.1 rfl (Nat.le_of_ble_eq_true rfl) dX6_nextPart_125 ⟨Nat.le_of_ble_eq_true rfl, Nat.le_of_ble_eq_true rfl⟩ (fun _ => Nat.le_of_ble_eq_true rfl) (fun _ => rfl) (fun u H locs hp hG => ?_)
              obtain ⟨rv2_125, rfl⟩ : ∃ z, z = u := ⟨_, rfl⟩
              have hr_125 := hp
              have hr_125 : ResU N ((ut + us) / 2) vl vd rv2_125 := hr_125
              have hG : gW K A s.heap [gSvyC K va sc ra vl vd vn vt ut (enF N vt vl vd) (lgF N vt vl vd : Int) vb vw, gRayU K ra xa sha lea tma sc rv2_125 XF, gScn K sc la lb sa sb ou mi bo ln LF sn SF] _ _ := hG
              refine lv_aload_n S.1 S.2.1 dX6_nextPart_128 rfl (lv_at hl 1 rfl) ?_
              refine g_get S C hG iX60 0 rfl rfl 1 (by decide) (List.mem_of_getElem? (i := 4) rfl) rfl dX6_nextPart_129 ?_
              refine g_get S C hG iX40 1 rfl rfl 9 (by decide) (List.mem_of_getElem? (i := 7) rfl) rfl dX6_nextPart_132 ?_
              refine g_top (w := .int (iI (enF N ((ut + us) / 2) vl vd))) (congrArg (fun z : Int => Value.int (iI z)) (hr_125.f.2.1)) ?_
              refine lv_aload_n S.1 S.2.1 dX6_nextPart_135 rfl (lv_at hl 1 rfl) ?_
              refine g_get S C hG iX60 0 rfl rfl 7 (by decide) (List.mem_of_getElem? (i := 8) rfl) rfl dX6_nextPart_136 ?_
              have b1 := enF_bd N ((ut + us) / 2) vl vd
              have b2 := enF_bd N vt vl vd
              refine g_icmp_ne (tgt := 166) S dX6_nextPart_139 (by decide) (by omega) (by omega) (fun q139 => ?_) (fun q139 => ?_)
              · skip
                refine lv_iload_n S.1 S.2.1 dX6_nextPart_166 rfl (lv_at hl 0 rfl) ?_
                refine lv_istore_n (lv' := [(1, .int (iI ((ut + us) / 2))), (3, .int (iI ((ut + us) / 2))), (0, .ref va), (2, .int (iI w))]) S.1 S.2.1 dX6_nextPart_167 rfl hl (by decide) rfl (fun ls hl => ?_)
                refine lv_iinc (v := iI (w + 1)) (lv' := [(2, .int (iI (w + 1))), (1, .int (iI ((ut + us) / 2))), (3, .int (iI ((ut + us) / 2))), (0, .ref va)]) S.1 S.2.1 dX6_nextPart_168 hl (k := 3) rfl (g_iinc rfl) (by decide) rfl (fun ls hl => ?_)
                refine lv_goto (tgt := 79) S.1 S.2.1 dX6_nextPart_171 (by decide) ?_
                exact ih (w + 1) ((ut + us) / 2) ut rv2_125 _ _ _ (by omega) (by omega) (by omega) (by omega) (Or.inr (probe_no hN hU_73 hy hd ht.1 ⟨by omega, by omega⟩ (fun q => q139 q.1))) (gap_step hg (by omega) (by omega)) (lv_sub hl [3, 1, 0] rfl) hG
              · skip
                refine lv_aload_n S.1 S.2.1 dX6_nextPart_142 rfl (lv_at hl 1 rfl) ?_
                refine g_get S C hG iX60 0 rfl rfl 1 (by decide) (List.mem_of_getElem? (i := 4) rfl) rfl dX6_nextPart_143 ?_
                refine g_get S C hG iX40 1 rfl rfl 8 (by decide) (List.mem_of_getElem? (i := 9) rfl) rfl dX6_nextPart_146 ?_
                refine g_top (w := .int (iI ((lgF N ((ut + us) / 2) vl vd : Int)))) (congrArg (fun z : Int => Value.int (iI z)) (hr_125.f.1)) ?_
                refine lv_aload_n S.1 S.2.1 dX6_nextPart_149 rfl (lv_at hl 1 rfl) ?_
                refine g_get S C hG iX60 0 rfl rfl 8 (by decide) (List.mem_of_getElem? (i := 10) rfl) rfl dX6_nextPart_150 ?_
                have b3 := lgF_bd N ((ut + us) / 2) vl vd
                have b4 := lgF_bd N vt vl vd
                refine g_icmp_ne (tgt := 166) S dX6_nextPart_153 (by decide) (by omega) (by omega) (fun q153 => ?_) (fun q153 => ?_)
                · skip
                  refine lv_iload_n S.1 S.2.1 dX6_nextPart_166 rfl (lv_at hl 0 rfl) ?_
                  refine lv_istore_n (lv' := [(1, .int (iI ((ut + us) / 2))), (3, .int (iI ((ut + us) / 2))), (0, .ref va), (2, .int (iI w))]) S.1 S.2.1 dX6_nextPart_167 rfl hl (by decide) rfl (fun ls hl => ?_)
                  refine lv_iinc (v := iI (w + 1)) (lv' := [(2, .int (iI (w + 1))), (1, .int (iI ((ut + us) / 2))), (3, .int (iI ((ut + us) / 2))), (0, .ref va)]) S.1 S.2.1 dX6_nextPart_168 hl (k := 3) rfl (g_iinc rfl) (by decide) rfl (fun ls hl => ?_)
                  refine lv_goto (tgt := 79) S.1 S.2.1 dX6_nextPart_171 (by decide) ?_
                  exact ih (w + 1) ((ut + us) / 2) ut rv2_125 _ _ _ (by omega) (by omega) (by omega) (by omega) (Or.inr (probe_no hN hU_73 hy hd ht.1 ⟨by omega, by omega⟩ (fun q => q153 q.2))) (gap_step hg (by omega) (by omega)) (lv_sub hl [3, 1, 0] rfl) hG
                · skip
                  refine lv_aload_n S.1 S.2.1 dX6_nextPart_156 rfl (lv_at hl 1 rfl) ?_
                  refine lv_iload_n S.1 S.2.1 dX6_nextPart_157 rfl (lv_at hl 0 rfl) ?_
                  refine g_iconst S dX6_nextPart_158 ?_
                  refine g_iadd S dX6_nextPart_159 rfl ?_
                  refine g_put (gs' := [gSvyC K va sc ra vl vd vn vt (((ut + us) / 2) + 1) (enF N vt vl vd) (lgF N vt vl vd : Int) vb vw, gRayU K ra xa sha lea tma sc rv2_125 XF, gScn K sc la lb sa sb ou mi bo ln LF sn SF]) S C hG iX60 tyX6 tyX6_ok nmX6 0 rfl rfl 6 (by decide) (List.mem_of_getElem? (i := 1) rfl) rfl rfl rfl (Nat.le_of_ble_eq_true rfl) rfl dX6_nextPart_160 (fun H locs hG => ?_)
                  refine lv_goto (tgt := 168) S.1 S.2.1 dX6_nextPart_163 (by decide) ?_
                  refine lv_iinc (v := iI (w + 1)) (lv' := [(2, .int (iI (w + 1))), (3, .int (iI ((ut + us) / 2))), (0, .ref va), (1, .int (iI us))]) S.1 S.2.1 dX6_nextPart_168 hl (k := 3) rfl (g_iinc rfl) (by decide) rfl (fun ls hl => ?_)
                  refine lv_goto (tgt := 79) S.1 S.2.1 dX6_nextPart_171 (by decide) ?_
                  exact ih (w + 1) us (((ut + us) / 2) + 1) rv2_125 _ _ _ (by omega) (by omega) (by omega) (probe_yes hN hU_73 hy hd ht.1 ⟨by omega, by omega⟩ q139 q153) hs (gap_step hg (by omega) (by omega)) (lv_sub hl [2, 3, 0] rfl) hG
            · skip
              refine lv_iload_n S.1 S.2.1 dX6_nextPart_97 rfl (lv_at hl 1 rfl) ?_
              refine g_iconst S dX6_nextPart_98 ?_
              refine g_isub S dX6_nextPart_99 rfl ?_
              refine lv_goto (tgt := 111) S.1 S.2.1 dX6_nextPart_100 (by decide) ?_
              refine lv_istore_n (lv' := [(3, .int (iI (us - 1))), (0, .ref va), (1, .int (iI us)), (2, .int (iI w))]) S.1 S.2.1 dX6_nextPart_111 rfl hl (by decide) rfl (fun ls hl => ?_)
              refine lv_aload_n S.1 S.2.1 dX6_nextPart_112 rfl (lv_at hl 1 rfl) ?_
              refine g_get S C hG iX60 0 rfl rfl 1 (by decide) (List.mem_of_getElem? (i := 4) rfl) rfl dX6_nextPart_113 ?_
              refine lv_aload_n S.1 S.2.1 dX6_nextPart_116 rfl (lv_at hl 1 rfl) ?_
              refine g_get S C hG iX60 0 rfl rfl 2 (by decide) (List.mem_of_getElem? (i := 5) rfl) rfl dX6_nextPart_117 ?_
              refine lv_aload_n S.1 S.2.1 dX6_nextPart_120 rfl (lv_at hl 1 rfl) ?_
              refine g_get S C hG iX60 0 rfl rfl 3 (by decide) (List.mem_of_getElem? (i := 6) rfl) rfl dX6_nextPart_121 ?_
              refine lv_iload_n S.1 S.2.1 dX6_nextPart_124 rfl (lv_at hl 0 rfl) ?_
              refine g_invVv (As := [.int (iI vl), .int (iI vd), .int (iI (us - 1))]) (rest := []) (gs' := (fun u : RU => [gSvyC K va sc ra vl vd vn vt ut (enF N vt vl vd) (lgF N vt vl vd : Int) vb vw, gRayU K ra xa sha lea tma sc u XF, gScn K sc la lb sa sb ou mi bo ln LF sn SF])) S C hG [1, 2] (c_X4_runU l K ra xa sha lea tma sc rv1 XF la lb sa sb ou mi bo ln LF sn SF N vl vd (us - 1) hS hN hE (by omega) (by omega) hd) rfl rfl 0 rfl rfl (cwV 3 S.2.2.2.2 gX6_nextPart_X4_run rfl rfl rfl (by decide +kernel) ⟨Nat.le_of_ble_eq_true rfl, Nat.le_of_ble_eq_true rfl⟩) rfl hl.1 rfl (Nat.le_of_ble_eq_true rfl) dX6_nextPart_125 ⟨Nat.le_of_ble_eq_true rfl, Nat.le_of_ble_eq_true rfl⟩ (fun _ => Nat.le_of_ble_eq_true rfl) (fun _ => rfl) (fun u H locs hp hG => ?_)
              obtain ⟨rv2_125, rfl⟩ : ∃ z, z = u := ⟨_, rfl⟩
              have hr_125 := hp
              have hr_125 : ResU N (us - 1) vl vd rv2_125 := hr_125
              have hG : gW K A s.heap [gSvyC K va sc ra vl vd vn vt ut (enF N vt vl vd) (lgF N vt vl vd : Int) vb vw, gRayU K ra xa sha lea tma sc rv2_125 XF, gScn K sc la lb sa sb ou mi bo ln LF sn SF] _ _ := hG
              refine lv_aload_n S.1 S.2.1 dX6_nextPart_128 rfl (lv_at hl 1 rfl) ?_
              refine g_get S C hG iX60 0 rfl rfl 1 (by decide) (List.mem_of_getElem? (i := 4) rfl) rfl dX6_nextPart_129 ?_
              refine g_get S C hG iX40 1 rfl rfl 9 (by decide) (List.mem_of_getElem? (i := 7) rfl) rfl dX6_nextPart_132 ?_
              refine g_top (w := .int (iI (enF N (us - 1) vl vd))) (congrArg (fun z : Int => Value.int (iI z)) (hr_125.f.2.1)) ?_
              refine lv_aload_n S.1 S.2.1 dX6_nextPart_135 rfl (lv_at hl 1 rfl) ?_
              refine g_get S C hG iX60 0 rfl rfl 7 (by decide) (List.mem_of_getElem? (i := 8) rfl) rfl dX6_nextPart_136 ?_
              have b1 := enF_bd N (us - 1) vl vd
              have b2 := enF_bd N vt vl vd
              refine g_icmp_ne (tgt := 166) S dX6_nextPart_139 (by decide) (by omega) (by omega) (fun q139 => ?_) (fun q139 => ?_)
              · skip
                refine lv_iload_n S.1 S.2.1 dX6_nextPart_166 rfl (lv_at hl 0 rfl) ?_
                refine lv_istore_n (lv' := [(1, .int (iI (us - 1))), (3, .int (iI (us - 1))), (0, .ref va), (2, .int (iI w))]) S.1 S.2.1 dX6_nextPart_167 rfl hl (by decide) rfl (fun ls hl => ?_)
                refine lv_iinc (v := iI (w + 1)) (lv' := [(2, .int (iI (w + 1))), (1, .int (iI (us - 1))), (3, .int (iI (us - 1))), (0, .ref va)]) S.1 S.2.1 dX6_nextPart_168 hl (k := 3) rfl (g_iinc rfl) (by decide) rfl (fun ls hl => ?_)
                refine lv_goto (tgt := 79) S.1 S.2.1 dX6_nextPart_171 (by decide) ?_
                exact ih (w + 1) (us - 1) ut rv2_125 _ _ _ (by omega) (by omega) (by omega) (by omega) (Or.inr (probe_no hN hU_73 hy hd ht.1 ⟨by omega, by omega⟩ (fun q => q139 q.1))) (gap_step hg (by omega) (by omega)) (lv_sub hl [3, 1, 0] rfl) hG
              · skip
                refine lv_aload_n S.1 S.2.1 dX6_nextPart_142 rfl (lv_at hl 1 rfl) ?_
                refine g_get S C hG iX60 0 rfl rfl 1 (by decide) (List.mem_of_getElem? (i := 4) rfl) rfl dX6_nextPart_143 ?_
                refine g_get S C hG iX40 1 rfl rfl 8 (by decide) (List.mem_of_getElem? (i := 9) rfl) rfl dX6_nextPart_146 ?_
                refine g_top (w := .int (iI ((lgF N (us - 1) vl vd : Int)))) (congrArg (fun z : Int => Value.int (iI z)) (hr_125.f.1)) ?_
                refine lv_aload_n S.1 S.2.1 dX6_nextPart_149 rfl (lv_at hl 1 rfl) ?_
                refine g_get S C hG iX60 0 rfl rfl 8 (by decide) (List.mem_of_getElem? (i := 10) rfl) rfl dX6_nextPart_150 ?_
                have b3 := lgF_bd N (us - 1) vl vd
                have b4 := lgF_bd N vt vl vd
                refine g_icmp_ne (tgt := 166) S dX6_nextPart_153 (by decide) (by omega) (by omega) (fun q153 => ?_) (fun q153 => ?_)
                · skip
                  refine lv_iload_n S.1 S.2.1 dX6_nextPart_166 rfl (lv_at hl 0 rfl) ?_
                  refine lv_istore_n (lv' := [(1, .int (iI (us - 1))), (3, .int (iI (us - 1))), (0, .ref va), (2, .int (iI w))]) S.1 S.2.1 dX6_nextPart_167 rfl hl (by decide) rfl (fun ls hl => ?_)
                  refine lv_iinc (v := iI (w + 1)) (lv' := [(2, .int (iI (w + 1))), (1, .int (iI (us - 1))), (3, .int (iI (us - 1))), (0, .ref va)]) S.1 S.2.1 dX6_nextPart_168 hl (k := 3) rfl (g_iinc rfl) (by decide) rfl (fun ls hl => ?_)
                  refine lv_goto (tgt := 79) S.1 S.2.1 dX6_nextPart_171 (by decide) ?_
                  exact ih (w + 1) (us - 1) ut rv2_125 _ _ _ (by omega) (by omega) (by omega) (by omega) (Or.inr (probe_no hN hU_73 hy hd ht.1 ⟨by omega, by omega⟩ (fun q => q153 q.2))) (gap_step hg (by omega) (by omega)) (lv_sub hl [3, 1, 0] rfl) hG
                · skip
                  refine lv_aload_n S.1 S.2.1 dX6_nextPart_156 rfl (lv_at hl 1 rfl) ?_
                  refine lv_iload_n S.1 S.2.1 dX6_nextPart_157 rfl (lv_at hl 0 rfl) ?_
                  refine g_iconst S dX6_nextPart_158 ?_
                  refine g_iadd S dX6_nextPart_159 rfl ?_
                  refine g_put (gs' := [gSvyC K va sc ra vl vd vn vt ((us - 1) + 1) (enF N vt vl vd) (lgF N vt vl vd : Int) vb vw, gRayU K ra xa sha lea tma sc rv2_125 XF, gScn K sc la lb sa sb ou mi bo ln LF sn SF]) S C hG iX60 tyX6 tyX6_ok nmX6 0 rfl rfl 6 (by decide) (List.mem_of_getElem? (i := 1) rfl) rfl rfl rfl (Nat.le_of_ble_eq_true rfl) rfl dX6_nextPart_160 (fun H locs hG => ?_)
                  refine lv_goto (tgt := 168) S.1 S.2.1 dX6_nextPart_163 (by decide) ?_
                  refine lv_iinc (v := iI (w + 1)) (lv' := [(2, .int (iI (w + 1))), (3, .int (iI (us - 1))), (0, .ref va), (1, .int (iI us))]) S.1 S.2.1 dX6_nextPart_168 hl (k := 3) rfl (g_iinc rfl) (by decide) rfl (fun ls hl => ?_)
                  refine lv_goto (tgt := 79) S.1 S.2.1 dX6_nextPart_171 (by decide) ?_
                  exact ih (w + 1) us ((us - 1) + 1) rv2_125 _ _ _ (by omega) (by omega) (by omega) (probe_yes hN hU_73 hy hd ht.1 ⟨by omega, by omega⟩ q139 q153) hs (gap_step hg (by omega) (by omega)) (lv_sub hl [2, 3, 0] rfl) hG
    have hU1 := hU_73.1
    exact L79 (Nat.succ (((32 : Int) - 0).toNat)) 0 U_73 (vt + 1) rv2_37 _ _ _ (Nat.lt_succ_self _) (by omega) (by omega) (fun p a b => by rw [show p = vt by omega]) (Or.inl rfl) (Or.inl ⟨rfl, by omega⟩) (lv_sub hl [2, 1, 0] rfl) hG
  · skip
    refine g_iconst S dX6_nextPart_19 ?_
    have hG : gW K A s.heap [gSvyC K va sc ra vl vd vn vt vt ve vg vb vw, gRayU K ra xa sha lea tma sc rv XF, gScn K sc la lb sa sb ou mi bo ln LF sn SF] _ _ := hG
    exact g_zret S hr hlk hQ (Or.inl rfl) dX6_nextPart_20 (Nat.le_of_ble_eq_true rfl) (Nat.le_of_ble_eq_true rfl) ((rv, vt, ve, vg) : RU × Int × Int × Int) ⟨(congrArg (fun z : Int => Value.int (iI z)) (bI_f (by omega)).symm), (fun q => absurd q q16), (fun _ => rfl)⟩ hG
