theorem con_t {vb vw z0 : Int} (q5 : ¬ vb = -1) (q : (if vw < z0 then (1 : Int) else if z0 = vw then 0 else -1) ≤ 0) : ¬ (vb = -1 ∨ vw < z0) := by
  intro h
  rcases h with h | h
  · exact q5 h
  · rw [if_pos h] at q; omega
theorem con_f {vb vw z0 : Int} (q : ¬ (if vw < z0 then (1 : Int) else if z0 = vw then 0 else -1) ≤ 0) : vb = -1 ∨ vw < z0 := by
  by_cases h : vw < z0
  · exact Or.inr h
  · rw [if_neg h] at q
    exfalso
    split at q <;> omega
theorem lex3_rng (P Q : Prop) [Decidable P] [Decidable Q] : -2147483648 ≤ (if P then (1 : Int) else if Q then 0 else -1) ∧ (if P then (1 : Int) else if Q then 0 else -1) < 2147483648 := by
  (repeat' split) <;> omega
theorem ConS.bd {vb vw s0 z0 vb2 vw2 a b : Int} (h : ConS vb vw s0 z0 vb2 vw2) (h1 : a ≤ vw ∧ vw ≤ b) (h2 : a ≤ z0 ∧ z0 ≤ b) : a ≤ vw2 ∧ vw2 ≤ b := by
  rcases h with ⟨-, -, e⟩ | ⟨-, -, e⟩ <;> omega
theorem ConS.bd1 {vb vw s0 z0 vb2 vw2 a b : Int} (h : ConS vb vw s0 z0 vb2 vw2) (h1 : a ≤ vb ∧ vb ≤ b) (h2 : a ≤ s0 ∧ s0 ≤ b) : a ≤ vb2 ∧ vb2 ≤ b := by
  rcases h with ⟨-, e, -⟩ | ⟨-, e, -⟩ <;> omega

set_option maxHeartbeats 1000000 in
set_option maxRecDepth 100000 in
theorem c_X6_consider (l : Launch) (K : KC) (va : Nat) (vl : Int) (vd : Int) (vn : Int) (vf : Int) (vt : Int) (ve : Int) (vg : Int) (vb : Int) (vw : Int) (sc : Nat) (ra : Nat) (s0 : Int) (z0 : Int) (hvb : -1 ≤ vb ∧ vb ≤ 4000) (hvw : -3000000000 ≤ vw ∧ vw ≤ 3000000000) (hz0 : -3000000000 ≤ z0 ∧ z0 ≤ 3000000000) : mV l yX6_consider wsX6_consider 0 0 K [.ref va, .int (iI s0), .long (iL z0)] [gSvyC K va sc ra vl vd vn vf vt ve vg vb vw] (fun (u : Int × Int) => (ConS vb vw s0 z0 u.1 u.2)) (fun (u : Int × Int) => [gSvyC K va sc ra vl vd vn vf vt ve vg u.1 u.2]) 0 0 := by
  refine mV_of cX6_consider 4 (by decide) rfl (Nat.le_of_ble_eq_true rfl) ?_
  intro p e s m below meth c A ls Q S C hG hl hr hlk hin hQ
  have S : CallFix p m c cX6_consider 4 s ([.ref va, .int (iI s0), .long (iL z0)] : List Value).toArray wsX6_consider RX6 := S
  have iX60 : ∀ w ∈ wsX60, w ∈ wsX6_consider := fun _ h => List.mem_cons_of_mem _ (List.mem_append_right _ (h))
  have hl : lv_has ls 4 [(0, .ref va), (1, .int (iI s0)), (2, .long (iL z0))] := hl
  have hG : gW K A s.heap [gSvyC K va sc ra vl vd vn vf vt ve vg vb vw] s.heap [] := hG
  refine lv_aload_n S.1 S.2.1 dX6_consider_0 rfl (lv_at hl 0 rfl) ?_
  refine g_get S C hG iX60 0 rfl rfl 9 (by decide) (List.mem_of_getElem? (i := 1) rfl) rfl dX6_consider_1 ?_
  refine g_iconst S dX6_consider_4 ?_
  refine g_icmp_eq (tgt := 17) S dX6_consider_5 (by decide) (by omega) (by omega) (fun q5 => ?_) (fun q5 => ?_)
  · skip
    refine lv_aload_n S.1 S.2.1 dX6_consider_17 rfl (lv_at hl 0 rfl) ?_
    refine lv_iload_n S.1 S.2.1 dX6_consider_18 rfl (lv_at hl 1 rfl) ?_
    refine g_put (gs' := [gSvyC K va sc ra vl vd vn vf vt ve vg s0 vw]) S C hG iX60 tyX6 tyX6_ok nmX6 0 rfl rfl 9 (by decide) (List.mem_of_getElem? (i := 1) rfl) rfl rfl rfl (Nat.le_of_ble_eq_true rfl) rfl dX6_consider_19 (fun H locs hG => ?_)
    refine lv_aload_n S.1 S.2.1 dX6_consider_22 rfl (lv_at hl 0 rfl) ?_
    refine lv_lload_n S.1 S.2.1 dX6_consider_23 rfl (lv_at hl 2 rfl) ?_
    refine g_put (gs' := [gSvyC K va sc ra vl vd vn vf vt ve vg s0 z0]) S C hG iX60 tyX6 tyX6_ok nmX6 0 rfl rfl 10 (by decide) (List.mem_of_getElem? (i := 2) rfl) rfl rfl rfl (Nat.le_of_ble_eq_true rfl) rfl dX6_consider_24 (fun H locs hG => ?_)
    have hG : gW K A s.heap [gSvyC K va sc ra vl vd vn vf vt ve vg s0 z0] _ _ := hG
    exact g_vret S hr hlk hQ dX6_consider_27 (Nat.le_of_ble_eq_true rfl) (Nat.le_of_ble_eq_true rfl) ((s0, z0) : Int × Int) (Or.inl ⟨Or.inl q5, rfl, rfl⟩) hG
  · skip
    refine lv_lload_n S.1 S.2.1 dX6_consider_8 rfl (lv_at hl 2 rfl) ?_
    refine lv_aload_n S.1 S.2.1 dX6_consider_9 rfl (lv_at hl 0 rfl) ?_
    refine g_get S C hG iX60 0 rfl rfl 10 (by decide) (List.mem_of_getElem? (i := 2) rfl) rfl dX6_consider_10 ?_
    refine g_lcmp S dX6_consider_13 (by omega) (by omega) ?_
    refine g_if_le (tgt := 27) S dX6_consider_14 (by decide) (lex3_rng _ _) (fun q14 => ?_) (fun q14 => ?_)
    · skip
      have hG : gW K A s.heap [gSvyC K va sc ra vl vd vn vf vt ve vg vb vw] _ _ := hG
      exact g_vret S hr hlk hQ dX6_consider_27 (Nat.le_of_ble_eq_true rfl) (Nat.le_of_ble_eq_true rfl) ((vb, vw) : Int × Int) (Or.inr ⟨con_t q5 q14, rfl, rfl⟩) hG
    · skip
      refine lv_aload_n S.1 S.2.1 dX6_consider_17 rfl (lv_at hl 0 rfl) ?_
      refine lv_iload_n S.1 S.2.1 dX6_consider_18 rfl (lv_at hl 1 rfl) ?_
      refine g_put (gs' := [gSvyC K va sc ra vl vd vn vf vt ve vg s0 vw]) S C hG iX60 tyX6 tyX6_ok nmX6 0 rfl rfl 9 (by decide) (List.mem_of_getElem? (i := 1) rfl) rfl rfl rfl (Nat.le_of_ble_eq_true rfl) rfl dX6_consider_19 (fun H locs hG => ?_)
      refine lv_aload_n S.1 S.2.1 dX6_consider_22 rfl (lv_at hl 0 rfl) ?_
      refine lv_lload_n S.1 S.2.1 dX6_consider_23 rfl (lv_at hl 2 rfl) ?_
      refine g_put (gs' := [gSvyC K va sc ra vl vd vn vf vt ve vg s0 z0]) S C hG iX60 tyX6 tyX6_ok nmX6 0 rfl rfl 10 (by decide) (List.mem_of_getElem? (i := 2) rfl) rfl rfl rfl (Nat.le_of_ble_eq_true rfl) rfl dX6_consider_24 (fun H locs hG => ?_)
      have hG : gW K A s.heap [gSvyC K va sc ra vl vd vn vf vt ve vg s0 z0] _ _ := hG
      exact g_vret S hr hlk hQ dX6_consider_27 (Nat.le_of_ble_eq_true rfl) (Nat.le_of_ble_eq_true rfl) ((s0, z0) : Int × Int) (Or.inl ⟨con_f q14, rfl, rfl⟩) hG

set_option maxHeartbeats 1000000 in
set_option maxRecDepth 100000 in
theorem c_X6_shiftsWith (l : Launch) (K : KC) (va : Nat) (vl : Int) (vd : Int) (vn : Int) (vf : Int) (vt : Int) (ve : Int) (vg : Int) (vb : Int) (vw : Int) (ra : Nat) (xa : Nat) (sha : Nat) (lea : Nat) (tma : Nat) (sc : Nat) (rv : RU) (XF : Int → Int) (la : Nat) (lb : Nat) (sa : Nat) (sb : Nat) (ou : Int) (mi : Int) (bo : Int) (ln : Int) (LF : Int → Int) (sn : Int) (SF : Int → Int) (N : Int → Int) (x : Int) (hS : ScOk N ou mi bo ln LF sn SF) (hN : NOk0 N) (hE : EntOk N XF) (hy : 0 ≤ vl ∧ vl < N 0) (hvn : vn = nX N vl) (hd : vd = 0 ∨ vd = 1) (h1 : 0 ≤ x ∧ x ≤ 3999) : mG l yX6_shiftsWith wsX6_shiftsWith 4 94 K [.ref va, .int (iI x)] [gSvyC K va sc ra vl vd vn vf vt ve vg vb vw, gRayU K ra xa sha lea tma sc rv XF, gScn K sc la lb sa sb ou mi bo ln LF sn SF] (fun (v : Value) (u : RU) => (v = .int (iI (shF N x vl vd)))) (fun (u : RU) => [gSvyC K va sc ra vl vd vn vf vt ve vg vb vw, gRayU K ra xa sha lea tma sc u XF, gScn K sc la lb sa sb ou mi bo ln LF sn SF]) 0 0 := by
  refine mG_of cX6_shiftsWith 2 (by decide) rfl (Nat.le_of_ble_eq_true rfl) ?_
  intro p e s m below meth c A ls Q S C hG hl hr hlk hin hQ
  have S : CallFix p m c cX6_shiftsWith 2 s ([.ref va, .int (iI x)] : List Value).toArray wsX6_shiftsWith RX6 := S
  have iX60 : ∀ w ∈ wsX60, w ∈ wsX6_shiftsWith := fun _ h => List.mem_cons_of_mem _ (List.mem_append_left _ (List.mem_append_left _ (List.mem_append_left _ (List.mem_append_right _ (h)))))
  have iX40 : ∀ w ∈ wsX40, w ∈ wsX6_shiftsWith := fun _ h => List.mem_cons_of_mem _ (List.mem_append_left _ (List.mem_append_left _ (List.mem_append_right _ (h))))
  have iX50 : ∀ w ∈ wsX50, w ∈ wsX6_shiftsWith := fun _ h => List.mem_cons_of_mem _ (List.mem_append_left _ (List.mem_append_right _ (h)))
  have iX70 : ∀ w ∈ wsX70, w ∈ wsX6_shiftsWith := fun _ h => List.mem_cons_of_mem _ (List.mem_append_right _ (h))
  have hl : lv_has ls 2 [(0, .ref va), (1, .int (iI x))] := hl
  have hG : gW K A s.heap [gSvyC K va sc ra vl vd vn vf vt ve vg vb vw, gRayU K ra xa sha lea tma sc rv XF, gScn K sc la lb sa sb ou mi bo ln LF sn SF] s.heap [] := hG
  obtain ⟨e0_, e1, e2, e3, e4, e5, e6⟩ := id hS
  have n0 := hN.1
  refine lv_aload_n S.1 S.2.1 dX6_shiftsWith_0 rfl (lv_at hl 0 rfl) ?_
  refine g_get S C hG iX60 0 rfl rfl 1 (by decide) (List.mem_of_getElem? (i := 1) rfl) rfl dX6_shiftsWith_1 ?_
  refine lv_aload_n S.1 S.2.1 dX6_shiftsWith_4 rfl (lv_at hl 0 rfl) ?_
  refine g_get S C hG iX60 0 rfl rfl 2 (by decide) (List.mem_of_getElem? (i := 2) rfl) rfl dX6_shiftsWith_5 ?_
  refine lv_aload_n S.1 S.2.1 dX6_shiftsWith_8 rfl (lv_at hl 0 rfl) ?_
  refine g_get S C hG iX60 0 rfl rfl 3 (by decide) (List.mem_of_getElem? (i := 3) rfl) rfl dX6_shiftsWith_9 ?_
  refine lv_iload_n S.1 S.2.1 dX6_shiftsWith_12 rfl (lv_at hl 1 rfl) ?_
  refine g_invVv (As := [.int (iI vl), .int (iI vd), .int (iI x)]) (rest := []) (gs' := (fun u : RU => [gSvyC K va sc ra vl vd vn vf vt ve vg vb vw, gRayU K ra xa sha lea tma sc u XF, gScn K sc la lb sa sb ou mi bo ln LF sn SF])) S C hG [1, 2] (c_X4_runU l K ra xa sha lea tma sc rv XF la lb sa sb ou mi bo ln LF sn SF N vl vd x hS hN hE (by omega) h1 hd) rfl rfl 0 rfl rfl (cwV 3 S.2.2.2.2 gX6_shiftsWith_X4_run rfl rfl rfl (by decide +kernel) ⟨Nat.le_of_ble_eq_true rfl, Nat.le_of_ble_eq_true rfl⟩) rfl hl.1 rfl (Nat.le_of_ble_eq_true rfl) dX6_shiftsWith_13 ⟨Nat.le_of_ble_eq_true rfl, Nat.le_of_ble_eq_true rfl⟩ (fun _ => Nat.le_of_ble_eq_true rfl) (fun _ => rfl) (fun u H locs hp hG => ?_)
  obtain ⟨rv2_13, rfl⟩ : ∃ z, z = u := ⟨_, rfl⟩
  have hr_13 := hp
  have hr_13 : ResU N x vl vd rv2_13 := hr_13
  have hG : gW K A s.heap [gSvyC K va sc ra vl vd vn vf vt ve vg vb vw, gRayU K ra xa sha lea tma sc rv2_13 XF, gScn K sc la lb sa sb ou mi bo ln LF sn SF] _ _ := hG
  refine lv_aload_n S.1 S.2.1 dX6_shiftsWith_16 rfl (lv_at hl 0 rfl) ?_
  refine g_get S C hG iX60 0 rfl rfl 1 (by decide) (List.mem_of_getElem? (i := 1) rfl) rfl dX6_shiftsWith_17 ?_
  refine g_get S C hG iX40 1 rfl rfl 10 (by decide) (List.mem_of_getElem? (i := 4) rfl) rfl dX6_shiftsWith_20 ?_
  refine g_top (w := .int (iI (shF N x vl vd))) (congrArg (fun z : Int => Value.int (iI z)) (hr_13.f.2.2.1)) ?_
  have hG : gW K A s.heap [gSvyC K va sc ra vl vd vn vf vt ve vg vb vw, gRayU K ra xa sha lea tma sc rv2_13 XF, gScn K sc la lb sa sb ou mi bo ln LF sn SF] _ _ := hG
  exact g_iret S hr hlk hQ dX6_shiftsWith_23 (Nat.le_of_ble_eq_true rfl) (Nat.le_of_ble_eq_true rfl) ((rv2_13) : RU) rfl hG

set_option maxHeartbeats 1000000 in
set_option maxRecDepth 100000 in
theorem c_X6_firstReaching (l : Launch) (K : KC) (va : Nat) (vl : Int) (vd : Int) (vn : Int) (vf : Int) (vt : Int) (ve : Int) (vg : Int) (vb : Int) (vw : Int) (ra : Nat) (xa : Nat) (sha : Nat) (lea : Nat) (tma : Nat) (sc : Nat) (rv : RU) (XF : Int → Int) (la : Nat) (lb : Nat) (sa : Nat) (sb : Nat) (ou : Int) (mi : Int) (bo : Int) (ln : Int) (LF : Int → Int) (sn : Int) (SF : Int → Int) (N : Int → Int) (tg : Int) (hS : ScOk N ou mi bo ln LF sn SF) (hN : NOk0 N) (hE : EntOk N XF) (hy : 0 ≤ vl ∧ vl < N 0) (hvn : vn = nX N vl) (hd : vd = 0 ∨ vd = 1) (hP : PartN N vl vd vf vt ve) (h0 : 0 ≤ vf) (h1 : 0 ≤ tg ∧ tg ≤ 2147483647) : mG l yX6_firstReaching wsX6_firstReaching 4 94 K [.ref va, .int (iI tg)] [gSvyC K va sc ra vl vd vn vf vt ve vg vb vw, gRayU K ra xa sha lea tma sc rv XF, gScn K sc la lb sa sb ou mi bo ln LF sn SF] (fun (v : Value) (u : Int × RU) => (v = .int (iI u.1)) ∧ (FstR N vl vd vf vt tg u.1)) (fun (u : Int × RU) => [gSvyC K va sc ra vl vd vn vf vt ve vg vb vw, gRayU K ra xa sha lea tma sc u.2 XF, gScn K sc la lb sa sb ou mi bo ln LF sn SF]) 0 0 := by
  refine mG_of cX6_firstReaching 6 (by decide) rfl (Nat.le_of_ble_eq_true rfl) ?_
  intro p e s m below meth c A ls Q S C hG hl hr hlk hin hQ
  have S : CallFix p m c cX6_firstReaching 6 s ([.ref va, .int (iI tg)] : List Value).toArray wsX6_firstReaching RX6 := S
  have iX60 : ∀ w ∈ wsX60, w ∈ wsX6_firstReaching := fun _ h => List.mem_cons_of_mem _ (List.mem_append_left _ (List.mem_append_left _ (List.mem_append_left _ (List.mem_append_right _ (h)))))
  have iX40 : ∀ w ∈ wsX40, w ∈ wsX6_firstReaching := fun _ h => List.mem_cons_of_mem _ (List.mem_append_left _ (List.mem_append_left _ (List.mem_append_right _ (h))))
  have iX50 : ∀ w ∈ wsX50, w ∈ wsX6_firstReaching := fun _ h => List.mem_cons_of_mem _ (List.mem_append_left _ (List.mem_append_right _ (h)))
  have iX70 : ∀ w ∈ wsX70, w ∈ wsX6_firstReaching := fun _ h => List.mem_cons_of_mem _ (List.mem_append_right _ (h))
  have hl : lv_has ls 6 [(0, .ref va), (1, .int (iI tg))] := hl
  have hG : gW K A s.heap [gSvyC K va sc ra vl vd vn vf vt ve vg vb vw, gRayU K ra xa sha lea tma sc rv XF, gScn K sc la lb sa sb ou mi bo ln LF sn SF] s.heap [] := hG
  obtain ⟨e0_, e1, e2, e3, e4, e5, e6⟩ := id hS
  have n0 := hN.1
  have nx := (lay_bd hN hy.1 hy.2).1
  have hPa := hP.1
  refine lv_aload_n S.1 S.2.1 dX6_firstReaching_0 rfl (lv_at hl 0 rfl) ?_
  refine g_get S C hG iX60 0 rfl rfl 5 (by decide) (List.mem_of_getElem? (i := 1) rfl) rfl dX6_firstReaching_1 ?_
  refine lv_istore_n (lv' := [(2, .int (iI vf)), (0, .ref va), (1, .int (iI tg))]) S.1 S.2.1 dX6_firstReaching_4 rfl hl (by decide) rfl (fun ls hl => ?_)
  refine lv_aload_n S.1 S.2.1 dX6_firstReaching_5 rfl (lv_at hl 1 rfl) ?_
  refine g_get S C hG iX60 0 rfl rfl 6 (by decide) (List.mem_of_getElem? (i := 2) rfl) rfl dX6_firstReaching_6 ?_
  refine lv_istore_n (lv' := [(3, .int (iI vt)), (2, .int (iI vf)), (0, .ref va), (1, .int (iI tg))]) S.1 S.2.1 dX6_firstReaching_9 rfl hl (by decide) rfl (fun ls hl => ?_)
  refine g_iconst S dX6_firstReaching_10 ?_
  refine lv_istore (lv' := [(4, .int (iI 0)), (3, .int (iI vt)), (2, .int (iI vf)), (0, .ref va), (1, .int (iI tg))]) S.1 S.2.1 dX6_firstReaching_11 hl (by decide) rfl (fun ls hl => ?_)
  have L13 : ∀ (fu : Nat) (w : Int) (zl : Int) (zh : Int) (rv1 : RU) (H : Heap) (locs : List Loc) (ls : Array Slot), (((32 : Int) - w).toNat) < fu → (0 ≤ w ∧ w ≤ 32) → (vf ≤ zl ∧ zl ≤ zh ∧ zh ≤ vt) → (∀ p : Int, vf ≤ p → p < zl → shF N p vl vd < tg) → (∀ p : Int, zh ≤ p → p < vt → tg ≤ shF N p vl vd) → (zh - zl ≤ gB w.toNat) → lv_has ls 6 [(0, .ref va), (1, .int (iI tg)), (2, .int (iI zl)), (3, .int (iI zh)), (4, .int (iI w))] → gW K A s.heap [gSvyC K va sc ra vl vd vn vf vt ve vg vb vw, gRayU K ra xa sha lea tma sc rv1 XF, gScn K sc la lb sa sb ou mi bo ln LF sn SF] H locs → W p l e { frames := 4, cells := 0, slots := 0, locals := 94 } s m ([.ref va, .int (iI tg)] : List Value).toArray below meth c H locs 0 0 Q (F0 m 13 ls []) := by
    intro fu
    induction fu with
    | zero => intro w zl zh rv1 H locs ls hfu; exact absurd hfu (Nat.not_lt_zero _)
    | succ fu ih =>
      intro w zl zh rv1 H locs ls hfu hw hu ha hb hg hl hG
      have nz := gB_nn w.toNat
      refine lv_iload S.1 S.2.1 dX6_firstReaching_13 (lv_at hl 4 rfl) ?_
      refine g_bipush S dX6_firstReaching_15 (by decide) ?_
      refine g_icmp_ge (tgt := 77) S dX6_firstReaching_17 (by decide) (by omega) (by omega) (fun q17 => ?_) (fun q17 => ?_)
      · skip
        refine lv_iload_n S.1 S.2.1 dX6_firstReaching_77 rfl (lv_at hl 2 rfl) ?_
        have g9 := gap2_end hg (by omega)
        have hG : gW K A s.heap [gSvyC K va sc ra vl vd vn vf vt ve vg vb vw, gRayU K ra xa sha lea tma sc rv1 XF, gScn K sc la lb sa sb ou mi bo ln LF sn SF] _ _ := hG
        exact g_iret S hr hlk hQ dX6_firstReaching_78 (Nat.le_of_ble_eq_true rfl) (Nat.le_of_ble_eq_true rfl) ((zl, rv1) : Int × RU) ⟨rfl, ⟨⟨hu.1, (by show zl ≤ vt <;> omega)⟩, ha, fun p a b => hb p (by have a : zl ≤ p := a <;> omega) b⟩⟩ hG
      · skip
        refine lv_iload_n S.1 S.2.1 dX6_firstReaching_20 rfl (lv_at hl 2 rfl) ?_
        refine lv_iload_n S.1 S.2.1 dX6_firstReaching_21 rfl (lv_at hl 3 rfl) ?_
        refine g_icmp_ge (tgt := 77) S dX6_firstReaching_22 (by decide) (by omega) (by omega) (fun q22 => ?_) (fun q22 => ?_)
        · skip
          refine lv_iload_n S.1 S.2.1 dX6_firstReaching_77 rfl (lv_at hl 2 rfl) ?_
          have hG : gW K A s.heap [gSvyC K va sc ra vl vd vn vf vt ve vg vb vw, gRayU K ra xa sha lea tma sc rv1 XF, gScn K sc la lb sa sb ou mi bo ln LF sn SF] _ _ := hG
          exact g_iret S hr hlk hQ dX6_firstReaching_78 (Nat.le_of_ble_eq_true rfl) (Nat.le_of_ble_eq_true rfl) ((zl, rv1) : Int × RU) ⟨rfl, ⟨⟨hu.1, (by show zl ≤ vt <;> omega)⟩, ha, fun p a b => hb p (by have a : zl ≤ p := a <;> omega) b⟩⟩ hG
        · skip
          refine lv_iload_n S.1 S.2.1 dX6_firstReaching_25 rfl (lv_at hl 2 rfl) ?_
          refine lv_iload_n S.1 S.2.1 dX6_firstReaching_26 rfl (lv_at hl 3 rfl) ?_
          refine g_iadd S dX6_firstReaching_27 rfl ?_
          refine g_iconst S dX6_firstReaching_28 ?_
          refine g_idiv S dX6_firstReaching_29 (by omega) (by omega) rfl ?_
          refine lv_istore (lv' := [(5, .int (iI ((zl + zh) / 2))), (0, .ref va), (1, .int (iI tg)), (2, .int (iI zl)), (3, .int (iI zh)), (4, .int (iI w))]) S.1 S.2.1 dX6_firstReaching_30 hl (by decide) rfl (fun ls hl => ?_)
          refine lv_aload_n S.1 S.2.1 dX6_firstReaching_32 rfl (lv_at hl 1 rfl) ?_
          refine g_get S C hG iX60 0 rfl rfl 1 (by decide) (List.mem_of_getElem? (i := 3) rfl) rfl dX6_firstReaching_33 ?_
          refine lv_aload_n S.1 S.2.1 dX6_firstReaching_36 rfl (lv_at hl 1 rfl) ?_
          refine g_get S C hG iX60 0 rfl rfl 2 (by decide) (List.mem_of_getElem? (i := 4) rfl) rfl dX6_firstReaching_37 ?_
          refine lv_aload_n S.1 S.2.1 dX6_firstReaching_40 rfl (lv_at hl 1 rfl) ?_
          refine g_get S C hG iX60 0 rfl rfl 3 (by decide) (List.mem_of_getElem? (i := 5) rfl) rfl dX6_firstReaching_41 ?_
          refine lv_iload S.1 S.2.1 dX6_firstReaching_44 (lv_at hl 0 rfl) ?_
          refine g_invVv (As := [.int (iI vl), .int (iI vd), .int (iI ((zl + zh) / 2))]) (rest := []) (gs' := (fun u : RU => [gSvyC K va sc ra vl vd vn vf vt ve vg vb vw, gRayU K ra xa sha lea tma sc u XF, gScn K sc la lb sa sb ou mi bo ln LF sn SF])) S C hG [1, 2] (c_X4_runU l K ra xa sha lea tma sc rv1 XF la lb sa sb ou mi bo ln LF sn SF N vl vd ((zl + zh) / 2) hS hN hE (by omega) (by omega) hd) rfl rfl 0 rfl rfl (cwV 3 S.2.2.2.2 gX6_firstReaching_X4_run rfl rfl rfl (by decide +kernel) ⟨Nat.le_of_ble_eq_true rfl, Nat.le_of_ble_eq_true rfl⟩) rfl hl.1 rfl (Nat.le_of_ble_eq_true rfl) dX6_firstReaching_46 ⟨Nat.le_of_ble_eq_true rfl, Nat.le_of_ble_eq_true rfl⟩ (fun _ => Nat.le_of_ble_eq_true rfl) (fun _ => rfl) (fun u H locs hp hG => ?_)
          obtain ⟨rv2_46, rfl⟩ : ∃ z, z = u := ⟨_, rfl⟩
          have hr_46 := hp
          have hr_46 : ResU N ((zl + zh) / 2) vl vd rv2_46 := hr_46
          have hG : gW K A s.heap [gSvyC K va sc ra vl vd vn vf vt ve vg vb vw, gRayU K ra xa sha lea tma sc rv2_46 XF, gScn K sc la lb sa sb ou mi bo ln LF sn SF] _ _ := hG
          refine lv_aload_n S.1 S.2.1 dX6_firstReaching_49 rfl (lv_at hl 1 rfl) ?_
          refine g_get S C hG iX60 0 rfl rfl 1 (by decide) (List.mem_of_getElem? (i := 3) rfl) rfl dX6_firstReaching_50 ?_
          refine g_get S C hG iX40 1 rfl rfl 10 (by decide) (List.mem_of_getElem? (i := 6) rfl) rfl dX6_firstReaching_53 ?_
          refine g_top (w := .int (iI (shF N ((zl + zh) / 2) vl vd))) (congrArg (fun z : Int => Value.int (iI z)) (hr_46.f.2.2.1)) ?_
          refine lv_iload_n S.1 S.2.1 dX6_firstReaching_56 rfl (lv_at hl 2 rfl) ?_
          have b1 := (shF_bd hN (show 0 ≤ (zl + zh) / 2 by omega) hd (y := vl)).1
          refine g_icmp_lt (tgt := 66) S dX6_firstReaching_57 (by decide) (by omega) (by omega) (fun q57 => ?_) (fun q57 => ?_)
          · skip
            refine lv_iload S.1 S.2.1 dX6_firstReaching_66 (lv_at hl 0 rfl) ?_
            refine g_iconst S dX6_firstReaching_68 ?_
            refine g_iadd S dX6_firstReaching_69 rfl ?_
            refine lv_istore_n (lv' := [(2, .int (iI (((zl + zh) / 2) + 1))), (5, .int (iI ((zl + zh) / 2))), (0, .ref va), (1, .int (iI tg)), (3, .int (iI zh)), (4, .int (iI w))]) S.1 S.2.1 dX6_firstReaching_70 rfl hl (by decide) rfl (fun ls hl => ?_)
            refine lv_iinc (v := iI (w + 1)) (lv' := [(4, .int (iI (w + 1))), (2, .int (iI (((zl + zh) / 2) + 1))), (5, .int (iI ((zl + zh) / 2))), (0, .ref va), (1, .int (iI tg)), (3, .int (iI zh))]) S.1 S.2.1 dX6_firstReaching_71 hl (k := 5) rfl (g_iinc rfl) (by decide) rfl (fun ls hl => ?_)
            refine lv_goto (tgt := 13) S.1 S.2.1 dX6_firstReaching_74 (by decide) ?_
            exact ih (w + 1) ((zl + zh) / 2 + 1) zh rv2_46 _ _ _ (by omega) (by omega) (by omega) (fun p a b => by have := (hP.mono hN hy hd h0 a (show p ≤ (zl + zh) / 2 by omega) (by omega)).1 <;> omega) hb (gap2_step hw.1 hg (by omega)) (lv_sub hl [3, 4, 1, 5, 0] rfl) hG
          · skip
            refine lv_iload S.1 S.2.1 dX6_firstReaching_60 (lv_at hl 0 rfl) ?_
            refine lv_istore_n (lv' := [(3, .int (iI ((zl + zh) / 2))), (5, .int (iI ((zl + zh) / 2))), (0, .ref va), (1, .int (iI tg)), (2, .int (iI zl)), (4, .int (iI w))]) S.1 S.2.1 dX6_firstReaching_62 rfl hl (by decide) rfl (fun ls hl => ?_)
            refine lv_goto (tgt := 71) S.1 S.2.1 dX6_firstReaching_63 (by decide) ?_
            refine lv_iinc (v := iI (w + 1)) (lv' := [(4, .int (iI (w + 1))), (3, .int (iI ((zl + zh) / 2))), (5, .int (iI ((zl + zh) / 2))), (0, .ref va), (1, .int (iI tg)), (2, .int (iI zl))]) S.1 S.2.1 dX6_firstReaching_71 hl (k := 5) rfl (g_iinc rfl) (by decide) rfl (fun ls hl => ?_)
            refine lv_goto (tgt := 13) S.1 S.2.1 dX6_firstReaching_74 (by decide) ?_
            exact ih (w + 1) zl ((zl + zh) / 2) rv2_46 _ _ _ (by omega) (by omega) (by omega) ha (fun p a b => by have := (hP.mono hN hy hd h0 (show vf ≤ (zl + zh) / 2 by omega) a b).1 <;> omega) (gap2_step hw.1 hg (by omega)) (lv_sub hl [3, 4, 5, 1, 0] rfl) hG
  exact L13 (Nat.succ (((32 : Int) - 0).toNat)) 0 vf vt rv _ _ _ (Nat.lt_succ_self _) (by omega) (by omega) (fun p a b => by omega) (fun p a b => by omega) (by show _ ≤ (4000 : Int) <;> omega) (lv_sub hl [3, 4, 2, 1, 0] rfl) hG
