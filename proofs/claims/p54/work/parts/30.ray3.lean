set_option maxHeartbeats 1000000 in
set_option maxRecDepth 100000 in
theorem c_X4_goOn (l : Launch) (K : KC) (ra : Nat) (xa : Nat) (sha : Nat) (lea : Nat) (tma : Nat) (sc : Nat) (pp : Int) (ly : Int) (dn : Int) (lg : Int) (en : Int) (sh : Int) (le : Int) (tm : Int) (pw : Int) (tr : Int) (mr : Int) (cr : Int) (de : Int) (XF : Int → Int) (HF : Int → Int) (EF : Int → Int) (TF : Int → Int) (la : Nat) (lb : Nat) (sa : Nat) (sb : Nat) (ou : Int) (mi : Int) (bo : Int) (ln : Int) (LF : Int → Int) (sn : Int) (SF : Int → Int) (N : Int → Int) (hS : ScOk N ou mi bo ln LF sn SF) (hN : NOk0 N) (hE : EntOk N XF) (hy : 0 ≤ ly ∧ ly < N 0) (hd : dn = 0 ∨ dn = 1) (hp0 : 0 ≤ pp ∧ pp ≤ 3999) (hw : 0 ≤ pw ∧ pw ≤ 1000000) (hs : (1 ≤ lg ∧ lg ≤ 60) ∧ (0 ≤ tr ∧ tr ≤ 60) ∧ (0 ≤ mr ∧ mr ≤ 60) ∧ 0 ≤ cr ∧ cr ≤ 60) : mG l yX4_goOn wsX4_goOn 2 46 K [.ref ra] [gRay K ra xa sha lea tma sc pp ly dn lg en sh le tm pw tr mr cr de XF HF EF TF, gScn K sc la lb sa sb ou mi bo ln LF sn SF] (fun (v : Value) (u : Int × Int × Int × Int × Int × Int × Int × Int) => (v = .int (iI u.2.2.2.2.2.2.2)) ∧ (GoR N pp lg ly dn pw en tr mr cr u.1 u.2.1 u.2.2.1 u.2.2.2.1 u.2.2.2.2.1 u.2.2.2.2.2.1 u.2.2.2.2.2.2.1 u.2.2.2.2.2.2.2)) (fun (u : Int × Int × Int × Int × Int × Int × Int × Int) => [gRay K ra xa sha lea tma sc pp u.2.1 u.2.2.1 lg u.1 sh le tm u.2.2.2.1 u.2.2.2.2.1 u.2.2.2.2.2.1 u.2.2.2.2.2.2.1 de XF HF EF TF, gScn K sc la lb sa sb ou mi bo ln LF sn SF]) 0 0 := by
  refine mG_of cX4_goOn 3 (by decide) rfl (Nat.le_of_ble_eq_true rfl) ?_
  intro p e s m below meth c A ls Q S C hG hl hr hlk hin hQ
  have S : CallFix p m c cX4_goOn 3 s ([.ref ra] : List Value).toArray wsX4_goOn RX4 := S
  have iX40 : ∀ w ∈ wsX40, w ∈ wsX4_goOn := fun _ h => List.mem_cons_of_mem _ (List.mem_append_left _ (List.mem_append_left _ (List.mem_append_right _ (h))))
  have iX50 : ∀ w ∈ wsX50, w ∈ wsX4_goOn := fun _ h => List.mem_cons_of_mem _ (List.mem_append_left _ (List.mem_append_right _ (h)))
  have iX70 : ∀ w ∈ wsX70, w ∈ wsX4_goOn := fun _ h => List.mem_cons_of_mem _ (List.mem_append_right _ (h))
  have hl : lv_has ls 3 [(0, .ref ra)] := hl
  have hG : gW K A s.heap [gRay K ra xa sha lea tma sc pp ly dn lg en sh le tm pw tr mr cr de XF HF EF TF, gScn K sc la lb sa sb ou mi bo ln LF sn SF] s.heap [] := hG
  obtain ⟨e0, e1, e2, e3, e4, e5, e6⟩ := id hS
  have n0 := hN.1
  refine lv_aload_n S.1 S.2.1 dX4_goOn_0 rfl (lv_at hl 0 rfl) ?_
  refine g_get S C hG iX40 0 rfl rfl 13 (by decide) (List.mem_of_getElem? (i := 1) rfl) rfl dX4_goOn_1 ?_
  refine g_if_ne (tgt := 14) S dX4_goOn_4 (by decide) (by omega) (fun q4 => ?_) (fun q4 => ?_)
  · skip
    have J36 : ∀ (z : Int) (H : Heap) (locs : List Loc) (ls : Array Slot), (z = ahd ly dn) → (-1 ≤ z ∧ z ≤ N 0) → lv_has ls 3 [(0, .ref ra)] → gW K A s.heap [gRay K ra xa sha lea tma sc pp ly dn lg en sh le tm pw tr mr cr de XF HF EF TF, gScn K sc la lb sa sb ou mi bo ln LF sn SF] H locs → W p l e { frames := 2, cells := 0, slots := 0, locals := 46 } s m ([.ref ra] : List Value).toArray below meth c H locs 0 0 Q (F0 m 36 ls [.int (iI z)]) := by
      intro z H locs ls hz hzr hl hG
      have hzb := ixN_bd hN z
      refine lv_istore_n (lv' := [(1, .int (iI z)), (0, .ref ra)]) S.1 S.2.1 dX4_goOn_36 rfl hl (by decide) rfl (fun ls hl => ?_)
      have J59 : ∀ (H : Heap) (locs : List Loc) (ls : Array Slot), lv_has ls 3 [(0, .ref ra), (1, .int (iI z))] → gW K A s.heap [gRay K ra xa sha lea tma sc pp ly dn lg en sh le tm pw tr mr cr de XF HF EF TF, gScn K sc la lb sa sb ou mi bo ln LF sn SF] H locs → W p l e { frames := 2, cells := 0, slots := 0, locals := 46 } s m ([.ref ra] : List Value).toArray below meth c H locs 0 0 Q (F0 m 59 ls [.int (iI (bI (pp < ixN N z)))]) := by
        intro  H locs ls  hl hG
        refine lv_istore_n (lv' := [(2, .int (iI (bI (pp < ixN N z)))), (0, .ref ra), (1, .int (iI z))]) S.1 S.2.1 dX4_goOn_59 rfl hl (by decide) rfl (fun ls hl => ?_)
        refine lv_iload_n S.1 S.2.1 dX4_goOn_60 rfl (lv_at hl 0 rfl) ?_
        refine g_ifeq_b (B := (pp < ixN N z)) (tgt := 101) S dX4_goOn_61 (by decide) (fun q61 => ?_) (fun q61 => ?_)
        · skip
          refine lv_aload_n S.1 S.2.1 dX4_goOn_101 rfl (lv_at hl 1 rfl) ?_
          refine g_get S C hG iX40 0 rfl rfl 8 (by decide) (List.mem_of_getElem? (i := 8) rfl) rfl dX4_goOn_102 ?_
          refine g_bipush S dX4_goOn_105 (by decide) ?_
          refine g_icmp_lt (tgt := 118) S dX4_goOn_107 (by decide) (by omega) (by omega) (fun q107 => ?_) (fun q107 => ?_)
          · skip
            refine lv_iload_n S.1 S.2.1 dX4_goOn_118 rfl (lv_at hl 0 rfl) ?_
            refine g_ifeq_b (B := (pp < ixN N z)) (tgt := 128) S dX4_goOn_119 (by decide) (fun q119 => ?_) (fun q119 => ?_)
            · skip
              refine lv_aload_n S.1 S.2.1 dX4_goOn_128 rfl (lv_at hl 1 rfl) ?_
              refine g_get S C hG iX40 0 rfl rfl 4 (by decide) (List.mem_of_getElem? (i := 6) rfl) rfl dX4_goOn_129 ?_
              refine lv_iload_n S.1 S.2.1 dX4_goOn_132 rfl (lv_at hl 2 rfl) ?_
              refine g_invV (As := [.int (iI z)]) (rest := []) (gs' := (fun u : Unit => [gRay K ra xa sha lea tma sc pp ly dn lg en sh le tm pw tr mr cr de XF HF EF TF, gScn K sc la lb sa sb ou mi bo ln LF sn SF])) S C hG [1] (c_X5_isMirrorAt l K sc la lb sa sb ou mi bo ln LF sn SF N z hS hN (by omega)) rfl rfl 0 rfl rfl (cwV 1 S.2.2.2.2 gX4_goOn_X5_isMirrorAt rfl rfl rfl (by decide +kernel) ⟨Nat.le_of_ble_eq_true rfl, Nat.le_of_ble_eq_true rfl⟩) rfl hl.1 rfl (Nat.le_of_ble_eq_true rfl) dX4_goOn_133 ⟨Nat.le_of_ble_eq_true rfl, Nat.le_of_ble_eq_true rfl⟩ (fun _ => Nat.le_of_ble_eq_true rfl) (fun _ => rfl) (fun v u H locs hp hG => ?_)
              subst hp
              refine g_ifeq_b (B := (N 2 = 1 ∧ N 0 ≤ z)) (tgt := 146) S dX4_goOn_136 (by decide) (fun q136 => ?_) (fun q136 => ?_)
              · skip
                refine lv_aload_n S.1 S.2.1 dX4_goOn_146 rfl (lv_at hl 1 rfl) ?_
                refine g_invV (As := []) (rest := []) (gs' := (fun u : Unit => [gRay K ra xa sha lea tma sc pp ly (1 - dn) lg en sh le tm pw (tr + 1) mr cr de XF HF EF TF, gScn K sc la lb sa sb ou mi bo ln LF sn SF])) S C hG [0] (c_X4_turnBack l K ra xa sha lea tma sc pp ly dn lg en sh le tm pw tr mr cr de XF HF EF TF hd (by omega)) rfl rfl 0 rfl rfl (cwV 0 S.2.2.2.2 gX4_goOn_X4_turnBack rfl rfl rfl (by decide +kernel) ⟨Nat.le_of_ble_eq_true rfl, Nat.le_of_ble_eq_true rfl⟩) rfl hl.1 rfl (Nat.le_of_ble_eq_true rfl) dX4_goOn_147 ⟨Nat.le_of_ble_eq_true rfl, Nat.le_of_ble_eq_true rfl⟩ (fun _ => Nat.le_of_ble_eq_true rfl) (fun _ => rfl) (fun v u H locs hp hG => ?_)
                subst hp
                have hG : gW K A s.heap [gRay K ra xa sha lea tma sc pp ly (1 - dn) lg en sh le tm pw (tr + 1) mr cr de XF HF EF TF, gScn K sc la lb sa sb ou mi bo ln LF sn SF] _ _ := hG
                exact g_iret S hr hlk hQ dX4_goOn_150 (Nat.le_of_ble_eq_true rfl) (Nat.le_of_ble_eq_true rfl) ((en, ly, (1 - dn), pw, (tr + 1), mr, cr, 1) : Int × Int × Int × Int × Int × Int × Int × Int) ⟨rfl, (GoR.c1 (by unfold evN; rw [← hz, if_neg q4, if_neg q61, if_neg (by omega), if_neg q136]))⟩ hG
              · skip
                refine lv_aload_n S.1 S.2.1 dX4_goOn_139 rfl (lv_at hl 1 rfl) ?_
                refine g_invV (As := []) (rest := []) (gs' := (fun u : Int × Int × Int => [gRay K ra xa sha lea tma sc pp ly u.2.1 lg u.1 sh le tm (pw * N 3 / 100) tr (mr + 1) cr de XF HF EF TF, gScn K sc la lb sa sb ou mi bo ln LF sn SF])) S C hG [0, 1] (c_X4_mirrorBack l K ra xa sha lea tma sc pp ly dn lg en sh le tm pw tr mr cr de XF HF EF TF la lb sa sb ou mi bo ln LF sn SF N hS hN (by omega) hw (by omega)) rfl rfl 0 rfl rfl (cwV 0 S.2.2.2.2 gX4_goOn_X4_mirrorBack rfl rfl rfl (by decide +kernel) ⟨Nat.le_of_ble_eq_true rfl, Nat.le_of_ble_eq_true rfl⟩) rfl hl.1 rfl (Nat.le_of_ble_eq_true rfl) dX4_goOn_140 ⟨Nat.le_of_ble_eq_true rfl, Nat.le_of_ble_eq_true rfl⟩ (fun _ => Nat.le_of_ble_eq_true rfl) (fun _ => rfl) (fun v u H locs hp hG => ?_)
                obtain ⟨en2_140, dn2_140, v2_140⟩ := u
                obtain ⟨rfl, hm_140⟩ := hp
                have hm_140 : (pw * N 3 / 100 = 0 ∧ en2_140 = 2 ∧ dn2_140 = dn ∧ v2_140 = 5) ∨ (¬ pw * N 3 / 100 = 0 ∧ en2_140 = en ∧ dn2_140 = 0 ∧ v2_140 = 2) := hm_140
                have hG : gW K A s.heap [gRay K ra xa sha lea tma sc pp ly dn2_140 lg en2_140 sh le tm (pw * N 3 / 100) tr (mr + 1) cr de XF HF EF TF, gScn K sc la lb sa sb ou mi bo ln LF sn SF] _ _ := hG
                refine lv_goto (tgt := 150) S.1 S.2.1 dX4_goOn_143 (by decide) ?_
                have hG : gW K A s.heap [gRay K ra xa sha lea tma sc pp ly dn2_140 lg en2_140 sh le tm (pw * N 3 / 100) tr (mr + 1) cr de XF HF EF TF, gScn K sc la lb sa sb ou mi bo ln LF sn SF] _ _ := hG
                exact g_iret S hr hlk hQ dX4_goOn_150 (Nat.le_of_ble_eq_true rfl) (Nat.le_of_ble_eq_true rfl) ((en2_140, ly, dn2_140, (pw * N 3 / 100), tr, (mr + 1), cr, v2_140) : Int × Int × Int × Int × Int × Int × Int × Int) ⟨rfl, (GoR.c27 (by unfold evN; rw [← hz, if_neg q4, if_neg q61, if_neg (by omega), if_pos q136]) hm_140)⟩ hG
            · skip
              exact absurd q119 q61
          · skip
            refine lv_aload_n S.1 S.2.1 dX4_goOn_110 rfl (lv_at hl 1 rfl) ?_
            refine g_iconst S dX4_goOn_111 ?_
            refine g_bipush S dX4_goOn_112 (by decide) ?_
            refine g_invV (As := [.int (iI 3), .int (iI 6)]) (rest := []) (gs' := (fun u : Unit => [gRay K ra xa sha lea tma sc pp ly dn lg 3 sh le tm pw tr mr cr de XF HF EF TF, gScn K sc la lb sa sb ou mi bo ln LF sn SF])) S C hG [0] (c_X4_endWith l K ra xa sha lea tma sc pp ly dn lg en sh le tm pw tr mr cr de XF HF EF TF 3 6) rfl rfl 0 rfl rfl (cwV 2 S.2.2.2.2 gX4_goOn_X4_endWith rfl rfl rfl (by decide +kernel) ⟨Nat.le_of_ble_eq_true rfl, Nat.le_of_ble_eq_true rfl⟩) rfl hl.1 rfl (Nat.le_of_ble_eq_true rfl) dX4_goOn_114 ⟨Nat.le_of_ble_eq_true rfl, Nat.le_of_ble_eq_true rfl⟩ (fun _ => Nat.le_of_ble_eq_true rfl) (fun _ => rfl) (fun v u H locs hp hG => ?_)
            subst hp
            have hG : gW K A s.heap [gRay K ra xa sha lea tma sc pp ly dn lg 3 sh le tm pw tr mr cr de XF HF EF TF, gScn K sc la lb sa sb ou mi bo ln LF sn SF] _ _ := hG
            exact g_iret S hr hlk hQ dX4_goOn_117 (Nat.le_of_ble_eq_true rfl) (Nat.le_of_ble_eq_true rfl) ((3, ly, dn, pw, tr, mr, cr, 6) : Int × Int × Int × Int × Int × Int × Int × Int) ⟨rfl, (GoR.c6 (by unfold evN; rw [← hz, if_neg q4]; (repeat' split) <;> omega))⟩ hG
        · skip
          refine lv_aload_n S.1 S.2.1 dX4_goOn_64 rfl (lv_at hl 1 rfl) ?_
          refine g_get S C hG iX40 0 rfl rfl 4 (by decide) (List.mem_of_getElem? (i := 6) rfl) rfl dX4_goOn_65 ?_
          refine g_get S C hG iX50 5 rfl rfl 0 (by decide) (List.mem_of_getElem? (i := 7) rfl) rfl dX4_goOn_68 ?_
          refine lv_iload_n S.1 S.2.1 dX4_goOn_71 rfl (lv_at hl 2 rfl) ?_
          have hG : gW K A s.heap [gRay K ra xa sha lea tma sc pp ly dn lg en sh le tm pw tr mr cr de XF HF EF TF, gScC K sc la sa ou mi bo, gTab K la lb ln LF, gTabC K sa sb sn, gArr K 60 sb SF] _ _ := hG
          refine g_invV (As := [.int (iI z)]) (rest := []) (gs' := (fun u : Unit => [gRay K ra xa sha lea tma sc pp ly dn lg en sh le tm pw tr mr cr de XF HF EF TF, gScC K sc la sa ou mi bo, gTab K la lb ln LF, gTabC K sa sb sn, gArr K 60 sb SF])) S C hG [2] (c_X7_has l K la lb ln LF z (by omega) (by omega)) rfl rfl 0 rfl rfl (cwV 1 S.2.2.2.2 gX4_goOn_X7_has rfl rfl rfl (by decide +kernel) ⟨Nat.le_of_ble_eq_true rfl, Nat.le_of_ble_eq_true rfl⟩) rfl hl.1 rfl (Nat.le_of_ble_eq_true rfl) dX4_goOn_72 ⟨Nat.le_of_ble_eq_true rfl, Nat.le_of_ble_eq_true rfl⟩ (fun _ => Nat.le_of_ble_eq_true rfl) (fun _ => rfl) (fun v u H locs hp hG => ?_)
          subst hp
          refine g_ifne_b (B := (0 ≤ z ∧ z < ln)) (tgt := 101) S dX4_goOn_75 (by decide) (fun q75 => ?_) (fun q75 => ?_)
          · skip
            refine lv_aload_n S.1 S.2.1 dX4_goOn_101 rfl (lv_at hl 1 rfl) ?_
            refine g_get S C hG iX40 0 rfl rfl 8 (by decide) (List.mem_of_getElem? (i := 8) rfl) rfl dX4_goOn_102 ?_
            refine g_bipush S dX4_goOn_105 (by decide) ?_
            refine g_icmp_lt (tgt := 118) S dX4_goOn_107 (by decide) (by omega) (by omega) (fun q107 => ?_) (fun q107 => ?_)
            · skip
              refine lv_iload_n S.1 S.2.1 dX4_goOn_118 rfl (lv_at hl 0 rfl) ?_
              refine g_ifeq_b (B := (pp < ixN N z)) (tgt := 128) S dX4_goOn_119 (by decide) (fun q119 => ?_) (fun q119 => ?_)
              · skip
                exact absurd q61 q119
              · skip
                refine lv_aload_n S.1 S.2.1 dX4_goOn_122 rfl (lv_at hl 1 rfl) ?_
                refine lv_iload_n S.1 S.2.1 dX4_goOn_123 rfl (lv_at hl 2 rfl) ?_
                refine g_invV (As := [.int (iI z)]) (rest := []) (gs' := (fun u : Unit => [gRay K ra xa sha lea tma sc pp z dn lg en sh le tm (ppN N ly z pw) tr mr (cr + 1) de XF HF EF TF, gScC K sc la sa ou mi bo, gTab K la lb ln LF, gTabC K sa sb sn, gArr K 60 sb SF])) S C hG [0] (c_X4_passInto l K ra xa sha lea tma sc pp ly dn lg en sh le tm pw tr mr cr de XF HF EF TF N z hN hE hy (by omega) hw (by omega)) rfl rfl 0 rfl rfl (cwV 1 S.2.2.2.2 gX4_goOn_X4_passInto rfl rfl rfl (by decide +kernel) ⟨Nat.le_of_ble_eq_true rfl, Nat.le_of_ble_eq_true rfl⟩) rfl hl.1 rfl (Nat.le_of_ble_eq_true rfl) dX4_goOn_124 ⟨Nat.le_of_ble_eq_true rfl, Nat.le_of_ble_eq_true rfl⟩ (fun _ => Nat.le_of_ble_eq_true rfl) (fun _ => rfl) (fun v u H locs hp hG => ?_)
                subst hp
                have hG : gW K A s.heap [gRay K ra xa sha lea tma sc pp z dn lg en sh le tm (ppN N ly z pw) tr mr (cr + 1) de XF HF EF TF, gScn K sc la lb sa sb ou mi bo ln LF sn SF] _ _ := hG
                exact g_iret S hr hlk hQ dX4_goOn_127 (Nat.le_of_ble_eq_true rfl) (Nat.le_of_ble_eq_true rfl) ((en, z, dn, (ppN N ly z pw), tr, mr, (cr + 1), 0) : Int × Int × Int × Int × Int × Int × Int × Int) ⟨rfl, (GoR.c0 (by unfold evN; rw [← hz, if_neg q4, if_pos q61, if_pos (by omega), if_neg (by omega)]) hz)⟩ hG
            · skip
              refine lv_aload_n S.1 S.2.1 dX4_goOn_110 rfl (lv_at hl 1 rfl) ?_
              refine g_iconst S dX4_goOn_111 ?_
              refine g_bipush S dX4_goOn_112 (by decide) ?_
              refine g_invV (As := [.int (iI 3), .int (iI 6)]) (rest := []) (gs' := (fun u : Unit => [gRay K ra xa sha lea tma sc pp ly dn lg 3 sh le tm pw tr mr cr de XF HF EF TF, gScC K sc la sa ou mi bo, gTab K la lb ln LF, gTabC K sa sb sn, gArr K 60 sb SF])) S C hG [0] (c_X4_endWith l K ra xa sha lea tma sc pp ly dn lg en sh le tm pw tr mr cr de XF HF EF TF 3 6) rfl rfl 0 rfl rfl (cwV 2 S.2.2.2.2 gX4_goOn_X4_endWith rfl rfl rfl (by decide +kernel) ⟨Nat.le_of_ble_eq_true rfl, Nat.le_of_ble_eq_true rfl⟩) rfl hl.1 rfl (Nat.le_of_ble_eq_true rfl) dX4_goOn_114 ⟨Nat.le_of_ble_eq_true rfl, Nat.le_of_ble_eq_true rfl⟩ (fun _ => Nat.le_of_ble_eq_true rfl) (fun _ => rfl) (fun v u H locs hp hG => ?_)
              subst hp
              have hG : gW K A s.heap [gRay K ra xa sha lea tma sc pp ly dn lg 3 sh le tm pw tr mr cr de XF HF EF TF, gScn K sc la lb sa sb ou mi bo ln LF sn SF] _ _ := hG
              exact g_iret S hr hlk hQ dX4_goOn_117 (Nat.le_of_ble_eq_true rfl) (Nat.le_of_ble_eq_true rfl) ((3, ly, dn, pw, tr, mr, cr, 6) : Int × Int × Int × Int × Int × Int × Int × Int) ⟨rfl, (GoR.c6 (by unfold evN; rw [← hz, if_neg q4]; (repeat' split) <;> omega))⟩ hG
          · skip
            refine lv_aload_n S.1 S.2.1 dX4_goOn_78 rfl (lv_at hl 1 rfl) ?_
            refine g_get S C hG iX40 0 rfl rfl 7 (by decide) (List.mem_of_getElem? (i := 2) rfl) rfl dX4_goOn_79 ?_
            refine g_if_eq (tgt := 94) S dX4_goOn_82 (by decide) (by omega) (fun q82 => ?_) (fun q82 => ?_)
            · skip
              refine lv_aload_n S.1 S.2.1 dX4_goOn_94 rfl (lv_at hl 1 rfl) ?_
              refine g_iconst S dX4_goOn_95 ?_
              refine g_iconst S dX4_goOn_96 ?_
              refine g_invV (As := [.int (iI 0), .int (iI 3)]) (rest := []) (gs' := (fun u : Unit => [gRay K ra xa sha lea tma sc pp ly dn lg 0 sh le tm pw tr mr cr de XF HF EF TF, gScC K sc la sa ou mi bo, gTab K la lb ln LF, gTabC K sa sb sn, gArr K 60 sb SF])) S C hG [0] (c_X4_endWith l K ra xa sha lea tma sc pp ly dn lg en sh le tm pw tr mr cr de XF HF EF TF 0 3) rfl rfl 0 rfl rfl (cwV 2 S.2.2.2.2 gX4_goOn_X4_endWith rfl rfl rfl (by decide +kernel) ⟨Nat.le_of_ble_eq_true rfl, Nat.le_of_ble_eq_true rfl⟩) rfl hl.1 rfl (Nat.le_of_ble_eq_true rfl) dX4_goOn_97 ⟨Nat.le_of_ble_eq_true rfl, Nat.le_of_ble_eq_true rfl⟩ (fun _ => Nat.le_of_ble_eq_true rfl) (fun _ => rfl) (fun v u H locs hp hG => ?_)
              subst hp
              have hG : gW K A s.heap [gRay K ra xa sha lea tma sc pp ly dn lg 0 sh le tm pw tr mr cr de XF HF EF TF, gScn K sc la lb sa sb ou mi bo ln LF sn SF] _ _ := hG
              exact g_iret S hr hlk hQ dX4_goOn_100 (Nat.le_of_ble_eq_true rfl) (Nat.le_of_ble_eq_true rfl) ((0, ly, dn, pw, tr, mr, cr, 3) : Int × Int × Int × Int × Int × Int × Int × Int) ⟨rfl, (GoR.c3 (by unfold evN; rw [← hz, if_neg q4, if_pos q61, if_neg (by omega)]; (repeat' split) <;> omega))⟩ hG
            · skip
              refine lv_aload_n S.1 S.2.1 dX4_goOn_85 rfl (lv_at hl 1 rfl) ?_
              refine g_iconst S dX4_goOn_86 ?_
              refine g_iconst S dX4_goOn_87 ?_
              refine g_invV (As := [.int (iI 1), .int (iI 4)]) (rest := []) (gs' := (fun u : Unit => [gRay K ra xa sha lea tma sc pp ly dn lg 1 sh le tm pw tr mr cr de XF HF EF TF, gScC K sc la sa ou mi bo, gTab K la lb ln LF, gTabC K sa sb sn, gArr K 60 sb SF])) S C hG [0] (c_X4_endWith l K ra xa sha lea tma sc pp ly dn lg en sh le tm pw tr mr cr de XF HF EF TF 1 4) rfl rfl 0 rfl rfl (cwV 2 S.2.2.2.2 gX4_goOn_X4_endWith rfl rfl rfl (by decide +kernel) ⟨Nat.le_of_ble_eq_true rfl, Nat.le_of_ble_eq_true rfl⟩) rfl hl.1 rfl (Nat.le_of_ble_eq_true rfl) dX4_goOn_88 ⟨Nat.le_of_ble_eq_true rfl, Nat.le_of_ble_eq_true rfl⟩ (fun _ => Nat.le_of_ble_eq_true rfl) (fun _ => rfl) (fun v u H locs hp hG => ?_)
              subst hp
              refine lv_goto (tgt := 100) S.1 S.2.1 dX4_goOn_91 (by decide) ?_
              have hG : gW K A s.heap [gRay K ra xa sha lea tma sc pp ly dn lg 1 sh le tm pw tr mr cr de XF HF EF TF, gScn K sc la lb sa sb ou mi bo ln LF sn SF] _ _ := hG
              exact g_iret S hr hlk hQ dX4_goOn_100 (Nat.le_of_ble_eq_true rfl) (Nat.le_of_ble_eq_true rfl) ((1, ly, dn, pw, tr, mr, cr, 4) : Int × Int × Int × Int × Int × Int × Int × Int) ⟨rfl, (GoR.c4 (by unfold evN; rw [← hz, if_neg q4, if_pos q61, if_neg (by omega)]; (repeat' split) <;> omega))⟩ hG
      refine lv_aload_n S.1 S.2.1 dX4_goOn_37 rfl (lv_at hl 1 rfl) ?_
      refine g_get S C hG iX40 0 rfl rfl 0 (by decide) (List.mem_of_getElem? (i := 4) rfl) rfl dX4_goOn_38 ?_
      refine lv_iload_n S.1 S.2.1 dX4_goOn_41 rfl (lv_at hl 0 rfl) ?_
      refine g_iconst S dX4_goOn_42 ?_
      refine g_iadd S dX4_goOn_43 rfl ?_
      have hG : gW K A s.heap [gRayC K ra xa sha lea tma sc pp ly dn lg en sh le tm pw tr mr cr de, gArr K 12 xa XF, gArr K 10 sha HF, gArr K 10 lea EF, gArr K 10 tma TF, gScn K sc la lb sa sb ou mi bo ln LF sn SF] _ _ := hG
      refine g_invSN (As := [.ref xa, .int (iI (z + 1))]) (rest := []) (gs' := (fun u : Unit => [gRayC K ra xa sha lea tma sc pp ly dn lg en sh le tm pw tr mr cr de, gArr K 12 xa XF, gArr K 10 sha HF, gArr K 10 lea EF, gArr K 10 tma TF, gScn K sc la lb sa sb ou mi bo ln LF sn SF])) S C hG [1] (c_X8_at l K 12 xa XF (z + 1) (by omega) (by omega)) rfl rfl ⟨va_cnB 2 S.2.2.2.2 gX4_goOn_X8_at_n114 rfl rfl rfl (C.1.2.1 _ (List.mem_of_getElem? (i := 8) rfl)) (S.2.2.2.2 _ (List.mem_of_getElem? (i := 16) rfl)) (by decide +kernel) ⟨Nat.le_of_ble_eq_true rfl, Nat.le_of_ble_eq_true rfl⟩, (S.2.2.2.2 _ (List.mem_of_getElem? (i := 15) rfl)), trivial⟩ rfl hl.1 rfl (Nat.le_of_ble_eq_true rfl) dX4_goOn_44 ⟨Nat.le_of_ble_eq_true rfl, Nat.le_of_ble_eq_true rfl⟩ (fun _ => Nat.le_of_ble_eq_true rfl) (fun _ => rfl) (fun v u H locs hp hG => ?_)
      subst hp
      refine g_top (w := .int (iI (ixN N z))) (congrArg (fun z : Int => Value.int (iI z)) (hE z (by omega) (by omega))) ?_
      refine lv_aload_n S.1 S.2.1 dX4_goOn_47 rfl (lv_at hl 1 rfl) ?_
      refine g_get S C hG iX40 0 rfl rfl 5 (by decide) (List.mem_of_getElem? (i := 5) rfl) rfl dX4_goOn_48 ?_
      refine g_icmp_le (tgt := 58) S dX4_goOn_51 (by decide) (by omega) (by omega) (fun q51 => ?_) (fun q51 => ?_)
      · skip
        refine g_iconst S dX4_goOn_58 ?_
        refine g_top (w := .int (iI (bI (pp < ixN N z)))) (congrArg (fun z : Int => Value.int (iI z)) ((bI_f (by omega)).symm)) ?_
        have hG : gW K A s.heap [gRay K ra xa sha lea tma sc pp ly dn lg en sh le tm pw tr mr cr de XF HF EF TF, gScn K sc la lb sa sb ou mi bo ln LF sn SF] _ _ := hG
        exact J59 _ _ _ (lv_sub hl [1, 0] rfl) hG
      · skip
        refine g_iconst S dX4_goOn_54 ?_
        refine g_top (w := .int (iI (bI (pp < ixN N z)))) (congrArg (fun z : Int => Value.int (iI z)) ((bI_t (by omega)).symm)) ?_
        refine lv_goto (tgt := 59) S.1 S.2.1 dX4_goOn_55 (by decide) ?_
        have hG : gW K A s.heap [gRay K ra xa sha lea tma sc pp ly dn lg en sh le tm pw tr mr cr de XF HF EF TF, gScn K sc la lb sa sb ou mi bo ln LF sn SF] _ _ := hG
        exact J59 _ _ _ (lv_sub hl [1, 0] rfl) hG
    refine lv_aload_n S.1 S.2.1 dX4_goOn_14 rfl (lv_at hl 0 rfl) ?_
    refine g_get S C hG iX40 0 rfl rfl 7 (by decide) (List.mem_of_getElem? (i := 2) rfl) rfl dX4_goOn_15 ?_
    refine g_if_eq (tgt := 30) S dX4_goOn_18 (by decide) (by omega) (fun q18 => ?_) (fun q18 => ?_)
    · skip
      refine lv_aload_n S.1 S.2.1 dX4_goOn_30 rfl (lv_at hl 0 rfl) ?_
      refine g_get S C hG iX40 0 rfl rfl 6 (by decide) (List.mem_of_getElem? (i := 3) rfl) rfl dX4_goOn_31 ?_
      refine g_iconst S dX4_goOn_34 ?_
      refine g_isub S dX4_goOn_35 rfl ?_
      exact J36 (ly - 1) _ _ _ (by unfold ahd; split <;> omega) (by omega) (lv_sub hl [0] rfl) hG
    · skip
      refine lv_aload_n S.1 S.2.1 dX4_goOn_21 rfl (lv_at hl 0 rfl) ?_
      refine g_get S C hG iX40 0 rfl rfl 6 (by decide) (List.mem_of_getElem? (i := 3) rfl) rfl dX4_goOn_22 ?_
      refine g_iconst S dX4_goOn_25 ?_
      refine g_iadd S dX4_goOn_26 rfl ?_
      refine lv_goto (tgt := 36) S.1 S.2.1 dX4_goOn_27 (by decide) ?_
      exact J36 (ly + 1) _ _ _ (by unfold ahd; split <;> omega) (by omega) (lv_sub hl [0] rfl) hG
  · skip
    refine lv_aload_n S.1 S.2.1 dX4_goOn_7 rfl (lv_at hl 0 rfl) ?_
    refine g_iconst S dX4_goOn_8 ?_
    refine g_iconst S dX4_goOn_9 ?_
    refine g_invV (As := [.int (iI 2), .int (iI 5)]) (rest := []) (gs' := (fun u : Unit => [gRay K ra xa sha lea tma sc pp ly dn lg 2 sh le tm pw tr mr cr de XF HF EF TF, gScn K sc la lb sa sb ou mi bo ln LF sn SF])) S C hG [0] (c_X4_endWith l K ra xa sha lea tma sc pp ly dn lg en sh le tm pw tr mr cr de XF HF EF TF 2 5) rfl rfl 0 rfl rfl (cwV 2 S.2.2.2.2 gX4_goOn_X4_endWith rfl rfl rfl (by decide +kernel) ⟨Nat.le_of_ble_eq_true rfl, Nat.le_of_ble_eq_true rfl⟩) rfl hl.1 rfl (Nat.le_of_ble_eq_true rfl) dX4_goOn_10 ⟨Nat.le_of_ble_eq_true rfl, Nat.le_of_ble_eq_true rfl⟩ (fun _ => Nat.le_of_ble_eq_true rfl) (fun _ => rfl) (fun v u H locs hp hG => ?_)
    subst hp
    have hG : gW K A s.heap [gRay K ra xa sha lea tma sc pp ly dn lg 2 sh le tm pw tr mr cr de XF HF EF TF, gScn K sc la lb sa sb ou mi bo ln LF sn SF] _ _ := hG
    exact g_iret S hr hlk hQ dX4_goOn_13 (Nat.le_of_ble_eq_true rfl) (Nat.le_of_ble_eq_true rfl) ((2, ly, dn, pw, tr, mr, cr, 5) : Int × Int × Int × Int × Int × Int × Int × Int) ⟨rfl, (GoR.c5 (by unfold evN; rw [if_pos q4]))⟩ hG
set_option maxHeartbeats 1000000 in
set_option maxRecDepth 100000 in
theorem c_X4_run (l : Launch) (K : KC) (ra : Nat) (xa : Nat) (sha : Nat) (lea : Nat) (tma : Nat) (sc : Nat) (pp : Int) (ly : Int) (dn : Int) (lg : Int) (en : Int) (sh : Int) (le : Int) (tm : Int) (pw : Int) (tr : Int) (mr : Int) (cr : Int) (de : Int) (XF : Int → Int) (HF : Int → Int) (EF : Int → Int) (TF : Int → Int) (la : Nat) (lb : Nat) (sa : Nat) (sb : Nat) (ou : Int) (mi : Int) (bo : Int) (ln : Int) (LF : Int → Int) (sn : Int) (SF : Int → Int) (N : Int → Int) (y0 : Int) (e0 : Int) (x : Int) (hS : ScOk N ou mi bo ln LF sn SF) (hN : NOk0 N) (hE : EntOk N XF) (h0 : -2147483648 ≤ y0 ∧ y0 < 2147483648) (h1 : 0 ≤ x ∧ x ≤ 3999) (h2 : e0 = 0 ∨ e0 = 1) : mV l yX4_run wsX4_run 3 70 K [.ref ra, .int (iI y0), .int (iI e0), .int (iI x)] [gRay K ra xa sha lea tma sc pp ly dn lg en sh le tm pw tr mr cr de XF HF EF TF, gScn K sc la lb sa sb ou mi bo ln LF sn SF] (fun (u : Nat × Int × Int × Int × Int × Int × Int × Int × Int × Int × Int × Int × Int × (Int → Int) × (Int → Int) × (Int → Int)) => (RayRes N x y0 e0 u.1 u.2.2.2.1 u.2.2.2.2.1 u.2.2.2.2.2.1 u.2.2.2.2.2.2.1 u.2.2.2.2.2.2.2.1 u.2.2.2.2.2.2.2.2.1 u.2.2.2.2.2.2.2.2.2.1 u.2.2.2.2.2.2.2.2.2.2.1 u.2.2.2.2.2.2.2.2.2.2.2.1 u.2.2.2.2.2.2.2.2.2.2.2.2.1)) (fun (u : Nat × Int × Int × Int × Int × Int × Int × Int × Int × Int × Int × Int × Int × (Int → Int) × (Int → Int) × (Int → Int)) => [gRay K ra xa sha lea tma sc x u.2.1 u.2.2.1 u.2.2.2.1 u.2.2.2.2.1 u.2.2.2.2.2.1 u.2.2.2.2.2.2.1 u.2.2.2.2.2.2.2.1 u.2.2.2.2.2.2.2.2.1 u.2.2.2.2.2.2.2.2.2.1 u.2.2.2.2.2.2.2.2.2.2.1 u.2.2.2.2.2.2.2.2.2.2.2.1 u.2.2.2.2.2.2.2.2.2.2.2.2.1 XF u.2.2.2.2.2.2.2.2.2.2.2.2.2.1 u.2.2.2.2.2.2.2.2.2.2.2.2.2.2.1 u.2.2.2.2.2.2.2.2.2.2.2.2.2.2.2, gScn K sc la lb sa sb ou mi bo ln LF sn SF]) 0 0 := by
  refine mV_of cX4_run 5 (by decide) rfl (Nat.le_of_ble_eq_true rfl) ?_
  intro p e s m below meth c A ls Q S C hG hl hr hlk hin hQ
  have S : CallFix p m c cX4_run 5 s ([.ref ra, .int (iI y0), .int (iI e0), .int (iI x)] : List Value).toArray wsX4_run RX4 := S
  have iX40 : ∀ w ∈ wsX40, w ∈ wsX4_run := fun _ h => List.mem_cons_of_mem _ (List.mem_append_left _ (List.mem_append_left _ (List.mem_append_right _ (h))))
  have iX50 : ∀ w ∈ wsX50, w ∈ wsX4_run := fun _ h => List.mem_cons_of_mem _ (List.mem_append_left _ (List.mem_append_right _ (h)))
  have iX70 : ∀ w ∈ wsX70, w ∈ wsX4_run := fun _ h => List.mem_cons_of_mem _ (List.mem_append_right _ (h))
  have hl : lv_has ls 5 [(0, .ref ra), (1, .int (iI y0)), (2, .int (iI e0)), (3, .int (iI x))] := hl
  have hG : gW K A s.heap [gRay K ra xa sha lea tma sc pp ly dn lg en sh le tm pw tr mr cr de XF HF EF TF, gScn K sc la lb sa sb ou mi bo ln LF sn SF] s.heap [] := hG
  refine lv_aload_n S.1 S.2.1 dX4_run_0 rfl (lv_at hl 0 rfl) ?_
  refine lv_iload_n S.1 S.2.1 dX4_run_1 rfl (lv_at hl 1 rfl) ?_
  refine lv_iload_n S.1 S.2.1 dX4_run_2 rfl (lv_at hl 2 rfl) ?_
  refine lv_iload_n S.1 S.2.1 dX4_run_3 rfl (lv_at hl 3 rfl) ?_
  refine g_invVv (As := [.int (iI y0), .int (iI e0), .int (iI x)]) (rest := []) (gs' := (fun u : Int × Int × (Int → Int) => [gRay K ra xa sha lea tma sc x y0 e0 0 u.1 0 0 0 u.2.1 0 0 0 (-1) XF HF EF u.2.2, gScn K sc la lb sa sb ou mi bo ln LF sn SF])) S C hG [0, 1] (c_X4_begin l K ra xa sha lea tma sc pp ly dn lg en sh le tm pw tr mr cr de XF HF EF TF la lb sa sb ou mi bo ln LF sn SF N y0 e0 x hS hN h0 h1 h2) rfl rfl 0 rfl rfl (cwV 3 S.2.2.2.2 gX4_run_X4_begin rfl rfl rfl (by decide +kernel) ⟨Nat.le_of_ble_eq_true rfl, Nat.le_of_ble_eq_true rfl⟩) rfl hl.1 rfl (Nat.le_of_ble_eq_true rfl) dX4_run_4 ⟨Nat.le_of_ble_eq_true rfl, Nat.le_of_ble_eq_true rfl⟩ (fun _ => Nat.le_of_ble_eq_true rfl) (fun _ => rfl) (fun u H locs hp hG => ?_)
  obtain ⟨en2_4, pw2_4, T2_4⟩ := u
  obtain ⟨hb_4, hT_4⟩ := hp
  have hb_4 : begN N y0 x ∧ en2_4 = -1 ∧ pw2_4 = 1000000 ∨ ¬ begN N y0 x ∧ en2_4 = 4 ∧ pw2_4 = 0 := hb_4
  have hT_4 : ∀ y : Int, 0 ≤ y → y < 10 → T2_4 y = 0 := hT_4
  have hG : gW K A s.heap [gRay K ra xa sha lea tma sc x y0 e0 0 en2_4 0 0 0 pw2_4 0 0 0 (-1) XF HF EF T2_4, gScn K sc la lb sa sb ou mi bo ln LF sn SF] _ _ := hG
  refine g_iconst S dX4_run_7 ?_
  refine lv_istore (lv' := [(4, .int (iI 0)), (0, .ref ra), (1, .int (iI y0)), (2, .int (iI e0)), (3, .int (iI x))]) S.1 S.2.1 dX4_run_8 hl (by decide) rfl (fun ls hl => ?_)
  have L10 : ∀ (fu : Nat) (w : Int) (k : Nat) (ly1 : Int) (dn1 : Int) (lg1 : Int) (en1 : Int) (sh1 : Int) (le1 : Int) (tm1 : Int) (pw1 : Int) (tr1 : Int) (mr1 : Int) (cr1 : Int) (de1 : Int) (H1 : Int → Int) (E1 : Int → Int) (T1 : Int → Int) (H : Heap) (locs : List Loc) (ls : Array Slot), (60 - k) < fu → (w = (k : Int) ∧ k ≤ 60) → (RunI N x y0 e0 k ly1 dn1 lg1 en1 sh1 le1 tm1 pw1 tr1 mr1 cr1 de1) → (CachN N x T1 H1 E1) → lv_has ls 5 [(0, .ref ra), (1, .int (iI y0)), (2, .int (iI e0)), (3, .int (iI x)), (4, .int (iI w))] → gW K A s.heap [gRay K ra xa sha lea tma sc x ly1 dn1 lg1 en1 sh1 le1 tm1 pw1 tr1 mr1 cr1 de1 XF H1 E1 T1, gScn K sc la lb sa sb ou mi bo ln LF sn SF] H locs → W p l e { frames := 3, cells := 0, slots := 0, locals := 70 } s m ([.ref ra, .int (iI y0), .int (iI e0), .int (iI x)] : List Value).toArray below meth c H locs 0 0 Q (F0 m 10 ls []) := by
    intro fu
    induction fu with
    | zero => intro w k ly1 dn1 lg1 en1 sh1 le1 tm1 pw1 tr1 mr1 cr1 de1 H1 E1 T1 H locs ls hfu; exact absurd hfu (Nat.not_lt_zero _)
    | succ fu ih =>
      intro w k ly1 dn1 lg1 en1 sh1 le1 tm1 pw1 tr1 mr1 cr1 de1 H1 E1 T1 H locs ls hfu hk hI hc hl hG
      have n0 := hN.1
      have hen : -1 ≤ en1 ∧ en1 ≤ 4 := hI.en_bd
      refine lv_iload S.1 S.2.1 dX4_run_10 (lv_at hl 4 rfl) ?_
      refine g_bipush S dX4_run_12 (by decide) ?_
      refine g_icmp_ge (tgt := 39) S dX4_run_14 (by decide) (by omega) (by omega) (fun q14 => ?_) (fun q14 => ?_)
      · skip
        have hG : gW K A s.heap [gRay K ra xa sha lea tma sc x ly1 dn1 lg1 en1 sh1 le1 tm1 pw1 tr1 mr1 cr1 de1 XF H1 E1 T1, gScn K sc la lb sa sb ou mi bo ln LF sn SF] _ _ := hG
        exact g_vret S hr hlk hQ dX4_run_39 (Nat.le_of_ble_eq_true rfl) (Nat.le_of_ble_eq_true rfl) ((k, ly1, dn1, lg1, en1, sh1, le1, tm1, pw1, tr1, mr1, cr1, de1, H1, E1, T1) : Nat × Int × Int × Int × Int × Int × Int × Int × Int × Int × Int × Int × Int × (Int → Int) × (Int → Int) × (Int → Int)) (hI.done hk.2 (by omega)) hG
      · skip
        refine lv_aload_n S.1 S.2.1 dX4_run_17 rfl (lv_at hl 0 rfl) ?_
        refine g_invV (As := []) (rest := []) (gs' := (fun u : Unit => [gRay K ra xa sha lea tma sc x ly1 dn1 lg1 en1 sh1 le1 tm1 pw1 tr1 mr1 cr1 de1 XF H1 E1 T1, gScn K sc la lb sa sb ou mi bo ln LF sn SF])) S C hG [0] (c_X4_isUnderWay l K ra xa sha lea tma sc x ly1 dn1 lg1 en1 sh1 le1 tm1 pw1 tr1 mr1 cr1 de1 XF H1 E1 T1 (by omega)) rfl rfl 0 rfl rfl (cwV 0 S.2.2.2.2 gX4_run_X4_isUnderWay rfl rfl rfl (by decide +kernel) ⟨Nat.le_of_ble_eq_true rfl, Nat.le_of_ble_eq_true rfl⟩) rfl hl.1 rfl (Nat.le_of_ble_eq_true rfl) dX4_run_18 ⟨Nat.le_of_ble_eq_true rfl, Nat.le_of_ble_eq_true rfl⟩ (fun _ => Nat.le_of_ble_eq_true rfl) (fun _ => rfl) (fun v u H locs hp hG => ?_)
        subst hp
        refine g_ifeq_b (B := (en1 = -1)) (tgt := 39) S dX4_run_21 (by decide) (fun q21 => ?_) (fun q21 => ?_)
        · skip
          have hG : gW K A s.heap [gRay K ra xa sha lea tma sc x ly1 dn1 lg1 en1 sh1 le1 tm1 pw1 tr1 mr1 cr1 de1 XF H1 E1 T1, gScn K sc la lb sa sb ou mi bo ln LF sn SF] _ _ := hG
          exact g_vret S hr hlk hQ dX4_run_39 (Nat.le_of_ble_eq_true rfl) (Nat.le_of_ble_eq_true rfl) ((k, ly1, dn1, lg1, en1, sh1, le1, tm1, pw1, tr1, mr1, cr1, de1, H1, E1, T1) : Nat × Int × Int × Int × Int × Int × Int × Int × Int × Int × Int × Int × Int × (Int → Int) × (Int → Int) × (Int → Int)) (hI.done hk.2 (by omega)) hG
        · skip
          obtain ⟨b1, b2, b3, b4⟩ := hI.bd hN (by omega) q21 h1.1 h2
          obtain ⟨s1, s2, s3, s4, s5, s6, s7, s8⟩ := hI.sums hN (by omega) q21 h1.1 h2
          have lq := lost_bd hN b1.1 b1.2 h1.1 b2 b4.1 b4.2
          refine lv_aload_n S.1 S.2.1 dX4_run_24 rfl (lv_at hl 0 rfl) ?_
          refine g_invVv (As := []) (rest := []) (gs' := (fun u : (Int → Int) × (Int → Int) × (Int → Int) => [gRay K ra xa sha lea tma sc x ly1 dn1 (lg1 + 1) en1 (sh1 + shN N x ly1) (le1 + leN N x ly1) (tm1 + tmN N x ly1) (qN N x ly1 pw1) tr1 mr1 cr1 (max de1 ly1) XF u.1 u.2.1 u.2.2, gScn K sc la lb sa sb ou mi bo ln LF sn SF])) S C hG [0, 1] (c_X4_cross l K ra xa sha lea tma sc x ly1 dn1 lg1 en1 sh1 le1 tm1 pw1 tr1 mr1 cr1 de1 XF H1 E1 T1 la lb sa sb ou mi bo ln LF sn SF N hS hN (by omega) h1.1 b2 (by omega) (by omega) hc) rfl rfl 0 rfl rfl (cwV 0 S.2.2.2.2 gX4_run_X4_cross rfl rfl rfl (by decide +kernel) ⟨Nat.le_of_ble_eq_true rfl, Nat.le_of_ble_eq_true rfl⟩) rfl hl.1 rfl (Nat.le_of_ble_eq_true rfl) dX4_run_25 ⟨Nat.le_of_ble_eq_true rfl, Nat.le_of_ble_eq_true rfl⟩ (fun _ => Nat.le_of_ble_eq_true rfl) (fun _ => rfl) (fun u H locs hp hG => ?_)
          obtain ⟨H2_25, E2_25, T2_25⟩ := u
          obtain ⟨hc_25, hl_25⟩ := hp
          have hc_25 : CachN N x T2_25 H2_25 E2_25 := hc_25
          have hl_25 : T2_25 ly1 = tmN N x ly1 ∧ H2_25 ly1 = shN N x ly1 ∧ E2_25 ly1 = leN N x ly1 := hl_25
          have hG : gW K A s.heap [gRay K ra xa sha lea tma sc x ly1 dn1 (lg1 + 1) en1 (sh1 + shN N x ly1) (le1 + leN N x ly1) (tm1 + tmN N x ly1) (qN N x ly1 pw1) tr1 mr1 cr1 (max de1 ly1) XF H2_25 E2_25 T2_25, gScn K sc la lb sa sb ou mi bo ln LF sn SF] _ _ := hG
          refine lv_aload_n S.1 S.2.1 dX4_run_28 rfl (lv_at hl 0 rfl) ?_
          refine g_invV (As := []) (rest := []) (gs' := (fun u : Int × Int × Int × Int × Int × Int × Int × Int => [gRay K ra xa sha lea tma sc x u.2.1 u.2.2.1 (lg1 + 1) u.1 (sh1 + shN N x ly1) (le1 + leN N x ly1) (tm1 + tmN N x ly1) u.2.2.2.1 u.2.2.2.2.1 u.2.2.2.2.2.1 u.2.2.2.2.2.2.1 (max de1 ly1) XF H2_25 E2_25 T2_25, gScn K sc la lb sa sb ou mi bo ln LF sn SF])) S C hG [0, 1] (c_X4_goOn l K ra xa sha lea tma sc x ly1 dn1 (lg1 + 1) en1 (sh1 + shN N x ly1) (le1 + leN N x ly1) (tm1 + tmN N x ly1) (qN N x ly1 pw1) tr1 mr1 cr1 (max de1 ly1) XF H2_25 E2_25 T2_25 la lb sa sb ou mi bo ln LF sn SF N hS hN hE (by omega) b3 h1 (by omega) (by omega)) rfl rfl 0 rfl rfl (cwV 0 S.2.2.2.2 gX4_run_X4_goOn rfl rfl rfl (by decide +kernel) ⟨Nat.le_of_ble_eq_true rfl, Nat.le_of_ble_eq_true rfl⟩) rfl hl.1 rfl (Nat.le_of_ble_eq_true rfl) dX4_run_29 ⟨Nat.le_of_ble_eq_true rfl, Nat.le_of_ble_eq_true rfl⟩ (fun _ => Nat.le_of_ble_eq_true rfl) (fun _ => rfl) (fun v u H locs hp hG => ?_)
          obtain ⟨en2_29, ly2_29, dn2_29, pw2_29, tr2_29, mr2_29, cr2_29, x_29⟩ := u
          obtain ⟨rfl, hg_29⟩ := hp
          have hg_29 : GoR N x (lg1 + 1) ly1 dn1 (qN N x ly1 pw1) en1 tr1 mr1 cr1 en2_29 ly2_29 dn2_29 pw2_29 tr2_29 mr2_29 cr2_29 x_29 := hg_29
          have hG : gW K A s.heap [gRay K ra xa sha lea tma sc x ly2_29 dn2_29 (lg1 + 1) en2_29 (sh1 + shN N x ly1) (le1 + leN N x ly1) (tm1 + tmN N x ly1) pw2_29 tr2_29 mr2_29 cr2_29 (max de1 ly1) XF H2_25 E2_25 T2_25, gScn K sc la lb sa sb ou mi bo ln LF sn SF] _ _ := hG
          refine lv_pop S.1 S.2.1 dX4_run_32 rfl ?_
          obtain ⟨g1, g2, g3, g4, g5, g6, g7, g8⟩ := id hg_29
          refine lv_iinc (v := iI (w + 1)) (lv' := [(4, .int (iI (w + 1))), (0, .ref ra), (1, .int (iI y0)), (2, .int (iI e0)), (3, .int (iI x))]) S.1 S.2.1 dX4_run_33 hl (k := 4) rfl (g_iinc rfl) (by decide) rfl (fun ls hl => ?_)
          refine lv_goto (tgt := 10) S.1 S.2.1 dX4_run_36 (by decide) ?_
          exact ih (w + 1) (k + 1) ly2_29 dn2_29 (lg1 + 1) en2_29 (sh1 + shN N x ly1) (le1 + leN N x ly1) (tm1 + tmN N x ly1) pw2_29 tr2_29 mr2_29 cr2_29 (max de1 ly1) H2_25 E2_25 T2_25 _ _ _ (by omega) ⟨by omega, by omega⟩ (hI.step q21 rfl g2 g3 g4 g5 g6 g7 g8) hc_25 (lv_sub hl [1, 2, 3, 4, 0] rfl) hG
  exact L10 (Nat.succ (60 - 0)) 0 0 y0 e0 0 en2_4 0 0 0 pw2_4 0 0 0 (-1) HF EF T2_4 _ _ _ (Nat.lt_succ_self _) ⟨rfl, by decide⟩ (by rcases hb_4 with ⟨a, rfl, rfl⟩ | ⟨a, rfl, rfl⟩ <;> first | exact RunI.start_t a | exact RunI.start_f a) (fun y a b => Or.inl (hT_4 y a (by have := hN.1; omega))) (lv_sub hl [1, 2, 3, 4, 0] rfl) hG
