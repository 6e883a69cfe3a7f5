set_option maxHeartbeats 4000000 in
set_option maxRecDepth 100000 in
theorem c_X3_meetingTime (l : Launch) (K : KC) (pa : Nat) (nb : Nat) (ra : Nat) (pl : Int) (pe : Int) (r0 : Nat) (r1 : Nat) (r2 : Nat) (r3 : Nat) (r4 : Nat) (r5 : Nat) (r6 : Nat) (M0 : Int → Int) (M1 : Int → Int) (M2 : Int → Int) (M3 : Int → Int) (M4 : Int → Int) (M5 : Int → Int) (M6 : Int → Int) (pa_2 : Nat) (nb_2 : Nat) (ra_2 : Nat) (pl_2 : Int) (pe_2 : Int) (r0_2 : Nat) (r1_2 : Nat) (r2_2 : Nat) (r3_2 : Nat) (r4_2 : Nat) (r5_2 : Nat) (r6_2 : Nat) (M0_2 : Int → Int) (M1_2 : Int → Int) (M2_2 : Int → Int) (M3_2 : Int → Int) (M4_2 : Int → Int) (M5_2 : Int → Int) (M6_2 : Int → Int) (n : Nat) (n2 : Nat) (h0 : pl = (n : Int) ∧ n ≤ 60) (h1 : pl_2 = (n2 : Int) ∧ n2 ≤ 60) (h2 : ∀ i : Int, 0 ≤ i → i < pl → (0 ≤ M0 i ∧ M0 i ≤ 9) ∧ 1 ≤ M4 i ∧ M4 i ≤ 1998000) (h3 : ∀ i : Int, 0 ≤ i → i < pl_2 → (0 ≤ M0_2 i ∧ M0_2 i ≤ 9) ∧ 1 ≤ M4_2 i ∧ M4_2 i ≤ 1998000) : mG l yX3_meetingTime wsX3_meetingTime 3 67 K [.ref pa, .ref pa_2] [gPth K pa nb ra pl pe r0 r1 r2 r3 r4 r5 r6 M0 M1 M2 M3 M4 M5 M6, gPth K pa_2 nb_2 ra_2 pl_2 pe_2 r0_2 r1_2 r2_2 r3_2 r4_2 r5_2 r6_2 M0_2 M1_2 M2_2 M3_2 M4_2 M5_2 M6_2] (fun (v : Value) (u : Int) => (v = .int (iI u)) ∧ (MeetR M0 M4 M0_2 M4_2 n n2 u)) (fun (u : Int) => [gPth K pa nb ra pl pe r0 r1 r2 r3 r4 r5 r6 M0 M1 M2 M3 M4 M5 M6, gPth K pa_2 nb_2 ra_2 pl_2 pe_2 r0_2 r1_2 r2_2 r3_2 r4_2 r5_2 r6_2 M0_2 M1_2 M2_2 M3_2 M4_2 M5_2 M6_2]) 0 0 := by
  refine mG_of cX3_meetingTime 8 (by decide) rfl (Nat.le_of_ble_eq_true rfl) ?_
  intro p e s m below meth c A ls Q S C hG hl hr hlk hin hQ
  have S : CallFix p m c cX3_meetingTime 8 s ([.ref pa, .ref pa_2] : List Value).toArray wsX3_meetingTime RX3 := S
  have iX30 : ∀ w ∈ wsX30, w ∈ wsX3_meetingTime := fun _ h => List.mem_cons_of_mem _ (List.mem_append_right _ (h))
  have hl : lv_has ls 8 [(0, .ref pa), (1, .ref pa_2)] := hl
  have hG : gW K A s.heap [gPth K pa nb ra pl pe r0 r1 r2 r3 r4 r5 r6 M0 M1 M2 M3 M4 M5 M6, gPth K pa_2 nb_2 ra_2 pl_2 pe_2 r0_2 r1_2 r2_2 r3_2 r4_2 r5_2 r6_2 M0_2 M1_2 M2_2 M3_2 M4_2 M5_2 M6_2] s.heap [] := hG
  have hA : PosF M4 n := fun i hi => (h2 i (by omega) (by omega)).2.1
  have hB : PosF M4_2 n2 := fun i hi => (h3 i (by omega) (by omega)).2.1
  have bA : ∀ k : Nat, k ≤ n → 0 ≤ sF M4 k ∧ sF M4 k ≤ 1998000 * k := fun k hk => smN_bd k (fun i hi => by have := h2 i (by omega) (by omega); omega)
  have bB : ∀ k : Nat, k ≤ n2 → 0 ≤ sF M4_2 k ∧ sF M4_2 k ≤ 1998000 * k := fun k hk => smN_bd k (fun i hi => by have := h3 i (by omega) (by omega); omega)
  refine g_iconst S dX3_meetingTime_0 ?_
  refine lv_istore_n (lv' := [(2, .int (iI 0)), (0, .ref pa), (1, .ref pa_2)]) S.1 S.2.1 dX3_meetingTime_1 rfl hl (by decide) rfl (fun ls hl => ?_)
  refine g_iconst S dX3_meetingTime_2 ?_
  refine lv_istore_n (lv' := [(3, .int (iI 0)), (2, .int (iI 0)), (0, .ref pa), (1, .ref pa_2)]) S.1 S.2.1 dX3_meetingTime_3 rfl hl (by decide) rfl (fun ls hl => ?_)
  refine g_iconst S dX3_meetingTime_4 ?_
  refine lv_istore (lv' := [(4, .int (iI 0)), (3, .int (iI 0)), (2, .int (iI 0)), (0, .ref pa), (1, .ref pa_2)]) S.1 S.2.1 dX3_meetingTime_5 hl (by decide) rfl (fun ls hl => ?_)
  refine g_iconst S dX3_meetingTime_7 ?_
  refine lv_istore (lv' := [(5, .int (iI 0)), (4, .int (iI 0)), (3, .int (iI 0)), (2, .int (iI 0)), (0, .ref pa), (1, .ref pa_2)]) S.1 S.2.1 dX3_meetingTime_8 hl (by decide) rfl (fun ls hl => ?_)
  have L10 : ∀ (fu : Nat) (i : Nat) (j : Nat) (w : Int) (y : Int) (t : Int) (g : Int) (H : Heap) (locs : List Loc) (ls : Array Slot), (((121 : Int) - g).toNat) < fu → (w = (i : Int)) → (y = (j : Int)) → (0 ≤ g ∧ g ≤ w + y) → (MtI M0 M4 M0_2 M4_2 n n2 i j t) → lv_has ls 8 [(0, .ref pa), (1, .ref pa_2), (2, .int (iI w)), (3, .int (iI y)), (4, .int (iI t)), (5, .int (iI g))] → gW K A s.heap [gPth K pa nb ra pl pe r0 r1 r2 r3 r4 r5 r6 M0 M1 M2 M3 M4 M5 M6, gPth K pa_2 nb_2 ra_2 pl_2 pe_2 r0_2 r1_2 r2_2 r3_2 r4_2 r5_2 r6_2 M0_2 M1_2 M2_2 M3_2 M4_2 M5_2 M6_2] H locs → W p l e { frames := 3, cells := 0, slots := 0, locals := 67 } s m ([.ref pa, .ref pa_2] : List Value).toArray below meth c H locs 0 0 Q (F0 m 10 ls []) := by
    intro fu
    induction fu with
    | zero => intro i j w y t g H locs ls hfu; exact absurd hfu (Nat.not_lt_zero _)
    | succ fu ih =>
      intro i j w y t g H locs ls hfu hw hy hg hM hl hG
      have hi : i ≤ n := hM.1
      have hj : j ≤ n2 := hM.2.1
      refine lv_iload S.1 S.2.1 dX3_meetingTime_10 (lv_at hl 5 rfl) ?_
      refine g_bipush S dX3_meetingTime_12 (by decide) ?_
      refine g_icmp_gt (tgt := 106) S dX3_meetingTime_14 (by decide) (by omega) (by omega) (fun q14 => ?_) (fun q14 => ?_)
      · skip
        omega
      · skip
        refine lv_iload_n S.1 S.2.1 dX3_meetingTime_17 rfl (lv_at hl 2 rfl) ?_
        refine lv_aload_n S.1 S.2.1 dX3_meetingTime_18 rfl (lv_at hl 0 rfl) ?_
        refine g_get S C hG iX30 0 rfl rfl 2 (by decide) (List.mem_of_getElem? (i := 1) rfl) rfl dX3_meetingTime_19 ?_
        refine g_icmp_ge (tgt := 106) S dX3_meetingTime_22 (by decide) (by omega) (by omega) (fun q22 => ?_) (fun q22 => ?_)
        · skip
          refine g_iconst S dX3_meetingTime_106 ?_
          have hG : gW K A s.heap [gPth K pa nb ra pl pe r0 r1 r2 r3 r4 r5 r6 M0 M1 M2 M3 M4 M5 M6, gPth K pa_2 nb_2 ra_2 pl_2 pe_2 r0_2 r1_2 r2_2 r3_2 r4_2 r5_2 r6_2 M0_2 M1_2 M2_2 M3_2 M4_2 M5_2 M6_2] _ _ := hG
          exact g_iret S hr hlk hQ dX3_meetingTime_107 (Nat.le_of_ble_eq_true rfl) (Nat.le_of_ble_eq_true rfl) (((-1)) : Int) ⟨rfl, (hM.exit hA hB (by omega))⟩ hG
        · skip
          refine lv_iload_n S.1 S.2.1 dX3_meetingTime_25 rfl (lv_at hl 3 rfl) ?_
          refine lv_aload_n S.1 S.2.1 dX3_meetingTime_26 rfl (lv_at hl 1 rfl) ?_
          refine g_get S C hG iX30 9 rfl rfl 2 (by decide) (List.mem_of_getElem? (i := 1) rfl) rfl dX3_meetingTime_27 ?_
          refine g_icmp_ge (tgt := 106) S dX3_meetingTime_30 (by decide) (by omega) (by omega) (fun q30 => ?_) (fun q30 => ?_)
          · skip
            refine g_iconst S dX3_meetingTime_106 ?_
            have hG : gW K A s.heap [gPth K pa nb ra pl pe r0 r1 r2 r3 r4 r5 r6 M0 M1 M2 M3 M4 M5 M6, gPth K pa_2 nb_2 ra_2 pl_2 pe_2 r0_2 r1_2 r2_2 r3_2 r4_2 r5_2 r6_2 M0_2 M1_2 M2_2 M3_2 M4_2 M5_2 M6_2] _ _ := hG
            exact g_iret S hr hlk hQ dX3_meetingTime_107 (Nat.le_of_ble_eq_true rfl) (Nat.le_of_ble_eq_true rfl) (((-1)) : Int) ⟨rfl, (hM.exit hA hB (by omega))⟩ hG
          · skip
            refine lv_aload_n S.1 S.2.1 dX3_meetingTime_33 rfl (lv_at hl 0 rfl) ?_
            refine lv_iload_n S.1 S.2.1 dX3_meetingTime_34 rfl (lv_at hl 2 rfl) ?_
            refine g_iconst S dX3_meetingTime_35 ?_
            refine g_invV (As := [.int (iI w), .int (iI 0)]) (rest := []) (gs' := (fun u : Unit => [gPth K pa nb ra pl pe r0 r1 r2 r3 r4 r5 r6 M0 M1 M2 M3 M4 M5 M6, gPth K pa_2 nb_2 ra_2 pl_2 pe_2 r0_2 r1_2 r2_2 r3_2 r4_2 r5_2 r6_2 M0_2 M1_2 M2_2 M3_2 M4_2 M5_2 M6_2])) S C hG [0] (c_X3_get0 l K pa nb ra pl pe r0 r1 r2 r3 r4 r5 r6 M0 M1 M2 M3 M4 M5 M6 w (by omega) (by omega)) rfl rfl 0 rfl rfl (cwV 2 S.2.2.2.2 gX3_meetingTime_X3_get rfl rfl rfl (by decide +kernel) ⟨Nat.le_of_ble_eq_true rfl, Nat.le_of_ble_eq_true rfl⟩) rfl hl.1 rfl (Nat.le_of_ble_eq_true rfl) dX3_meetingTime_36 ⟨Nat.le_of_ble_eq_true rfl, Nat.le_of_ble_eq_true rfl⟩ (fun _ => Nat.le_of_ble_eq_true rfl) (fun _ => rfl) (fun v u H locs hp hG => ?_)
            subst hp
            have k1 := h2 w (by omega) (by omega)
            have k2 := h3 y (by omega) (by omega)
            have k3 := bA (i + 1) (by omega)
            have k4 := bB (j + 1) (by omega)
            refine g_top (w := .int (iI (M0 (i : Int)))) (congrArg (fun z : Int => Value.int (iI z)) (((if_pos (by omega)).trans (by rw [hw])))) ?_
            refine lv_aload_n S.1 S.2.1 dX3_meetingTime_39 rfl (lv_at hl 1 rfl) ?_
            refine lv_iload_n S.1 S.2.1 dX3_meetingTime_40 rfl (lv_at hl 3 rfl) ?_
            refine g_iconst S dX3_meetingTime_41 ?_
            refine g_invV (As := [.int (iI y), .int (iI 0)]) (rest := [.int (iI (M0 (i : Int)))]) (gs' := (fun u : Unit => [gPth K pa nb ra pl pe r0 r1 r2 r3 r4 r5 r6 M0 M1 M2 M3 M4 M5 M6, gPth K pa_2 nb_2 ra_2 pl_2 pe_2 r0_2 r1_2 r2_2 r3_2 r4_2 r5_2 r6_2 M0_2 M1_2 M2_2 M3_2 M4_2 M5_2 M6_2])) S C hG [1] (c_X3_get0 l K pa_2 nb_2 ra_2 pl_2 pe_2 r0_2 r1_2 r2_2 r3_2 r4_2 r5_2 r6_2 M0_2 M1_2 M2_2 M3_2 M4_2 M5_2 M6_2 y (by omega) (by omega)) rfl rfl 0 rfl rfl (cwV 2 S.2.2.2.2 gX3_meetingTime_X3_get rfl rfl rfl (by decide +kernel) ⟨Nat.le_of_ble_eq_true rfl, Nat.le_of_ble_eq_true rfl⟩) rfl hl.1 rfl (Nat.le_of_ble_eq_true rfl) dX3_meetingTime_42 ⟨Nat.le_of_ble_eq_true rfl, Nat.le_of_ble_eq_true rfl⟩ (fun _ => Nat.le_of_ble_eq_true rfl) (fun _ => rfl) (fun v u H locs hp hG => ?_)
            subst hp
            refine g_top (w := .int (iI (M0_2 (j : Int)))) (congrArg (fun z : Int => Value.int (iI z)) (((if_pos (by omega)).trans (by rw [hy])))) ?_
            refine g_icmp_ne (tgt := 51) S dX3_meetingTime_45 (by decide) (by rw [← hw]; omega) (by rw [← hy]; omega) (fun q45 => ?_) (fun q45 => ?_)
            · skip
              refine lv_aload_n S.1 S.2.1 dX3_meetingTime_51 rfl (lv_at hl 0 rfl) ?_
              refine lv_iload_n S.1 S.2.1 dX3_meetingTime_52 rfl (lv_at hl 2 rfl) ?_
              refine g_iconst S dX3_meetingTime_53 ?_
              refine g_iadd S dX3_meetingTime_54 rfl ?_
              refine g_iconst S dX3_meetingTime_55 ?_
              refine g_invV (As := [.int (iI (w + 1)), .int (iI 4)]) (rest := []) (gs' := (fun u : Unit => [gPth K pa nb ra pl pe r0 r1 r2 r3 r4 r5 r6 M0 M1 M2 M3 M4 M5 M6, gPth K pa_2 nb_2 ra_2 pl_2 pe_2 r0_2 r1_2 r2_2 r3_2 r4_2 r5_2 r6_2 M0_2 M1_2 M2_2 M3_2 M4_2 M5_2 M6_2])) S C hG [0] (c_X3_sum4 l K pa nb ra pl pe r0 r1 r2 r3 r4 r5 r6 M0 M1 M2 M3 M4 M5 M6 (w + 1) (by omega) (by omega)) rfl rfl 0 rfl rfl (cwV 2 S.2.2.2.2 gX3_meetingTime_X3_sumAhead rfl rfl rfl (by decide +kernel) ⟨Nat.le_of_ble_eq_true rfl, Nat.le_of_ble_eq_true rfl⟩) rfl hl.1 rfl (Nat.le_of_ble_eq_true rfl) dX3_meetingTime_56 ⟨Nat.le_of_ble_eq_true rfl, Nat.le_of_ble_eq_true rfl⟩ (fun _ => Nat.le_of_ble_eq_true rfl) (fun _ => rfl) (fun v u H locs hp hG => ?_)
              subst hp
              refine g_top (w := .int (iI (sF M4 (i + 1)))) (congrArg (fun z : Int => Value.int (iI z)) ((by rw [show (min (w + 1) pl).toNat = i + 1 by omega]))) ?_
              refine lv_istore (lv' := [(6, .int (iI (sF M4 (i + 1)))), (0, .ref pa), (1, .ref pa_2), (2, .int (iI w)), (3, .int (iI y)), (4, .int (iI t)), (5, .int (iI g))]) S.1 S.2.1 dX3_meetingTime_59 hl (by decide) rfl (fun ls hl => ?_)
              refine lv_aload_n S.1 S.2.1 dX3_meetingTime_61 rfl (lv_at hl 2 rfl) ?_
              refine lv_iload_n S.1 S.2.1 dX3_meetingTime_62 rfl (lv_at hl 4 rfl) ?_
              refine g_iconst S dX3_meetingTime_63 ?_
              refine g_iadd S dX3_meetingTime_64 rfl ?_
              refine g_iconst S dX3_meetingTime_65 ?_
              refine g_invV (As := [.int (iI (y + 1)), .int (iI 4)]) (rest := []) (gs' := (fun u : Unit => [gPth K pa nb ra pl pe r0 r1 r2 r3 r4 r5 r6 M0 M1 M2 M3 M4 M5 M6, gPth K pa_2 nb_2 ra_2 pl_2 pe_2 r0_2 r1_2 r2_2 r3_2 r4_2 r5_2 r6_2 M0_2 M1_2 M2_2 M3_2 M4_2 M5_2 M6_2])) S C hG [1] (c_X3_sum4 l K pa_2 nb_2 ra_2 pl_2 pe_2 r0_2 r1_2 r2_2 r3_2 r4_2 r5_2 r6_2 M0_2 M1_2 M2_2 M3_2 M4_2 M5_2 M6_2 (y + 1) (by omega) (by omega)) rfl rfl 0 rfl rfl (cwV 2 S.2.2.2.2 gX3_meetingTime_X3_sumAhead rfl rfl rfl (by decide +kernel) ⟨Nat.le_of_ble_eq_true rfl, Nat.le_of_ble_eq_true rfl⟩) rfl hl.1 rfl (Nat.le_of_ble_eq_true rfl) dX3_meetingTime_66 ⟨Nat.le_of_ble_eq_true rfl, Nat.le_of_ble_eq_true rfl⟩ (fun _ => Nat.le_of_ble_eq_true rfl) (fun _ => rfl) (fun v u H locs hp hG => ?_)
              subst hp
              refine g_top (w := .int (iI (sF M4_2 (j + 1)))) (congrArg (fun z : Int => Value.int (iI z)) ((by rw [show (min (y + 1) pl_2).toNat = j + 1 by omega]))) ?_
              refine lv_istore (lv' := [(7, .int (iI (sF M4_2 (j + 1)))), (6, .int (iI (sF M4 (i + 1)))), (0, .ref pa), (1, .ref pa_2), (2, .int (iI w)), (3, .int (iI y)), (4, .int (iI t)), (5, .int (iI g))]) S.1 S.2.1 dX3_meetingTime_69 hl (by decide) rfl (fun ls hl => ?_)
              refine lv_iload S.1 S.2.1 dX3_meetingTime_71 (lv_at hl 1 rfl) ?_
              refine lv_iload S.1 S.2.1 dX3_meetingTime_73 (lv_at hl 0 rfl) ?_
              refine va_mmin S.1 S.2.1 (by rw [S.2.2.1]; exact hl.1.symm) S.2.2.2.1 (S.2.2.2.2 _ (List.mem_of_getElem? (i := 2) rfl)) (S.2.2.2.2 _ (List.mem_of_getElem? (i := 3) rfl)) (S.2.2.2.2 _ (List.mem_of_getElem? (i := 4) rfl)) (S.2.2.2.2 _ (List.mem_of_getElem? (i := 5) rfl)) (Nat.le_of_ble_eq_true rfl) (Nat.le_of_ble_eq_true rfl) (Nat.le_of_ble_eq_true rfl) (Nat.le_of_ble_eq_true rfl) dX3_meetingTime_75 ?_
              refine g_top (w := .int (iI (min (sF M4 (i + 1)) (sF M4_2 (j + 1))))) (imin_eq (by omega) (by omega)) ?_
              refine lv_istore (lv' := [(4, .int (iI (min (sF M4 (i + 1)) (sF M4_2 (j + 1))))), (7, .int (iI (sF M4_2 (j + 1)))), (6, .int (iI (sF M4 (i + 1)))), (0, .ref pa), (1, .ref pa_2), (2, .int (iI w)), (3, .int (iI y)), (5, .int (iI g))]) S.1 S.2.1 dX3_meetingTime_78 hl (by decide) rfl (fun ls hl => ?_)
              refine lv_iload S.1 S.2.1 dX3_meetingTime_80 (lv_at hl 2 rfl) ?_
              refine lv_iload S.1 S.2.1 dX3_meetingTime_82 (lv_at hl 0 rfl) ?_
              refine g_icmp_ne (tgt := 90) S dX3_meetingTime_84 (by decide) (by omega) (by omega) (fun q84 => ?_) (fun q84 => ?_)
              · skip
                refine lv_iload S.1 S.2.1 dX3_meetingTime_90 (lv_at hl 1 rfl) ?_
                refine lv_iload S.1 S.2.1 dX3_meetingTime_92 (lv_at hl 0 rfl) ?_
                refine g_icmp_ne (tgt := 100) S dX3_meetingTime_94 (by decide) (by omega) (by omega) (fun q94 => ?_) (fun q94 => ?_)
                · skip
                  omega
                · skip
                  refine lv_iinc (v := iI (y + 1)) (lv' := [(3, .int (iI (y + 1))), (4, .int (iI (min (sF M4 (i + 1)) (sF M4_2 (j + 1))))), (7, .int (iI (sF M4_2 (j + 1)))), (6, .int (iI (sF M4 (i + 1)))), (0, .ref pa), (1, .ref pa_2), (2, .int (iI w)), (5, .int (iI g))]) S.1 S.2.1 dX3_meetingTime_97 hl (k := 6) rfl (g_iinc rfl) (by decide) rfl (fun ls hl => ?_)
                  refine lv_iinc (v := iI (g + 1)) (lv' := [(5, .int (iI (g + 1))), (3, .int (iI (y + 1))), (4, .int (iI (min (sF M4 (i + 1)) (sF M4_2 (j + 1))))), (7, .int (iI (sF M4_2 (j + 1)))), (6, .int (iI (sF M4 (i + 1)))), (0, .ref pa), (1, .ref pa_2), (2, .int (iI w))]) S.1 S.2.1 dX3_meetingTime_100 hl (k := 7) rfl (g_iinc rfl) (by decide) rfl (fun ls hl => ?_)
                  refine lv_goto (tgt := 10) S.1 S.2.1 dX3_meetingTime_103 (by decide) ?_
                  exact ih i (j + 1) w (y + 1) (min (sF M4 (i + 1)) (sF M4_2 (j + 1))) (g + 1) _ _ _ (by omega) (by omega) (by omega) (by omega) (hM.step hA hB (by omega) (by omega) q45 (by omega) (by omega)) (lv_sub hl [5, 6, 7, 1, 2, 0] rfl) hG
              · skip
                refine lv_iinc (v := iI (w + 1)) (lv' := [(2, .int (iI (w + 1))), (4, .int (iI (min (sF M4 (i + 1)) (sF M4_2 (j + 1))))), (7, .int (iI (sF M4_2 (j + 1)))), (6, .int (iI (sF M4 (i + 1)))), (0, .ref pa), (1, .ref pa_2), (3, .int (iI y)), (5, .int (iI g))]) S.1 S.2.1 dX3_meetingTime_87 hl (k := 5) rfl (g_iinc rfl) (by decide) rfl (fun ls hl => ?_)
                refine lv_iload S.1 S.2.1 dX3_meetingTime_90 (lv_at hl 2 rfl) ?_
                refine lv_iload S.1 S.2.1 dX3_meetingTime_92 (lv_at hl 1 rfl) ?_
                refine g_icmp_ne (tgt := 100) S dX3_meetingTime_94 (by decide) (by omega) (by omega) (fun q94 => ?_) (fun q94 => ?_)
                · skip
                  refine lv_iinc (v := iI (g + 1)) (lv' := [(5, .int (iI (g + 1))), (2, .int (iI (w + 1))), (4, .int (iI (min (sF M4 (i + 1)) (sF M4_2 (j + 1))))), (7, .int (iI (sF M4_2 (j + 1)))), (6, .int (iI (sF M4 (i + 1)))), (0, .ref pa), (1, .ref pa_2), (3, .int (iI y))]) S.1 S.2.1 dX3_meetingTime_100 hl (k := 7) rfl (g_iinc rfl) (by decide) rfl (fun ls hl => ?_)
                  refine lv_goto (tgt := 10) S.1 S.2.1 dX3_meetingTime_103 (by decide) ?_
                  exact ih (i + 1) j (w + 1) y (min (sF M4 (i + 1)) (sF M4_2 (j + 1))) (g + 1) _ _ _ (by omega) (by omega) (by omega) (by omega) (hM.step hA hB (by omega) (by omega) q45 (by omega) (by omega)) (lv_sub hl [5, 6, 1, 7, 2, 0] rfl) hG
                · skip
                  refine lv_iinc (v := iI (y + 1)) (lv' := [(3, .int (iI (y + 1))), (2, .int (iI (w + 1))), (4, .int (iI (min (sF M4 (i + 1)) (sF M4_2 (j + 1))))), (7, .int (iI (sF M4_2 (j + 1)))), (6, .int (iI (sF M4 (i + 1)))), (0, .ref pa), (1, .ref pa_2), (5, .int (iI g))]) S.1 S.2.1 dX3_meetingTime_97 hl (k := 6) rfl (g_iinc rfl) (by decide) rfl (fun ls hl => ?_)
                  refine lv_iinc (v := iI (g + 1)) (lv' := [(5, .int (iI (g + 1))), (3, .int (iI (y + 1))), (2, .int (iI (w + 1))), (4, .int (iI (min (sF M4 (i + 1)) (sF M4_2 (j + 1))))), (7, .int (iI (sF M4_2 (j + 1)))), (6, .int (iI (sF M4 (i + 1)))), (0, .ref pa), (1, .ref pa_2)]) S.1 S.2.1 dX3_meetingTime_100 hl (k := 7) rfl (g_iinc rfl) (by decide) rfl (fun ls hl => ?_)
                  refine lv_goto (tgt := 10) S.1 S.2.1 dX3_meetingTime_103 (by decide) ?_
                  exact ih (i + 1) (j + 1) (w + 1) (y + 1) (min (sF M4 (i + 1)) (sF M4_2 (j + 1))) (g + 1) _ _ _ (by omega) (by omega) (by omega) (by omega) (hM.step hA hB (by omega) (by omega) q45 (by omega) (by omega)) (lv_sub hl [6, 7, 2, 1, 3, 0] rfl) hG
            · skip
              refine lv_iload S.1 S.2.1 dX3_meetingTime_48 (lv_at hl 4 rfl) ?_
              have hG : gW K A s.heap [gPth K pa nb ra pl pe r0 r1 r2 r3 r4 r5 r6 M0 M1 M2 M3 M4 M5 M6, gPth K pa_2 nb_2 ra_2 pl_2 pe_2 r0_2 r1_2 r2_2 r3_2 r4_2 r5_2 r6_2 M0_2 M1_2 M2_2 M3_2 M4_2 M5_2 M6_2] _ _ := hG
              exact g_iret S hr hlk hQ dX3_meetingTime_50 (Nat.le_of_ble_eq_true rfl) (Nat.le_of_ble_eq_true rfl) ((t) : Int) ⟨rfl, (hM.hit (by omega) (by omega) q45)⟩ hG
  exact L10 (Nat.succ (((121 : Int) - 0).toNat)) 0 0 0 0 0 0 _ _ _ (Nat.lt_succ_self _) rfl rfl (by omega) (MtI.start hA hB) (lv_sub hl [4, 5, 3, 2, 1, 0] rfl) hG
