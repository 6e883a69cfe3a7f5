set_option maxHeartbeats 16000000 in
set_option maxRecDepth 100000 in
theorem c_L_load (l : Launch) (K : KC) (ad : Nat → Nat) (ou : Int) (mi : Int) (bo : Int) (ln : Int) (LF : Int → Int) (sn : Int) (SF : Int → Int) (N : Int → Int) (B0 : Int → Int) (ou_t : Int) (mi_t : Int) (bo_t : Int) (ln_t : Int) (LF_t : Int → Int) (sn_t : Int) (SF_t : Int → Int) (qp : Int) (qs : Int) (qk : Int) (qn : Int) (qo : Int) (qb : Int) (qe : Int) (qf : Int) (hS : ScOk N ou mi bo ln LF sn SF) (hN : NOk0 N) : mG l yL_load wsL_load 10 214 K [.ref (ad 0), .ref (K.2.2.2.2 42)] [gRLC K ad, gBuf K (ad 1) (ad 12) 0 B0, gScn K (ad 3) (ad 14) (ad 15) (ad 16) (ad 17) ou mi bo ln LF sn SF, gScn K (ad 4) (ad 18) (ad 19) (ad 20) (ad 21) ou_t mi_t bo_t ln_t LF_t sn_t SF_t, gPrsC K (ad 11) (ad 1) (ad 4) qp qs qk qn qo qb qe qf, gHisC K (ad 5) (ad 22) (0 : Int) 0, gQS K (ad 22) 6 (fun _ => none)] (fun (v : Value) (u : (Int → Int) × Int × Int × Int × Int × (Int → Int) × Int × (Int → Int) × Int × Int × Int × Int × (Int → Int) × Int × (Int → Int) × Int × Int × (Nat → Option SR)) => (v = .int (iI 1)) ∧ (ScOk u.1 u.2.1 u.2.2.1 u.2.2.2.1 u.2.2.2.2.1 u.2.2.2.2.2.1 u.2.2.2.2.2.2.1 u.2.2.2.2.2.2.2.1) ∧ (NOk0 u.1 ∧ 1 ≤ u.1 0) ∧ ((0 ≤ u.2.2.2.2.2.2.2.2.2.2.2.2.2.2.2.1 ∧ u.2.2.2.2.2.2.2.2.2.2.2.2.2.2.2.1 < 6) ∧ 0 ≤ u.2.2.2.2.2.2.2.2.2.2.2.2.2.2.2.2.1 ∧ u.2.2.2.2.2.2.2.2.2.2.2.2.2.2.2.2.1 ≤ 6)) (fun (u : (Int → Int) × Int × Int × Int × Int × (Int → Int) × Int × (Int → Int) × Int × Int × Int × Int × (Int → Int) × Int × (Int → Int) × Int × Int × (Nat → Option SR)) => [gRLC K ad, gScn K (ad 3) (ad 14) (ad 15) (ad 16) (ad 17) u.2.1 u.2.2.1 u.2.2.2.1 u.2.2.2.2.1 u.2.2.2.2.2.1 u.2.2.2.2.2.2.1 u.2.2.2.2.2.2.2.1, gScn K (ad 4) (ad 18) (ad 19) (ad 20) (ad 21) u.2.2.2.2.2.2.2.2.1 u.2.2.2.2.2.2.2.2.2.1 u.2.2.2.2.2.2.2.2.2.2.1 u.2.2.2.2.2.2.2.2.2.2.2.1 u.2.2.2.2.2.2.2.2.2.2.2.2.1 u.2.2.2.2.2.2.2.2.2.2.2.2.2.1 u.2.2.2.2.2.2.2.2.2.2.2.2.2.2.1, gHisC K (ad 5) (ad 22) u.2.2.2.2.2.2.2.2.2.2.2.2.2.2.2.1 u.2.2.2.2.2.2.2.2.2.2.2.2.2.2.2.2.1, gQS K (ad 22) 6 (oP u.2.2.2.2.2.2.2.2.2.2.2.2.2.2.2.2.2), gSOs K u.2.2.2.2.2.2.2.2.2.2.2.2.2.2.2.2.2 (List.range 6)]) 66 36643 := by
  refine mG_of cL_load 11 (by decide) rfl (Nat.le_of_ble_eq_true rfl) ?_
  intro p e s m below meth c A ls Q S C hG hl hr hlk hin hQ
  have S : CallFix p m c cL_load 11 s ([.ref (ad 0), .ref (K.2.2.2.2 42)] : List Value).toArray wsL_load RL := S
  have iJ40 : ∀ w ∈ wsJ40, w ∈ wsL_load := fun _ h => List.mem_cons_of_mem _ (List.mem_append_left _ (List.mem_append_left _ (List.mem_append_left _ (List.mem_append_left _ (List.mem_append_left _ (List.mem_append_left _ (List.mem_append_left _ (List.mem_append_left _ (List.mem_append_left _ (List.mem_append_left _ (List.mem_append_right _ (h))))))))))))
  have iJ00 : ∀ w ∈ wsJ00, w ∈ wsL_load := fun _ h => List.mem_cons_of_mem _ (List.mem_append_left _ (List.mem_append_left _ (List.mem_append_left _ (List.mem_append_left _ (List.mem_append_left _ (List.mem_append_left _ (List.mem_append_left _ (List.mem_append_left _ (List.mem_append_left _ (List.mem_append_right _ (h)))))))))))
  have iX80 : ∀ w ∈ wsX80, w ∈ wsL_load := fun _ h => List.mem_cons_of_mem _ (List.mem_append_left _ (List.mem_append_left _ (List.mem_append_left _ (List.mem_append_left _ (List.mem_append_left _ (List.mem_append_left _ (List.mem_append_left _ (List.mem_append_left _ (List.mem_append_right _ (h))))))))))
  have iX00 : ∀ w ∈ wsX00, w ∈ wsL_load := fun _ h => List.mem_cons_of_mem _ (List.mem_append_left _ (List.mem_append_left _ (List.mem_append_left _ (List.mem_append_left _ (List.mem_append_left _ (List.mem_append_left _ (List.mem_append_left _ (List.mem_append_right _ (h)))))))))
  have iX50 : ∀ w ∈ wsX50, w ∈ wsL_load := fun _ h => List.mem_cons_of_mem _ (List.mem_append_left _ (List.mem_append_left _ (List.mem_append_left _ (List.mem_append_left _ (List.mem_append_left _ (List.mem_append_left _ (List.mem_append_right _ (h))))))))
  have iX70 : ∀ w ∈ wsX70, w ∈ wsL_load := fun _ h => List.mem_cons_of_mem _ (List.mem_append_left _ (List.mem_append_left _ (List.mem_append_left _ (List.mem_append_left _ (List.mem_append_left _ (List.mem_append_right _ (h)))))))
  have iX20 : ∀ w ∈ wsX20, w ∈ wsL_load := fun _ h => List.mem_cons_of_mem _ (List.mem_append_left _ (List.mem_append_left _ (List.mem_append_left _ (List.mem_append_left _ (List.mem_append_right _ (h))))))
  have iX10 : ∀ w ∈ wsX10, w ∈ wsL_load := fun _ h => List.mem_cons_of_mem _ (List.mem_append_left _ (List.mem_append_left _ (List.mem_append_left _ (List.mem_append_right _ (h)))))
  have hl : lv_has ls 11 [(0, .ref (ad 0)), (1, .ref (K.2.2.2.2 42))] := hl
  have hG : gW K A s.heap [gRLC K ad, gBuf K (ad 1) (ad 12) 0 B0, gScn K (ad 3) (ad 14) (ad 15) (ad 16) (ad 17) ou mi bo ln LF sn SF, gScn K (ad 4) (ad 18) (ad 19) (ad 20) (ad 21) ou_t mi_t bo_t ln_t LF_t sn_t SF_t, gPrsC K (ad 11) (ad 1) (ad 4) qp qs qk qn qo qb qe qf, gHisC K (ad 5) (ad 22) (0 : Int) 0, gQS K (ad 22) 6 (fun _ => none)] s.heap [] := hG
  obtain ⟨e0, e1, e2, e3, e4, e5, e6⟩ := id hS
  have n0 := hN.1
  have n1 := hN.2.1
  have n2 := hN.2.2.1
  have n3 := hN.2.2.2.1
  have q33 : (l33.length : Int) = 1 := rfl
  refine g_iconst S dL_load_0 ?_
  refine lv_aload_n S.1 S.2.1 dL_load_1 rfl (lv_at hl 1 rfl) ?_
  refine g_iconst S dL_load_2 ?_
  refine g_iconst S dL_load_3 ?_
  refine g_invS (As := [.ref (K.2.2.2.2 42), .int (iI 0), .int (iI 5)]) (rest := [.int (iI 1)]) (gs' := (fun u : Unit => [gRLC K ad, gBuf K (ad 1) (ad 12) 0 B0, gScn K (ad 3) (ad 14) (ad 15) (ad 16) (ad 17) ou mi bo ln LF sn SF, gScn K (ad 4) (ad 18) (ad 19) (ad 20) (ad 21) ou_t mi_t bo_t ln_t LF_t sn_t SF_t, gPrsC K (ad 11) (ad 1) (ad 4) qp qs qk qn qo qb qe qf, gHisC K (ad 5) (ad 22) (0 : Int) 0, gQS K (ad 22) 6 (fun _ => none)])) S C hG [] (c_L_draw l K 0 5 (by omega) (by omega)) rfl rfl (va_cwS 3 S.2.2.2.2 gL_load_L_draw rfl rfl rfl (by decide +kernel) ⟨Nat.le_of_ble_eq_true rfl, Nat.le_of_ble_eq_true rfl⟩) rfl hl.1 rfl (Nat.le_of_ble_eq_true rfl) dL_load_4 ⟨Nat.le_of_ble_eq_true rfl, Nat.le_of_ble_eq_true rfl⟩ (fun _ => Nat.le_of_ble_eq_true rfl) (fun _ => rfl) (fun v u H locs hp hG => ?_)
  subst hp
  have hd4 := drwN_bd K 0 (n := 5) (by omega)
  have hd9 := drwN_bd K 0 (n := 5) (by omega)
  obtain ⟨nl, hnl⟩ : ∃ z : Int, z = 1 + (drwN K 0 5) := ⟨_, rfl⟩
  refine g_iadd S dL_load_7 rfl ?_
  refine g_top (w := .int (iI (nl))) (congrArg (fun z : Int => Value.int (iI z)) (hnl.symm)) ?_
  refine lv_istore_n (lv' := [(2, .int (iI nl)), (0, .ref (ad 0)), (1, .ref (K.2.2.2.2 42))]) S.1 S.2.1 dL_load_8 rfl hl (by decide) rfl (fun ls hl => ?_)
  refine g_new (ci := 10) (fs := [.null, .int (iI 0), .int (iI 0), .int (iI 0)]) (gs' := fun nw9 => [gRLC K ad, gBuf K (ad 1) (ad 12) 0 B0, gScn K (ad 3) (ad 14) (ad 15) (ad 16) (ad 17) ou mi bo ln LF sn SF, gScn K (ad 4) (ad 18) (ad 19) (ad 20) (ad 21) ou_t mi_t bo_t ln_t LF_t sn_t SF_t, gPrsC K (ad 11) (ad 1) (ad 4) qp qs qk qn qo qb qe qf, gHisC K (ad 5) (ad 22) (0 : Int) 0, gQS K (ad 22) 6 (fun _ => none), gNewJ4 K nw9]) S C hG iJ40 tyJ4 tyJ4_ok (List.mem_of_getElem? (i := 1) rfl) (List.mem_of_getElem? (i := 2) rfl) (List.mem_of_getElem? (i := 3) rfl) rfl dfJ4 (Nat.le_of_ble_eq_true rfl) (Nat.le_of_ble_eq_true rfl) (fun nw9 => rfl) dL_load_9 (fun nw9 H hG => ?_)
  refine lv_dup S.1 S.2.1 dL_load_12 rfl ?_
  refine g_invI (As := []) (rest := [.ref nw9]) (gs' := (fun u : Nat => [gRLC K ad, gBuf K (ad 1) (ad 12) 0 B0, gScn K (ad 3) (ad 14) (ad 15) (ad 16) (ad 17) ou mi bo ln LF sn SF, gScn K (ad 4) (ad 18) (ad 19) (ad 20) (ad 21) ou_t mi_t bo_t ln_t LF_t sn_t SF_t, gPrsC K (ad 11) (ad 1) (ad 4) qp qs qk qn qo qb qe qf, gHisC K (ad 5) (ad 22) (0 : Int) 0, gQS K (ad 22) 6 (fun _ => none), gSb K nw9 u 16 0 (fun _ : Int => 0)])) S C hG [7] (c_J4_init_da8c8 l K nw9) rfl rfl (cwI 0 S.2.2.2.2 gL_load_J4_init_da8c8 rfl rfl rfl (S.2.2.2.2 _ (List.mem_of_getElem? (i := 3) rfl)) (S.2.2.2.2 _ (List.mem_of_getElem? (i := 10) rfl)) (S.2.2.2.2 _ (List.mem_of_getElem? (i := 11) rfl)) rfl (by decide +kernel) ⟨Nat.le_of_ble_eq_true rfl, Nat.le_of_ble_eq_true rfl⟩) rfl hl.1 rfl (Nat.le_of_ble_eq_true rfl) dL_load_13 ⟨Nat.le_of_ble_eq_true rfl, Nat.le_of_ble_eq_true rfl⟩ (fun _ => Nat.le_of_ble_eq_true rfl) (fun _ => rfl) (fun u H locs hp hG => ?_)
  obtain ⟨b2_13, rfl⟩ : ∃ z, z = u := ⟨_, rfl⟩
  have hG : gW K A s.heap [gRLC K ad, gBuf K (ad 1) (ad 12) 0 B0, gScn K (ad 3) (ad 14) (ad 15) (ad 16) (ad 17) ou mi bo ln LF sn SF, gScn K (ad 4) (ad 18) (ad 19) (ad 20) (ad 21) ou_t mi_t bo_t ln_t LF_t sn_t SF_t, gPrsC K (ad 11) (ad 1) (ad 4) qp qs qk qn qo qb qe qf, gHisC K (ad 5) (ad 22) (0 : Int) 0, gQS K (ad 22) 6 (fun _ => none), gSb K nw9 b2_13 16 0 (fun _ : Int => 0)] _ _ := hG
  refine lv_astore_n (lv' := [(3, .ref nw9), (2, .int (iI nl)), (0, .ref (ad 0)), (1, .ref (K.2.2.2.2 42))]) S.1 S.2.1 dL_load_16 rfl hl (by decide) rfl (fun ls hl => ?_)
  refine lv_iload_n S.1 S.2.1 dL_load_17 rfl (lv_at hl 1 rfl) ?_
  obtain ⟨N18, eN18⟩ : ∃ k9 : Nat, nl = (k9 : Int) := ⟨(nl).toNat, by omega⟩
  refine g_newa (gs' := fun nw18 => [gRLC K ad, gBuf K (ad 1) (ad 12) 0 B0, gScn K (ad 3) (ad 14) (ad 15) (ad 16) (ad 17) ou mi bo ln LF sn SF, gScn K (ad 4) (ad 18) (ad 19) (ad 20) (ad 21) ou_t mi_t bo_t ln_t LF_t sn_t SF_t, gPrsC K (ad 11) (ad 1) (ad 4) qp qs qk qn qo qb qe qf, gHisC K (ad 5) (ad 22) (0 : Int) 0, gQS K (ad 22) 6 (fun _ => none), gSb K nw9 b2_13 16 0 (fun _ : Int => 0), gArr K N18 nw18 (fun _ : Int => 0)]) (a0 := (N18, .inl (fun j : Nat => iI ((fun _ : Int => 0) (j : Int))))) S C hG (ty := .int) rfl (List.mem_of_getElem? (i := 4) rfl) 0 rfl N18 eN18 (ha_i N18) (show N18 * 4 ≤ _ by omega) (by omega) (Nat.le_of_ble_eq_true rfl) (show ((0 + 4) + 16) + N18 ≤ 36643 by omega) (fun _ => rfl) dL_load_18 (fun nw18 H hG => ?_)
  refine W.widen (n := (((0 + 4) + 16) + 10)) (Nat.le_refl _) (by omega) ?_
  refine lv_astore (lv' := [(4, .ref nw18), (3, .ref nw9), (2, .int (iI nl)), (0, .ref (ad 0)), (1, .ref (K.2.2.2.2 42))]) S.1 S.2.1 dL_load_20 hl (by decide) rfl (fun ls hl => ?_)
  refine g_iconst S dL_load_22 ?_
  refine lv_istore (lv' := [(5, .int (iI 0)), (4, .ref nw18), (3, .ref nw9), (2, .int (iI nl)), (0, .ref (ad 0)), (1, .ref (K.2.2.2.2 42))]) S.1 S.2.1 dL_load_23 hl (by decide) rfl (fun ls hl => ?_)
  have L25 : ∀ (fu : Nat) (i : Int) (IX : Int → Int) (n : Int) (F : Int → Int) (b : Nat) (cap : Nat) (tx : List Int) (M : Int → Int) (kc25 : Nat) (ks25 : Nat) (H : Heap) (locs : List Loc) (ls : Array Slot), ((nl - i).toNat) < fu → (0 ≤ i ∧ i ≤ nl) → (OutI F n tx) → (0 ≤ n ∧ n ≤ (cap : Int) ∧ (cap : Int) ≤ 602) → (16 * i ≤ n ∧ n ≤ 32 * i) → (TxS tx (M, 0, 0)) → (ScnI i M IX 1000 0 1000 0) → ((kc25 : Int) ≤ ((((0 + 1) + 1) + 1) : Nat) + 7 * i ∧ (ks25 : Int) ≤ ((((0 + 4) + 16) + 10) : Nat) + 4480 * i) → lv_has ls 11 [(0, .ref (ad 0)), (1, .ref (K.2.2.2.2 42)), (2, .int (iI nl)), (3, .ref nw9), (4, .ref nw18), (5, .int (iI i))] → gW K A s.heap [gRLC K ad, gBuf K (ad 1) (ad 12) 0 B0, gScn K (ad 3) (ad 14) (ad 15) (ad 16) (ad 17) ou mi bo ln LF sn SF, gScn K (ad 4) (ad 18) (ad 19) (ad 20) (ad 21) ou_t mi_t bo_t ln_t LF_t sn_t SF_t, gPrsC K (ad 11) (ad 1) (ad 4) qp qs qk qn qo qb qe qf, gHisC K (ad 5) (ad 22) (0 : Int) 0, gQS K (ad 22) 6 (fun _ => none), gSb K nw9 b cap n F, gArr K N18 nw18 IX] H locs → W p l e { frames := 10, cells := 66, slots := 36643, locals := 214 } s m ([.ref (ad 0), .ref (K.2.2.2.2 42)] : List Value).toArray below meth c H locs kc25 ks25 Q (F0 m 25 ls []) := by
    intro fu
    induction fu with
    | zero => intro i IX n F b cap tx M kc25 ks25 H locs ls hfu; exact absurd hfu (Nat.not_lt_zero _)
    | succ fu ih =>
      intro i IX n F b cap tx M kc25 ks25 H locs ls hfu hi hO hc hn hT9 hI hk25 hl hG
      refine lv_iload S.1 S.2.1 dL_load_25 (lv_at hl 5 rfl) ?_
      refine lv_iload_n S.1 S.2.1 dL_load_27 rfl (lv_at hl 2 rfl) ?_
      refine g_icmp_ge (tgt := 133) S dL_load_28 (by decide) (by omega) (by omega) (fun q28 => ?_) (fun q28 => ?_)
      · skip
        have iq9 : i = nl := by omega
        rw [iq9] at hI hn
        refine g_sipush S dL_load_133 (by decide) ?_
        refine lv_aload_n S.1 S.2.1 dL_load_136 rfl (lv_at hl 1 rfl) ?_
        refine g_bipush S dL_load_137 (by decide) ?_
        refine g_sipush S dL_load_139 (by decide) ?_
        refine g_invS (As := [.ref (K.2.2.2.2 42), .int (iI 27), .int (iI 3001)]) (rest := [.int (iI 1000)]) (gs' := (fun u : Unit => [gRLC K ad, gBuf K (ad 1) (ad 12) 0 B0, gScn K (ad 3) (ad 14) (ad 15) (ad 16) (ad 17) ou mi bo ln LF sn SF, gScn K (ad 4) (ad 18) (ad 19) (ad 20) (ad 21) ou_t mi_t bo_t ln_t LF_t sn_t SF_t, gPrsC K (ad 11) (ad 1) (ad 4) qp qs qk qn qo qb qe qf, gHisC K (ad 5) (ad 22) (0 : Int) 0, gQS K (ad 22) 6 (fun _ => none), gSb K nw9 b cap n F, gArr K N18 nw18 IX])) S C hG [] (c_L_draw l K 27 3001 (by omega) (by omega)) rfl rfl (va_cwS 3 S.2.2.2.2 gL_load_L_draw rfl rfl rfl (by decide +kernel) ⟨Nat.le_of_ble_eq_true rfl, Nat.le_of_ble_eq_true rfl⟩) rfl hl.1 rfl (Nat.le_of_ble_eq_true rfl) dL_load_142 ⟨show kc25 + 0 ≤ 66 by omega, show ks25 + 0 ≤ 36643 by omega⟩ (fun _ => Nat.le_of_ble_eq_true rfl) (fun _ => rfl) (fun v u H locs hp hG => ?_)
        subst hp
        have hd142 := drwN_bd K 27 (n := 3001) (by omega)
        obtain ⟨o5, ho5⟩ : ∃ z : Int, z = 1000 + (drwN K 27 3001) := ⟨_, rfl⟩
        refine g_iadd S dL_load_145 rfl ?_
        refine g_top (w := .int (iI (o5))) (congrArg (fun z : Int => Value.int (iI z)) (ho5.symm)) ?_
        refine lv_istore (lv' := [(5, .int (iI o5)), (0, .ref (ad 0)), (1, .ref (K.2.2.2.2 42)), (2, .int (iI nl)), (3, .ref nw9), (4, .ref nw18)]) S.1 S.2.1 dL_load_146 hl (by decide) rfl (fun ls hl => ?_)
        have J175 : ∀ (n : Int) (F : Int → Int) (b : Nat) (cap : Nat) (tx : List Int) (M : Int → Int) (ho : Int) (ou7 : Int) (H : Heap) (locs : List Loc) (ls : Array Slot), (OutI F n tx) → (0 ≤ n ∧ n ≤ (cap : Int) ∧ (cap : Int) ≤ 602) → (16 ≤ n ∧ n ≤ 173) → (TxS tx (M, ho, 0)) → (ScnI nl M IX ou7 0 1000 0) → ((drwN K 26 3 = 0 → ou7 = o5) ∧ (¬ drwN K 26 3 = 0 → ou7 = 1000)) → lv_has ls 11 [(0, .ref (ad 0)), (1, .ref (K.2.2.2.2 42)), (2, .int (iI nl)), (3, .ref nw9), (4, .ref nw18), (5, .int (iI o5))] → gW K A s.heap [gRLC K ad, gBuf K (ad 1) (ad 12) 0 B0, gScn K (ad 3) (ad 14) (ad 15) (ad 16) (ad 17) ou mi bo ln LF sn SF, gScn K (ad 4) (ad 18) (ad 19) (ad 20) (ad 21) ou_t mi_t bo_t ln_t LF_t sn_t SF_t, gPrsC K (ad 11) (ad 1) (ad 4) qp qs qk qn qo qb qe qf, gHisC K (ad 5) (ad 22) (0 : Int) 0, gQS K (ad 22) 6 (fun _ => none), gSb K nw9 b cap n F, gArr K N18 nw18 IX] H locs → W p l e { frames := 10, cells := 66, slots := 36643, locals := 214 } s m ([.ref (ad 0), .ref (K.2.2.2.2 42)] : List Value).toArray below meth c H locs (kc25 + 3) (ks25 + 1920) Q (F0 m 175 ls []) := by
          intro n F b cap tx M ho ou7 H locs ls hO hc hn hT9 hI hou hl hG
          refine lv_aload_n S.1 S.2.1 dL_load_175 rfl (lv_at hl 1 rfl) ?_
          refine g_bipush S dL_load_176 (by decide) ?_
          refine g_iconst S dL_load_178 ?_
          obtain ⟨b6, hb6⟩ : ∃ z : Int, z = drwN K 28 4 := ⟨_, rfl⟩
          refine g_invS (As := [.ref (K.2.2.2.2 42), .int (iI 28), .int (iI 4)]) (rest := []) (gs' := (fun u : Unit => [gRLC K ad, gBuf K (ad 1) (ad 12) 0 B0, gScn K (ad 3) (ad 14) (ad 15) (ad 16) (ad 17) ou mi bo ln LF sn SF, gScn K (ad 4) (ad 18) (ad 19) (ad 20) (ad 21) ou_t mi_t bo_t ln_t LF_t sn_t SF_t, gPrsC K (ad 11) (ad 1) (ad 4) qp qs qk qn qo qb qe qf, gHisC K (ad 5) (ad 22) (0 : Int) 0, gQS K (ad 22) 6 (fun _ => none), gSb K nw9 b cap n F, gArr K N18 nw18 IX])) S C hG [] (c_L_draw l K 28 4 (by omega) (by omega)) rfl rfl (va_cwS 3 S.2.2.2.2 gL_load_L_draw rfl rfl rfl (by decide +kernel) ⟨Nat.le_of_ble_eq_true rfl, Nat.le_of_ble_eq_true rfl⟩) rfl hl.1 rfl (Nat.le_of_ble_eq_true rfl) dL_load_179 ⟨show (kc25 + 3) + 0 ≤ 66 by omega, show (ks25 + 1920) + 0 ≤ 36643 by omega⟩ (fun _ => Nat.le_of_ble_eq_true rfl) (fun _ => rfl) (fun v u H locs hp hG => ?_)
          subst hp
          have hd179 := drwN_bd K 28 (n := 4) (by omega)
          refine g_top (w := .int (iI (b6))) (congrArg (fun z : Int => Value.int (iI z)) (hb6.symm)) ?_
          refine lv_istore (lv' := [(6, .int (iI b6)), (0, .ref (ad 0)), (1, .ref (K.2.2.2.2 42)), (2, .int (iI nl)), (3, .ref nw9), (4, .ref nw18), (5, .int (iI o5))]) S.1 S.2.1 dL_load_182 hl (by decide) rfl (fun ls hl => ?_)
          have J262 : ∀ (n : Int) (F : Int → Int) (b : Nat) (cap : Nat) (tx : List Int) (M : Int → Int) (hb2 : Int) (mi7 : Int) (bo7 : Int) (bl : Int) (H : Heap) (locs : List Loc) (ls : Array Slot), (OutI F n tx) → (0 ≤ n ∧ n ≤ (cap : Int) ∧ (cap : Int) ≤ 602) → (16 ≤ n ∧ n ≤ 192) → (TxS tx (M, ho, hb2)) → (ScnI nl M IX ou7 mi7 bo7 0) → ((b6 = 1 → mi7 = 1 ∧ bo7 = bl) ∧ (b6 = 2 → mi7 = 0 ∧ bo7 = bl) ∧ (¬ b6 = 1 → ¬ b6 = 2 → mi7 = 0 ∧ bo7 = 1000)) → (0 ≤ bl ∧ bl ≤ 4000) → lv_has ls 11 [(0, .ref (ad 0)), (1, .ref (K.2.2.2.2 42)), (2, .int (iI nl)), (3, .ref nw9), (4, .ref nw18), (5, .int (iI o5)), (6, .int (iI b6)), (7, .int (iI bl))] → gW K A s.heap [gRLC K ad, gBuf K (ad 1) (ad 12) 0 B0, gScn K (ad 3) (ad 14) (ad 15) (ad 16) (ad 17) ou mi bo ln LF sn SF, gScn K (ad 4) (ad 18) (ad 19) (ad 20) (ad 21) ou_t mi_t bo_t ln_t LF_t sn_t SF_t, gPrsC K (ad 11) (ad 1) (ad 4) qp qs qk qn qo qb qe qf, gHisC K (ad 5) (ad 22) (0 : Int) 0, gQS K (ad 22) 6 (fun _ => none), gSb K nw9 b cap n F, gArr K N18 nw18 IX] H locs → W p l e { frames := 10, cells := 66, slots := 36643, locals := 214 } s m ([.ref (ad 0), .ref (K.2.2.2.2 42)] : List Value).toArray below meth c H locs ((kc25 + 3) + 3) ((ks25 + 1920) + 1920) Q (F0 m 262 ls []) := by
            intro n F b cap tx M hb2 mi7 bo7 bl H locs ls hO hc hn hT9 hI hbo hbl hl hG
            refine lv_aload_n S.1 S.2.1 dL_load_262 rfl (lv_at hl 1 rfl) ?_
            refine g_bipush S dL_load_263 (by decide) ?_
            refine g_iconst S dL_load_265 ?_
            obtain ⟨s8, hs8⟩ : ∃ z : Int, z = drwN K 30 4 := ⟨_, rfl⟩
            refine g_invS (As := [.ref (K.2.2.2.2 42), .int (iI 30), .int (iI 4)]) (rest := []) (gs' := (fun u : Unit => [gRLC K ad, gBuf K (ad 1) (ad 12) 0 B0, gScn K (ad 3) (ad 14) (ad 15) (ad 16) (ad 17) ou mi bo ln LF sn SF, gScn K (ad 4) (ad 18) (ad 19) (ad 20) (ad 21) ou_t mi_t bo_t ln_t LF_t sn_t SF_t, gPrsC K (ad 11) (ad 1) (ad 4) qp qs qk qn qo qb qe qf, gHisC K (ad 5) (ad 22) (0 : Int) 0, gQS K (ad 22) 6 (fun _ => none), gSb K nw9 b cap n F, gArr K N18 nw18 IX])) S C hG [] (c_L_draw l K 30 4 (by omega) (by omega)) rfl rfl (va_cwS 3 S.2.2.2.2 gL_load_L_draw rfl rfl rfl (by decide +kernel) ⟨Nat.le_of_ble_eq_true rfl, Nat.le_of_ble_eq_true rfl⟩) rfl hl.1 rfl (Nat.le_of_ble_eq_true rfl) dL_load_266 ⟨show ((kc25 + 3) + 3) + 0 ≤ 66 by omega, show ((ks25 + 1920) + 1920) + 0 ≤ 36643 by omega⟩ (fun _ => Nat.le_of_ble_eq_true rfl) (fun _ => rfl) (fun v u H locs hp hG => ?_)
            subst hp
            have hd266 := drwN_bd K 30 (n := 4) (by omega)
            refine g_top (w := .int (iI (s8))) (congrArg (fun z : Int => Value.int (iI z)) (hs8.symm)) ?_
            refine lv_istore (lv' := [(8, .int (iI s8)), (0, .ref (ad 0)), (1, .ref (K.2.2.2.2 42)), (2, .int (iI nl)), (3, .ref nw9), (4, .ref nw18), (5, .int (iI o5)), (6, .int (iI b6)), (7, .int (iI bl))]) S.1 S.2.1 dL_load_269 hl (by decide) rfl (fun ls hl => ?_)
            refine g_iconst S dL_load_271 ?_
            refine lv_istore (lv' := [(9, .int (iI 0)), (8, .int (iI s8)), (0, .ref (ad 0)), (1, .ref (K.2.2.2.2 42)), (2, .int (iI nl)), (3, .ref nw9), (4, .ref nw18), (5, .int (iI o5)), (6, .int (iI b6)), (7, .int (iI bl))]) S.1 S.2.1 dL_load_272 hl (by decide) rfl (fun ls hl => ?_)
            have L274 : ∀ (fu : Nat) (w : Int) (n : Int) (F : Int → Int) (b : Nat) (cap : Nat) (tx : List Int) (M : Int → Int) (kc274 : Nat) (ks274 : Nat) (H : Heap) (locs : List Loc) (ls : Array Slot), ((s8 - w).toNat) < fu → (0 ≤ w ∧ w ≤ s8) → (OutI F n tx) → (0 ≤ n ∧ n ≤ (cap : Int) ∧ (cap : Int) ≤ 602) → (16 ≤ n ∧ n ≤ 192 + 20 * w) → (TxS tx (M, ho, hb2)) → (ScnI nl M IX ou7 mi7 bo7 w) → ((kc274 : Int) ≤ (((kc25 + 3) + 3) : Nat) + 5 * w ∧ (ks274 : Int) ≤ (((ks25 + 1920) + 1920) : Nat) + 3200 * w) → lv_has ls 11 [(0, .ref (ad 0)), (1, .ref (K.2.2.2.2 42)), (2, .int (iI nl)), (3, .ref nw9), (4, .ref nw18), (5, .int (iI o5)), (6, .int (iI b6)), (7, .int (iI bl)), (8, .int (iI s8)), (9, .int (iI w))] → gW K A s.heap [gRLC K ad, gBuf K (ad 1) (ad 12) 0 B0, gScn K (ad 3) (ad 14) (ad 15) (ad 16) (ad 17) ou mi bo ln LF sn SF, gScn K (ad 4) (ad 18) (ad 19) (ad 20) (ad 21) ou_t mi_t bo_t ln_t LF_t sn_t SF_t, gPrsC K (ad 11) (ad 1) (ad 4) qp qs qk qn qo qb qe qf, gHisC K (ad 5) (ad 22) (0 : Int) 0, gQS K (ad 22) 6 (fun _ => none), gSb K nw9 b cap n F, gArr K N18 nw18 IX] H locs → W p l e { frames := 10, cells := 66, slots := 36643, locals := 214 } s m ([.ref (ad 0), .ref (K.2.2.2.2 42)] : List Value).toArray below meth c H locs kc274 ks274 Q (F0 m 274 ls []) := by
              intro fu
              induction fu with
              | zero => intro w n F b cap tx M kc274 ks274 H locs ls hfu; exact absurd hfu (Nat.not_lt_zero _)
              | succ fu ih274 =>
                intro w n F b cap tx M kc274 ks274 H locs ls hfu hw hO hc hn hT9 hI hk274 hl hG
                refine lv_iload S.1 S.2.1 dL_load_274 (lv_at hl 9 rfl) ?_
                refine lv_iload S.1 S.2.1 dL_load_276 (lv_at hl 8 rfl) ?_
                refine g_icmp_ge (tgt := 362) S dL_load_278 (by decide) (by omega) (by omega) (fun q278 => ?_) (fun q278 => ?_)
                · skip
                  refine lv_aload_n S.1 S.2.1 dL_load_362 rfl (lv_at hl 0 rfl) ?_
                  refine lv_aload_n S.1 S.2.1 dL_load_363 rfl (lv_at hl 3 rfl) ?_
                  refine g_invV (As := []) (rest := [.ref (ad 0)]) (gs' := (fun u : Nat × Nat × Nat × (Int → Int) => [gRLC K ad, gBuf K (ad 1) (ad 12) 0 B0, gScn K (ad 3) (ad 14) (ad 15) (ad 16) (ad 17) ou mi bo ln LF sn SF, gScn K (ad 4) (ad 18) (ad 19) (ad 20) (ad 21) ou_t mi_t bo_t ln_t LF_t sn_t SF_t, gPrsC K (ad 11) (ad 1) (ad 4) qp qs qk qn qo qb qe qf, gHisC K (ad 5) (ad 22) (0 : Int) 0, gQS K (ad 22) 6 (fun _ => none), gSb K nw9 b cap n F, gArr K N18 nw18 IX, gStO K u.1 u.2.1 u.2.2.1 u.2.2.2])) S C hG [7] (c_J4_toString_0e30d l K nw9 b cap n F tx (by omega) hO) rfl rfl 0 rfl rfl (cwV 0 S.2.2.2.2 gL_load_J4_toString_0e30d rfl rfl rfl (by decide +kernel) ⟨Nat.le_of_ble_eq_true rfl, Nat.le_of_ble_eq_true rfl⟩) rfl hl.1 rfl (Nat.le_of_ble_eq_true rfl) dL_load_364 ⟨show kc274 + 2 ≤ 66 by omega, show ks274 + 644 ≤ 36643 by omega⟩ (fun _ => Nat.le_of_ble_eq_true rfl) (fun _ => rfl) (fun v u H locs hp hG => ?_)
                  obtain ⟨st2_364, b2_364, c2_364, F2_364⟩ := u
                  obtain ⟨rfl, hc2_364, hO2_364⟩ := hp
                  have hc2_364 : (c2_364 : Int) = n := hc2_364
                  have hO2_364 : OutI F2_364 n tx := hO2_364
                  have hG : gW K A s.heap [gRLC K ad, gBuf K (ad 1) (ad 12) 0 B0, gScn K (ad 3) (ad 14) (ad 15) (ad 16) (ad 17) ou mi bo ln LF sn SF, gScn K (ad 4) (ad 18) (ad 19) (ad 20) (ad 21) ou_t mi_t bo_t ln_t LF_t sn_t SF_t, gPrsC K (ad 11) (ad 1) (ad 4) qp qs qk qn qo qb qe qf, gHisC K (ad 5) (ad 22) (0 : Int) 0, gQS K (ad 22) 6 (fun _ => none), gSb K nw9 b cap n F, gArr K N18 nw18 IX, gStO K st2_364 b2_364 c2_364 F2_364] _ _ := hG
                  refine g_invSv (As := [.ref (ad 0), .ref st2_364]) (rest := []) (gs' := (fun u : (Int → Int) => [gRLC K ad, gBuf K (ad 1) (ad 12) (c2_364 : Int) u, gScn K (ad 3) (ad 14) (ad 15) (ad 16) (ad 17) ou mi bo ln LF sn SF, gScn K (ad 4) (ad 18) (ad 19) (ad 20) (ad 21) ou_t mi_t bo_t ln_t LF_t sn_t SF_t, gPrsC K (ad 11) (ad 1) (ad 4) qp qs qk qn qo qb qe qf, gHisC K (ad 5) (ad 22) (0 : Int) 0, gQS K (ad 22) 6 (fun _ => none), gSb K nw9 b cap n F, gArr K N18 nw18 IX, gStO K st2_364 b2_364 c2_364 F2_364])) S C hG [0, 1, 9] (c_L_feed l K ad st2_364 b2_364 c2_364 F2_364 B0 (by omega) (fun j j0 j1 => hO2_364.let hT9.let j j0 (by omega))) rfl rfl (va_cwS 2 S.2.2.2.2 gL_load_L_feed rfl rfl rfl (by decide +kernel) ⟨Nat.le_of_ble_eq_true rfl, Nat.le_of_ble_eq_true rfl⟩) rfl hl.1 rfl (Nat.le_of_ble_eq_true rfl) dL_load_367 ⟨show (kc274 + 2) + 0 ≤ 66 by omega, show (ks274 + 644) + 0 ≤ 36643 by omega⟩ (fun _ => Nat.le_of_ble_eq_true rfl) (fun _ => rfl) (fun u H locs hp hG => ?_)
                  obtain ⟨B2_367, rfl⟩ : ∃ z, z = u := ⟨_, rfl⟩
                  have hB2_367 := hp
                  have hB2_367 : ∀ j : Int, 0 ≤ j → j < (c2_364 : Int) → B2_367 j % 256 = F2_364 j := hB2_367
                  have hG : gW K A s.heap [gRLC K ad, gBuf K (ad 1) (ad 12) (c2_364 : Int) B2_367, gScn K (ad 3) (ad 14) (ad 15) (ad 16) (ad 17) ou mi bo ln LF sn SF, gScn K (ad 4) (ad 18) (ad 19) (ad 20) (ad 21) ou_t mi_t bo_t ln_t LF_t sn_t SF_t, gPrsC K (ad 11) (ad 1) (ad 4) qp qs qk qn qo qb qe qf, gHisC K (ad 5) (ad 22) (0 : Int) 0, gQS K (ad 22) 6 (fun _ => none), gSb K nw9 b cap n F, gArr K N18 nw18 IX, gStO K st2_364 b2_364 c2_364 F2_364] _ _ := hG
                  refine lv_aload_n S.1 S.2.1 dL_load_370 rfl (lv_at hl 0 rfl) ?_
                  have hl8 : n = (tx.length : Int) := hO2_364.1
                  have hx8 : prsX B2_367 (c2_364 : Int) = .inr M := hT9.prs (fun z => by rw [z] at hl8; simp at hl8; omega) (by omega) (by omega) (fun j hj => by rw [hB2_367 (j : Int) (by omega) (by omega)]; exact hO2_364.2 j hj)
                  have hG : gW K A s.heap [gRLC K ad, gBuf K (ad 1) (ad 12) (c2_364 : Int) B2_367, gScn K (ad 3) (ad 14) (ad 15) (ad 16) (ad 17) ou mi bo ln LF sn SF, gScn K (ad 4) (ad 18) (ad 19) (ad 20) (ad 21) ou_t mi_t bo_t ln_t LF_t sn_t SF_t, gPrsC K (ad 11) (ad 1) (ad 4) qp qs qk qn qo qb qe qf, gHisC K (ad 5) (ad 22) (0 : Int) 0, gQS K (ad 22) 6 (oP (fun _ => none)), gSb K nw9 b cap n F, gArr K N18 nw18 IX, gStO K st2_364 b2_364 c2_364 F2_364, gSOs K (fun _ => none) (List.range 6)] _ _ := hG
                  refine g_invV (As := []) (rest := []) (gs' := (fun u : Int × Int × Int × Int × (Int → Int) × Int × (Int → Int) × Int × Int × Int × Int × (Int → Int) × Int × (Int → Int) × Int × Int × Int × Int × Int × Int × Int × Int × SR => [gRLC K ad, gBuf K (ad 1) (ad 12) 0 B2_367, gScn K (ad 3) (ad 14) (ad 15) (ad 16) (ad 17) u.1 u.2.1 u.2.2.1 u.2.2.2.1 u.2.2.2.2.1 u.2.2.2.2.2.1 u.2.2.2.2.2.2.1, gScn K (ad 4) (ad 18) (ad 19) (ad 20) (ad 21) u.2.2.2.2.2.2.2.1 u.2.2.2.2.2.2.2.2.1 u.2.2.2.2.2.2.2.2.2.1 u.2.2.2.2.2.2.2.2.2.2.1 u.2.2.2.2.2.2.2.2.2.2.2.1 u.2.2.2.2.2.2.2.2.2.2.2.2.1 u.2.2.2.2.2.2.2.2.2.2.2.2.2.1, gPrsC K (ad 11) (ad 1) (ad 4) u.2.2.2.2.2.2.2.2.2.2.2.2.2.2.1 u.2.2.2.2.2.2.2.2.2.2.2.2.2.2.2.1 u.2.2.2.2.2.2.2.2.2.2.2.2.2.2.2.2.1 u.2.2.2.2.2.2.2.2.2.2.2.2.2.2.2.2.2.1 u.2.2.2.2.2.2.2.2.2.2.2.2.2.2.2.2.2.2.1 u.2.2.2.2.2.2.2.2.2.2.2.2.2.2.2.2.2.2.2.1 u.2.2.2.2.2.2.2.2.2.2.2.2.2.2.2.2.2.2.2.2.1 u.2.2.2.2.2.2.2.2.2.2.2.2.2.2.2.2.2.2.2.2.2.1, gHisC K (ad 5) (ad 22) (((0 : Int) + 1) % 6) (min (0 + 1) 6), gQS K (ad 22) 6 (oP (oup (fun _ => none) (0 : Int).toNat u.2.2.2.2.2.2.2.2.2.2.2.2.2.2.2.2.2.2.2.2.2.2)), gSb K nw9 b cap n F, gArr K N18 nw18 IX, gStO K st2_364 b2_364 c2_364 F2_364, gSOs K (oup (fun _ => none) (0 : Int).toNat u.2.2.2.2.2.2.2.2.2.2.2.2.2.2.2.2.2.2.2.2.2.2) (List.range 6)])) S C hG [0, 1, 2, 3, 4, 5, 6, 10] (c_load_yes l K ad ou mi bo ln LF sn SF N (0 : Int) 0 (fun _ => none) (c2_364 : Int) B2_367 qp qs qk qn qo qb qe qf ou_t mi_t bo_t ln_t LF_t sn_t SF_t M hS hN (by omega) (by omega) (by omega) hx8 hI.2.2.2.2.2.1) rfl rfl 0 rfl rfl (cwV 0 S.2.2.2.2 gL_load_X8_load rfl rfl rfl (by decide +kernel) ⟨Nat.le_of_ble_eq_true rfl, Nat.le_of_ble_eq_true rfl⟩) rfl hl.1 rfl (Nat.le_of_ble_eq_true rfl) dL_load_371 ⟨show (kc274 + 2) + 5 ≤ 66 by omega, show (ks274 + 644) + 129 ≤ 36643 by omega⟩ (fun _ => Nat.le_of_ble_eq_true rfl) (fun _ => rfl) (fun v u H locs hp hG => ?_)
                  obtain ⟨ou2_371, mi2_371, bo2_371, ln2_371, LF2_371, sn2_371, SF2_371, ou_t2_371, mi_t2_371, bo_t2_371, ln_t2_371, LF_t2_371, sn_t2_371, SF_t2_371, qp2_371, qs2_371, qk2_371, qn2_371, qo2_371, qb2_371, qe2_371, qf2_371, u9_371⟩ := u
                  obtain ⟨rfl, he_371, hS2_371, hu_371⟩ := hp
                  have he_371 : qe2_371 = 0 ∧ qf2_371 = -1 := he_371
                  have hS2_371 : ScOk M ou2_371 mi2_371 bo2_371 ln2_371 LF2_371 sn2_371 SF2_371 := hS2_371
                  have hu_371 : ScR N u9_371 := hu_371
                  have hG : gW K A s.heap [gRLC K ad, gBuf K (ad 1) (ad 12) 0 B2_367, gScn K (ad 3) (ad 14) (ad 15) (ad 16) (ad 17) ou2_371 mi2_371 bo2_371 ln2_371 LF2_371 sn2_371 SF2_371, gScn K (ad 4) (ad 18) (ad 19) (ad 20) (ad 21) ou_t2_371 mi_t2_371 bo_t2_371 ln_t2_371 LF_t2_371 sn_t2_371 SF_t2_371, gPrsC K (ad 11) (ad 1) (ad 4) qp2_371 qs2_371 qk2_371 qn2_371 qo2_371 qb2_371 qe2_371 qf2_371, gHisC K (ad 5) (ad 22) (((0 : Int) + 1) % 6) (min (0 + 1) 6), gQS K (ad 22) 6 (oP (oup (fun _ => none) (0 : Int).toNat u9_371)), gSb K nw9 b cap n F, gArr K N18 nw18 IX, gStO K st2_364 b2_364 c2_364 F2_364, gSOs K (oup (fun _ => none) (0 : Int).toNat u9_371) (List.range 6)] _ _ := hG
                  obtain ⟨i0, i1, i2, i3, i4, i5, i6⟩ := id hI
                  have i7 := i5.2.1
                  have i9 := i5.2.2.1
                  refine lv_iload_n S.1 S.2.1 dL_load_374 rfl (lv_at hl 2 rfl) ?_
                  refine g_icmp_ne (tgt := 430) S dL_load_375 (by decide) (by omega) (by omega) (fun q375 => ?_) (fun q375 => ?_)
                  · skip
                    omega
                  · skip
                    refine lv_aload_n S.1 S.2.1 dL_load_378 rfl (lv_at hl 0 rfl) ?_
                    refine g_invV (As := []) (rest := []) (gs' := (fun u : Unit => [gRLC K ad, gBuf K (ad 1) (ad 12) 0 B2_367, gScn K (ad 3) (ad 14) (ad 15) (ad 16) (ad 17) ou2_371 mi2_371 bo2_371 ln2_371 LF2_371 sn2_371 SF2_371, gScn K (ad 4) (ad 18) (ad 19) (ad 20) (ad 21) ou_t2_371 mi_t2_371 bo_t2_371 ln_t2_371 LF_t2_371 sn_t2_371 SF_t2_371, gPrsC K (ad 11) (ad 1) (ad 4) qp2_371 qs2_371 qk2_371 qn2_371 qo2_371 qb2_371 qe2_371 qf2_371, gHisC K (ad 5) (ad 22) (((0 : Int) + 1) % 6) (min (0 + 1) 6), gQS K (ad 22) 6 (oP (oup (fun _ => none) (0 : Int).toNat u9_371)), gSb K nw9 b cap n F, gArr K N18 nw18 IX, gStO K st2_364 b2_364 c2_364 F2_364, gSOs K (oup (fun _ => none) (0 : Int).toNat u9_371) (List.range 6)])) S C hG [0, 4] (c_X8_errorCode l K ad qp2_371 qs2_371 qk2_371 qn2_371 qo2_371 qb2_371 qe2_371 qf2_371) rfl rfl 0 rfl rfl (cwV 0 S.2.2.2.2 gL_load_X8_errorCode rfl rfl rfl (by decide +kernel) ⟨Nat.le_of_ble_eq_true rfl, Nat.le_of_ble_eq_true rfl⟩) rfl hl.1 rfl (Nat.le_of_ble_eq_true rfl) dL_load_379 ⟨show ((kc274 + 2) + 5) + 0 ≤ 66 by omega, show ((ks274 + 644) + 129) + 0 ≤ 36643 by omega⟩ (fun _ => Nat.le_of_ble_eq_true rfl) (fun _ => rfl) (fun v u H locs hp hG => ?_)
                    subst hp
                    refine g_if_ne (tgt := 430) S dL_load_382 (by decide) (by omega) (fun q382 => ?_) (fun q382 => ?_)
                    · skip
                      omega
                    · skip
                      refine lv_aload_n S.1 S.2.1 dL_load_385 rfl (lv_at hl 0 rfl) ?_
                      refine g_iconst S dL_load_386 ?_
                      refine g_invV (As := [.int (iI 0)]) (rest := []) (gs' := (fun u : Unit => [gRLC K ad, gBuf K (ad 1) (ad 12) 0 B2_367, gScn K (ad 3) (ad 14) (ad 15) (ad 16) (ad 17) ou2_371 mi2_371 bo2_371 ln2_371 LF2_371 sn2_371 SF2_371, gScn K (ad 4) (ad 18) (ad 19) (ad 20) (ad 21) ou_t2_371 mi_t2_371 bo_t2_371 ln_t2_371 LF_t2_371 sn_t2_371 SF_t2_371, gPrsC K (ad 11) (ad 1) (ad 4) qp2_371 qs2_371 qk2_371 qn2_371 qo2_371 qb2_371 qe2_371 qf2_371, gHisC K (ad 5) (ad 22) (((0 : Int) + 1) % 6) (min (0 + 1) 6), gQS K (ad 22) 6 (oP (oup (fun _ => none) (0 : Int).toNat u9_371)), gSb K nw9 b cap n F, gArr K N18 nw18 IX, gStO K st2_364 b2_364 c2_364 F2_364, gSOs K (oup (fun _ => none) (0 : Int).toNat u9_371) (List.range 6)])) S C hG [0, 2] (c_X8_property l K ad ou2_371 mi2_371 bo2_371 ln2_371 LF2_371 sn2_371 SF2_371 M 0 hS2_371 i5 (by omega)) rfl rfl 0 rfl rfl (cwV 1 S.2.2.2.2 gL_load_X8_property rfl rfl rfl (by decide +kernel) ⟨Nat.le_of_ble_eq_true rfl, Nat.le_of_ble_eq_true rfl⟩) rfl hl.1 rfl (Nat.le_of_ble_eq_true rfl) dL_load_387 ⟨show ((kc274 + 2) + 5) + 0 ≤ 66 by omega, show ((ks274 + 644) + 129) + 0 ≤ 36643 by omega⟩ (fun _ => Nat.le_of_ble_eq_true rfl) (fun _ => rfl) (fun v u H locs hp hG => ?_)
                      subst hp
                      refine g_top (w := .int (iI (M 0))) (congrArg (fun z : Int => Value.int (iI z)) (by first | rfl | exact if_neg (by decide))) ?_
                      refine lv_iload_n S.1 S.2.1 dL_load_390 rfl (lv_at hl 2 rfl) ?_
                      refine g_icmp_ne (tgt := 430) S dL_load_391 (by decide) (by omega) (by omega) (fun q391 => ?_) (fun q391 => ?_)
                      · skip
                        omega
                      · skip
                        refine lv_aload_n S.1 S.2.1 dL_load_394 rfl (lv_at hl 0 rfl) ?_
                        refine g_iconst S dL_load_395 ?_
                        refine g_invV (As := [.int (iI 4)]) (rest := []) (gs' := (fun u : Unit => [gRLC K ad, gBuf K (ad 1) (ad 12) 0 B2_367, gScn K (ad 3) (ad 14) (ad 15) (ad 16) (ad 17) ou2_371 mi2_371 bo2_371 ln2_371 LF2_371 sn2_371 SF2_371, gScn K (ad 4) (ad 18) (ad 19) (ad 20) (ad 21) ou_t2_371 mi_t2_371 bo_t2_371 ln_t2_371 LF_t2_371 sn_t2_371 SF_t2_371, gPrsC K (ad 11) (ad 1) (ad 4) qp2_371 qs2_371 qk2_371 qn2_371 qo2_371 qb2_371 qe2_371 qf2_371, gHisC K (ad 5) (ad 22) (((0 : Int) + 1) % 6) (min (0 + 1) 6), gQS K (ad 22) 6 (oP (oup (fun _ => none) (0 : Int).toNat u9_371)), gSb K nw9 b cap n F, gArr K N18 nw18 IX, gStO K st2_364 b2_364 c2_364 F2_364, gSOs K (oup (fun _ => none) (0 : Int).toNat u9_371) (List.range 6)])) S C hG [0, 2] (c_X8_property l K ad ou2_371 mi2_371 bo2_371 ln2_371 LF2_371 sn2_371 SF2_371 M 4 hS2_371 i5 (by omega)) rfl rfl 0 rfl rfl (cwV 1 S.2.2.2.2 gL_load_X8_property rfl rfl rfl (by decide +kernel) ⟨Nat.le_of_ble_eq_true rfl, Nat.le_of_ble_eq_true rfl⟩) rfl hl.1 rfl (Nat.le_of_ble_eq_true rfl) dL_load_396 ⟨show ((kc274 + 2) + 5) + 0 ≤ 66 by omega, show ((ks274 + 644) + 129) + 0 ≤ 36643 by omega⟩ (fun _ => Nat.le_of_ble_eq_true rfl) (fun _ => rfl) (fun v u H locs hp hG => ?_)
                        subst hp
                        refine g_top (w := .int (iI (M 4))) (congrArg (fun z : Int => Value.int (iI z)) (by first | rfl | exact if_neg (by decide))) ?_
                        refine lv_iload S.1 S.2.1 dL_load_399 (lv_at hl 8 rfl) ?_
                        refine g_icmp_ne (tgt := 430) S dL_load_401 (by decide) (by omega) (by omega) (fun q401 => ?_) (fun q401 => ?_)
                        · skip
                          omega
                        · skip
                          refine lv_aload_n S.1 S.2.1 dL_load_404 rfl (lv_at hl 0 rfl) ?_
                          refine g_iconst S dL_load_405 ?_
                          refine g_invV (As := [.int (iI 1)]) (rest := []) (gs' := (fun u : Unit => [gRLC K ad, gBuf K (ad 1) (ad 12) 0 B2_367, gScn K (ad 3) (ad 14) (ad 15) (ad 16) (ad 17) ou2_371 mi2_371 bo2_371 ln2_371 LF2_371 sn2_371 SF2_371, gScn K (ad 4) (ad 18) (ad 19) (ad 20) (ad 21) ou_t2_371 mi_t2_371 bo_t2_371 ln_t2_371 LF_t2_371 sn_t2_371 SF_t2_371, gPrsC K (ad 11) (ad 1) (ad 4) qp2_371 qs2_371 qk2_371 qn2_371 qo2_371 qb2_371 qe2_371 qf2_371, gHisC K (ad 5) (ad 22) (((0 : Int) + 1) % 6) (min (0 + 1) 6), gQS K (ad 22) 6 (oP (oup (fun _ => none) (0 : Int).toNat u9_371)), gSb K nw9 b cap n F, gArr K N18 nw18 IX, gStO K st2_364 b2_364 c2_364 F2_364, gSOs K (oup (fun _ => none) (0 : Int).toNat u9_371) (List.range 6)])) S C hG [0, 2] (c_X8_property l K ad ou2_371 mi2_371 bo2_371 ln2_371 LF2_371 sn2_371 SF2_371 M 1 hS2_371 i5 (by omega)) rfl rfl 0 rfl rfl (cwV 1 S.2.2.2.2 gL_load_X8_property rfl rfl rfl (by decide +kernel) ⟨Nat.le_of_ble_eq_true rfl, Nat.le_of_ble_eq_true rfl⟩) rfl hl.1 rfl (Nat.le_of_ble_eq_true rfl) dL_load_406 ⟨show ((kc274 + 2) + 5) + 0 ≤ 66 by omega, show ((ks274 + 644) + 129) + 0 ≤ 36643 by omega⟩ (fun _ => Nat.le_of_ble_eq_true rfl) (fun _ => rfl) (fun v u H locs hp hG => ?_)
                          subst hp
                          refine g_top (w := .int (iI (M 1))) (congrArg (fun z : Int => Value.int (iI z)) (by first | rfl | exact if_neg (by decide))) ?_
                          refine lv_aload_n S.1 S.2.1 dL_load_409 rfl (lv_at hl 1 rfl) ?_
                          refine g_bipush S dL_load_410 (by decide) ?_
                          refine g_iconst S dL_load_412 ?_
                          refine g_invS (As := [.ref (K.2.2.2.2 42), .int (iI 26), .int (iI 3)]) (rest := [.int (iI (M 1))]) (gs' := (fun u : Unit => [gRLC K ad, gBuf K (ad 1) (ad 12) 0 B2_367, gScn K (ad 3) (ad 14) (ad 15) (ad 16) (ad 17) ou2_371 mi2_371 bo2_371 ln2_371 LF2_371 sn2_371 SF2_371, gScn K (ad 4) (ad 18) (ad 19) (ad 20) (ad 21) ou_t2_371 mi_t2_371 bo_t2_371 ln_t2_371 LF_t2_371 sn_t2_371 SF_t2_371, gPrsC K (ad 11) (ad 1) (ad 4) qp2_371 qs2_371 qk2_371 qn2_371 qo2_371 qb2_371 qe2_371 qf2_371, gHisC K (ad 5) (ad 22) (((0 : Int) + 1) % 6) (min (0 + 1) 6), gQS K (ad 22) 6 (oP (oup (fun _ => none) (0 : Int).toNat u9_371)), gSb K nw9 b cap n F, gArr K N18 nw18 IX, gStO K st2_364 b2_364 c2_364 F2_364, gSOs K (oup (fun _ => none) (0 : Int).toNat u9_371) (List.range 6)])) S C hG [] (c_L_draw l K 26 3 (by omega) (by omega)) rfl rfl (va_cwS 3 S.2.2.2.2 gL_load_L_draw rfl rfl rfl (by decide +kernel) ⟨Nat.le_of_ble_eq_true rfl, Nat.le_of_ble_eq_true rfl⟩) rfl hl.1 rfl (Nat.le_of_ble_eq_true rfl) dL_load_413 ⟨show ((kc274 + 2) + 5) + 0 ≤ 66 by omega, show ((ks274 + 644) + 129) + 0 ≤ 36643 by omega⟩ (fun _ => Nat.le_of_ble_eq_true rfl) (fun _ => rfl) (fun v u H locs hp hG => ?_)
                          subst hp
                          have hd413 := drwN_bd K 26 (n := 3) (by omega)
                          refine g_if_ne (tgt := 424) S dL_load_416 (by decide) (by omega) (fun q416 => ?_) (fun q416 => ?_)
                          · skip
                            refine g_sipush S dL_load_424 (by decide) ?_
                            refine g_icmp_eq (tgt := 432) S dL_load_427 (by decide) (by omega) (by omega) (fun q427 => ?_) (fun q427 => ?_)
                            · skip
                              refine lv_aload_n S.1 S.2.1 dL_load_432 rfl (lv_at hl 0 rfl) ?_
                              refine g_iconst S dL_load_433 ?_
                              refine g_invV (As := [.int (iI 2)]) (rest := []) (gs' := (fun u : Unit => [gRLC K ad, gBuf K (ad 1) (ad 12) 0 B2_367, gScn K (ad 3) (ad 14) (ad 15) (ad 16) (ad 17) ou2_371 mi2_371 bo2_371 ln2_371 LF2_371 sn2_371 SF2_371, gScn K (ad 4) (ad 18) (ad 19) (ad 20) (ad 21) ou_t2_371 mi_t2_371 bo_t2_371 ln_t2_371 LF_t2_371 sn_t2_371 SF_t2_371, gPrsC K (ad 11) (ad 1) (ad 4) qp2_371 qs2_371 qk2_371 qn2_371 qo2_371 qb2_371 qe2_371 qf2_371, gHisC K (ad 5) (ad 22) (((0 : Int) + 1) % 6) (min (0 + 1) 6), gQS K (ad 22) 6 (oP (oup (fun _ => none) (0 : Int).toNat u9_371)), gSb K nw9 b cap n F, gArr K N18 nw18 IX, gStO K st2_364 b2_364 c2_364 F2_364, gSOs K (oup (fun _ => none) (0 : Int).toNat u9_371) (List.range 6)])) S C hG [0, 2] (c_X8_property l K ad ou2_371 mi2_371 bo2_371 ln2_371 LF2_371 sn2_371 SF2_371 M 2 hS2_371 i5 (by omega)) rfl rfl 0 rfl rfl (cwV 1 S.2.2.2.2 gL_load_X8_property rfl rfl rfl (by decide +kernel) ⟨Nat.le_of_ble_eq_true rfl, Nat.le_of_ble_eq_true rfl⟩) rfl hl.1 rfl (Nat.le_of_ble_eq_true rfl) dL_load_434 ⟨show ((kc274 + 2) + 5) + 0 ≤ 66 by omega, show ((ks274 + 644) + 129) + 0 ≤ 36643 by omega⟩ (fun _ => Nat.le_of_ble_eq_true rfl) (fun _ => rfl) (fun v u H locs hp hG => ?_)
                              subst hp
                              refine g_top (w := .int (iI (M 2))) (congrArg (fun z : Int => Value.int (iI z)) (by first | rfl | exact if_neg (by decide))) ?_
                              refine lv_iload S.1 S.2.1 dL_load_437 (lv_at hl 6 rfl) ?_
                              refine g_iconst S dL_load_439 ?_
                              refine g_icmp_ne (tgt := 447) S dL_load_440 (by decide) (by omega) (by omega) (fun q440 => ?_) (fun q440 => ?_)
                              · skip
                                refine g_iconst S dL_load_447 ?_
                                refine g_icmp_ne (tgt := 500) S dL_load_448 (by decide) (by omega) (by omega) (fun q448 => ?_) (fun q448 => ?_)
                                · skip
                                  omega
                                · skip
                                  refine lv_aload_n S.1 S.2.1 dL_load_451 rfl (lv_at hl 0 rfl) ?_
                                  refine g_iconst S dL_load_452 ?_
                                  refine g_invV (As := [.int (iI 3)]) (rest := []) (gs' := (fun u : Unit => [gRLC K ad, gBuf K (ad 1) (ad 12) 0 B2_367, gScn K (ad 3) (ad 14) (ad 15) (ad 16) (ad 17) ou2_371 mi2_371 bo2_371 ln2_371 LF2_371 sn2_371 SF2_371, gScn K (ad 4) (ad 18) (ad 19) (ad 20) (ad 21) ou_t2_371 mi_t2_371 bo_t2_371 ln_t2_371 LF_t2_371 sn_t2_371 SF_t2_371, gPrsC K (ad 11) (ad 1) (ad 4) qp2_371 qs2_371 qk2_371 qn2_371 qo2_371 qb2_371 qe2_371 qf2_371, gHisC K (ad 5) (ad 22) (((0 : Int) + 1) % 6) (min (0 + 1) 6), gQS K (ad 22) 6 (oP (oup (fun _ => none) (0 : Int).toNat u9_371)), gSb K nw9 b cap n F, gArr K N18 nw18 IX, gStO K st2_364 b2_364 c2_364 F2_364, gSOs K (oup (fun _ => none) (0 : Int).toNat u9_371) (List.range 6)])) S C hG [0, 2] (c_X8_property l K ad ou2_371 mi2_371 bo2_371 ln2_371 LF2_371 sn2_371 SF2_371 M 3 hS2_371 i5 (by omega)) rfl rfl 0 rfl rfl (cwV 1 S.2.2.2.2 gL_load_X8_property rfl rfl rfl (by decide +kernel) ⟨Nat.le_of_ble_eq_true rfl, Nat.le_of_ble_eq_true rfl⟩) rfl hl.1 rfl (Nat.le_of_ble_eq_true rfl) dL_load_453 ⟨show ((kc274 + 2) + 5) + 0 ≤ 66 by omega, show ((ks274 + 644) + 129) + 0 ≤ 36643 by omega⟩ (fun _ => Nat.le_of_ble_eq_true rfl) (fun _ => rfl) (fun v u H locs hp hG => ?_)
                                  subst hp
                                  refine g_top (w := .int (iI (M 3))) (congrArg (fun z : Int => Value.int (iI z)) (by first | rfl | exact if_neg (by decide))) ?_
                                  refine lv_iload S.1 S.2.1 dL_load_456 (lv_at hl 6 rfl) ?_
                                  refine g_iconst S dL_load_458 ?_
                                  refine g_icmp_eq (tgt := 468) S dL_load_459 (by decide) (by omega) (by omega) (fun q459 => ?_) (fun q459 => ?_)
                                  · skip
                                    omega
                                  · skip
                                    refine lv_iload S.1 S.2.1 dL_load_462 (lv_at hl 6 rfl) ?_
                                    refine g_iconst S dL_load_464 ?_
                                    refine g_icmp_ne (tgt := 473) S dL_load_465 (by decide) (by omega) (by omega) (fun q465 => ?_) (fun q465 => ?_)
                                    · skip
                                      refine g_sipush S dL_load_473 (by decide) ?_
                                      refine g_icmp_ne (tgt := 500) S dL_load_476 (by decide) (by omega) (by omega) (fun q476 => ?_) (fun q476 => ?_)
                                      · skip
                                        omega
                                      · skip
                                        have i8 : nX M (nl - 1) = IX (nl - 1) := (i6 (nl - 1) (by omega) (by omega)).1
                                        have ib8 := (i6 (nl - 1) (by omega) (by omega)).2
                                        refine lv_aload_n S.1 S.2.1 dL_load_479 rfl (lv_at hl 0 rfl) ?_
                                        refine lv_iload_n S.1 S.2.1 dL_load_480 rfl (lv_at hl 2 rfl) ?_
                                        refine g_iconst S dL_load_481 ?_
                                        refine g_isub S dL_load_482 rfl ?_
                                        refine g_iconst S dL_load_483 ?_
                                        refine g_invV (As := [.int (iI (nl - 1)), .int (iI 0)]) (rest := []) (gs' := (fun u : Unit => [gRLC K ad, gBuf K (ad 1) (ad 12) 0 B2_367, gScn K (ad 3) (ad 14) (ad 15) (ad 16) (ad 17) ou2_371 mi2_371 bo2_371 ln2_371 LF2_371 sn2_371 SF2_371, gScn K (ad 4) (ad 18) (ad 19) (ad 20) (ad 21) ou_t2_371 mi_t2_371 bo_t2_371 ln_t2_371 LF_t2_371 sn_t2_371 SF_t2_371, gPrsC K (ad 11) (ad 1) (ad 4) qp2_371 qs2_371 qk2_371 qn2_371 qo2_371 qb2_371 qe2_371 qf2_371, gHisC K (ad 5) (ad 22) (((0 : Int) + 1) % 6) (min (0 + 1) 6), gQS K (ad 22) 6 (oP (oup (fun _ => none) (0 : Int).toNat u9_371)), gSb K nw9 b cap n F, gArr K N18 nw18 IX, gStO K st2_364 b2_364 c2_364 F2_364, gSOs K (oup (fun _ => none) (0 : Int).toNat u9_371) (List.range 6)])) S C hG [0, 2] (c_X8_layer l K ad ou2_371 mi2_371 bo2_371 ln2_371 LF2_371 sn2_371 SF2_371 M (nl - 1) 0 hS2_371 i5 (by omega) (by omega) (by omega) (by omega)) rfl rfl 0 rfl rfl (cwV 2 S.2.2.2.2 gL_load_X8_layer rfl rfl rfl (by decide +kernel) ⟨Nat.le_of_ble_eq_true rfl, Nat.le_of_ble_eq_true rfl⟩) rfl hl.1 rfl (Nat.le_of_ble_eq_true rfl) dL_load_484 ⟨show ((kc274 + 2) + 5) + 0 ≤ 66 by omega, show ((ks274 + 644) + 129) + 0 ≤ 36643 by omega⟩ (fun _ => Nat.le_of_ble_eq_true rfl) (fun _ => rfl) (fun v u H locs hp hG => ?_)
                                        subst hp
                                        refine g_top (w := .int (iI (nX M (nl - 1)))) (congrArg (fun z : Int => Value.int (iI z)) (by first | rfl | exact if_neg (by decide))) ?_
                                        refine lv_aload S.1 S.2.1 dL_load_487 (lv_at hl 4 rfl) ?_
                                        refine lv_iload_n S.1 S.2.1 dL_load_489 rfl (lv_at hl 2 rfl) ?_
                                        refine g_iconst S dL_load_490 ?_
                                        refine g_isub S dL_load_491 rfl ?_
                                        refine g_iald S C hG 18 rfl (by omega) (by omega) (by omega) dL_load_492 ?_
                                        refine g_icmp_ne (tgt := 500) S dL_load_493 (by decide) (by omega) (by omega) (fun q493 => ?_) (fun q493 => ?_)
                                        · skip
                                          omega
                                        · skip
                                          refine g_iconst S dL_load_496 ?_
                                          refine lv_goto (tgt := 501) S.1 S.2.1 dL_load_497 (by decide) ?_
                                          have hG : gW K A s.heap [gRLC K ad, gScn K (ad 3) (ad 14) (ad 15) (ad 16) (ad 17) ou2_371 mi2_371 bo2_371 ln2_371 LF2_371 sn2_371 SF2_371, gScn K (ad 4) (ad 18) (ad 19) (ad 20) (ad 21) ou_t2_371 mi_t2_371 bo_t2_371 ln_t2_371 LF_t2_371 sn_t2_371 SF_t2_371, gHisC K (ad 5) (ad 22) (((0 : Int) + 1) % 6) (min (0 + 1) 6), gQS K (ad 22) 6 (oP (oup (fun _ => none) (0 : Int).toNat u9_371)), gSOs K (oup (fun _ => none) (0 : Int).toNat u9_371) (List.range 6)] _ _ := gW_pick [0, 2, 3, 5, 6, 10] rfl rfl hG
                                          have hG : gW K A s.heap [gRLC K ad, gScn K (ad 3) (ad 14) (ad 15) (ad 16) (ad 17) ou2_371 mi2_371 bo2_371 ln2_371 LF2_371 sn2_371 SF2_371, gScn K (ad 4) (ad 18) (ad 19) (ad 20) (ad 21) ou_t2_371 mi_t2_371 bo_t2_371 ln_t2_371 LF_t2_371 sn_t2_371 SF_t2_371, gHisC K (ad 5) (ad 22) (((0 : Int) + 1) % 6) (min (0 + 1) 6), gQS K (ad 22) 6 (oP (oup (fun _ => none) (0 : Int).toNat u9_371)), gSOs K (oup (fun _ => none) (0 : Int).toNat u9_371) (List.range 6)] _ _ := hG
                                          exact g_zret S hr hlk hQ (Or.inr rfl) dL_load_501 (by omega) (by omega) ((M, ou2_371, mi2_371, bo2_371, ln2_371, LF2_371, sn2_371, SF2_371, ou_t2_371, mi_t2_371, bo_t2_371, ln_t2_371, LF_t2_371, sn_t2_371, SF_t2_371, ((0 : Int) + 1) % 6, min (0 + 1) 6, (oup (fun _ => none) (0 : Int).toNat u9_371)) : (Int → Int) × Int × Int × Int × Int × (Int → Int) × Int × (Int → Int) × Int × Int × Int × Int × (Int → Int) × Int × (Int → Int) × Int × Int × (Nat → Option SR)) ⟨rfl, hS2_371, ⟨i5, by show 1 ≤ M 0; omega⟩, (by show (0 ≤ ((0 : Int) + 1) % 6 ∧ ((0 : Int) + 1) % 6 < 6) ∧ 0 ≤ min ((0 : Int) + 1) 6 ∧ min ((0 : Int) + 1) 6 ≤ 6; decide)⟩ hG
                                    · skip
                                      refine lv_iload S.1 S.2.1 dL_load_468 (lv_at hl 7 rfl) ?_
                                      refine lv_goto (tgt := 476) S.1 S.2.1 dL_load_470 (by decide) ?_
                                      refine g_icmp_ne (tgt := 500) S dL_load_476 (by decide) (by omega) (by omega) (fun q476 => ?_) (fun q476 => ?_)
                                      · skip
                                        omega
                                      · skip
                                        have i8 : nX M (nl - 1) = IX (nl - 1) := (i6 (nl - 1) (by omega) (by omega)).1
                                        have ib8 := (i6 (nl - 1) (by omega) (by omega)).2
                                        refine lv_aload_n S.1 S.2.1 dL_load_479 rfl (lv_at hl 0 rfl) ?_
                                        refine lv_iload_n S.1 S.2.1 dL_load_480 rfl (lv_at hl 2 rfl) ?_
                                        refine g_iconst S dL_load_481 ?_
                                        refine g_isub S dL_load_482 rfl ?_
                                        refine g_iconst S dL_load_483 ?_
                                        refine g_invV (As := [.int (iI (nl - 1)), .int (iI 0)]) (rest := []) (gs' := (fun u : Unit => [gRLC K ad, gBuf K (ad 1) (ad 12) 0 B2_367, gScn K (ad 3) (ad 14) (ad 15) (ad 16) (ad 17) ou2_371 mi2_371 bo2_371 ln2_371 LF2_371 sn2_371 SF2_371, gScn K (ad 4) (ad 18) (ad 19) (ad 20) (ad 21) ou_t2_371 mi_t2_371 bo_t2_371 ln_t2_371 LF_t2_371 sn_t2_371 SF_t2_371, gPrsC K (ad 11) (ad 1) (ad 4) qp2_371 qs2_371 qk2_371 qn2_371 qo2_371 qb2_371 qe2_371 qf2_371, gHisC K (ad 5) (ad 22) (((0 : Int) + 1) % 6) (min (0 + 1) 6), gQS K (ad 22) 6 (oP (oup (fun _ => none) (0 : Int).toNat u9_371)), gSb K nw9 b cap n F, gArr K N18 nw18 IX, gStO K st2_364 b2_364 c2_364 F2_364, gSOs K (oup (fun _ => none) (0 : Int).toNat u9_371) (List.range 6)])) S C hG [0, 2] (c_X8_layer l K ad ou2_371 mi2_371 bo2_371 ln2_371 LF2_371 sn2_371 SF2_371 M (nl - 1) 0 hS2_371 i5 (by omega) (by omega) (by omega) (by omega)) rfl rfl 0 rfl rfl (cwV 2 S.2.2.2.2 gL_load_X8_layer rfl rfl rfl (by decide +kernel) ⟨Nat.le_of_ble_eq_true rfl, Nat.le_of_ble_eq_true rfl⟩) rfl hl.1 rfl (Nat.le_of_ble_eq_true rfl) dL_load_484 ⟨show ((kc274 + 2) + 5) + 0 ≤ 66 by omega, show ((ks274 + 644) + 129) + 0 ≤ 36643 by omega⟩ (fun _ => Nat.le_of_ble_eq_true rfl) (fun _ => rfl) (fun v u H locs hp hG => ?_)
                                        subst hp
                                        refine g_top (w := .int (iI (nX M (nl - 1)))) (congrArg (fun z : Int => Value.int (iI z)) (by first | rfl | exact if_neg (by decide))) ?_
                                        refine lv_aload S.1 S.2.1 dL_load_487 (lv_at hl 4 rfl) ?_
                                        refine lv_iload_n S.1 S.2.1 dL_load_489 rfl (lv_at hl 2 rfl) ?_
                                        refine g_iconst S dL_load_490 ?_
                                        refine g_isub S dL_load_491 rfl ?_
                                        refine g_iald S C hG 18 rfl (by omega) (by omega) (by omega) dL_load_492 ?_
                                        refine g_icmp_ne (tgt := 500) S dL_load_493 (by decide) (by omega) (by omega) (fun q493 => ?_) (fun q493 => ?_)
                                        · skip
                                          omega
                                        · skip
                                          refine g_iconst S dL_load_496 ?_
                                          refine lv_goto (tgt := 501) S.1 S.2.1 dL_load_497 (by decide) ?_
                                          have hG : gW K A s.heap [gRLC K ad, gScn K (ad 3) (ad 14) (ad 15) (ad 16) (ad 17) ou2_371 mi2_371 bo2_371 ln2_371 LF2_371 sn2_371 SF2_371, gScn K (ad 4) (ad 18) (ad 19) (ad 20) (ad 21) ou_t2_371 mi_t2_371 bo_t2_371 ln_t2_371 LF_t2_371 sn_t2_371 SF_t2_371, gHisC K (ad 5) (ad 22) (((0 : Int) + 1) % 6) (min (0 + 1) 6), gQS K (ad 22) 6 (oP (oup (fun _ => none) (0 : Int).toNat u9_371)), gSOs K (oup (fun _ => none) (0 : Int).toNat u9_371) (List.range 6)] _ _ := gW_pick [0, 2, 3, 5, 6, 10] rfl rfl hG
                                          have hG : gW K A s.heap [gRLC K ad, gScn K (ad 3) (ad 14) (ad 15) (ad 16) (ad 17) ou2_371 mi2_371 bo2_371 ln2_371 LF2_371 sn2_371 SF2_371, gScn K (ad 4) (ad 18) (ad 19) (ad 20) (ad 21) ou_t2_371 mi_t2_371 bo_t2_371 ln_t2_371 LF_t2_371 sn_t2_371 SF_t2_371, gHisC K (ad 5) (ad 22) (((0 : Int) + 1) % 6) (min (0 + 1) 6), gQS K (ad 22) 6 (oP (oup (fun _ => none) (0 : Int).toNat u9_371)), gSOs K (oup (fun _ => none) (0 : Int).toNat u9_371) (List.range 6)] _ _ := hG
                                          exact g_zret S hr hlk hQ (Or.inr rfl) dL_load_501 (by omega) (by omega) ((M, ou2_371, mi2_371, bo2_371, ln2_371, LF2_371, sn2_371, SF2_371, ou_t2_371, mi_t2_371, bo_t2_371, ln_t2_371, LF_t2_371, sn_t2_371, SF_t2_371, ((0 : Int) + 1) % 6, min (0 + 1) 6, (oup (fun _ => none) (0 : Int).toNat u9_371)) : (Int → Int) × Int × Int × Int × Int × (Int → Int) × Int × (Int → Int) × Int × Int × Int × Int × (Int → Int) × Int × (Int → Int) × Int × Int × (Nat → Option SR)) ⟨rfl, hS2_371, ⟨i5, by show 1 ≤ M 0; omega⟩, (by show (0 ≤ ((0 : Int) + 1) % 6 ∧ ((0 : Int) + 1) % 6 < 6) ∧ 0 ≤ min ((0 : Int) + 1) 6 ∧ min ((0 : Int) + 1) 6 ≤ 6; decide)⟩ hG
                              · skip
                                refine g_iconst S dL_load_443 ?_
                                refine lv_goto (tgt := 448) S.1 S.2.1 dL_load_444 (by decide) ?_
                                refine g_icmp_ne (tgt := 500) S dL_load_448 (by decide) (by omega) (by omega) (fun q448 => ?_) (fun q448 => ?_)
                                · skip
                                  omega
                                · skip
                                  refine lv_aload_n S.1 S.2.1 dL_load_451 rfl (lv_at hl 0 rfl) ?_
                                  refine g_iconst S dL_load_452 ?_
                                  refine g_invV (As := [.int (iI 3)]) (rest := []) (gs' := (fun u : Unit => [gRLC K ad, gBuf K (ad 1) (ad 12) 0 B2_367, gScn K (ad 3) (ad 14) (ad 15) (ad 16) (ad 17) ou2_371 mi2_371 bo2_371 ln2_371 LF2_371 sn2_371 SF2_371, gScn K (ad 4) (ad 18) (ad 19) (ad 20) (ad 21) ou_t2_371 mi_t2_371 bo_t2_371 ln_t2_371 LF_t2_371 sn_t2_371 SF_t2_371, gPrsC K (ad 11) (ad 1) (ad 4) qp2_371 qs2_371 qk2_371 qn2_371 qo2_371 qb2_371 qe2_371 qf2_371, gHisC K (ad 5) (ad 22) (((0 : Int) + 1) % 6) (min (0 + 1) 6), gQS K (ad 22) 6 (oP (oup (fun _ => none) (0 : Int).toNat u9_371)), gSb K nw9 b cap n F, gArr K N18 nw18 IX, gStO K st2_364 b2_364 c2_364 F2_364, gSOs K (oup (fun _ => none) (0 : Int).toNat u9_371) (List.range 6)])) S C hG [0, 2] (c_X8_property l K ad ou2_371 mi2_371 bo2_371 ln2_371 LF2_371 sn2_371 SF2_371 M 3 hS2_371 i5 (by omega)) rfl rfl 0 rfl rfl (cwV 1 S.2.2.2.2 gL_load_X8_property rfl rfl rfl (by decide +kernel) ⟨Nat.le_of_ble_eq_true rfl, Nat.le_of_ble_eq_true rfl⟩) rfl hl.1 rfl (Nat.le_of_ble_eq_true rfl) dL_load_453 ⟨show ((kc274 + 2) + 5) + 0 ≤ 66 by omega, show ((ks274 + 644) + 129) + 0 ≤ 36643 by omega⟩ (fun _ => Nat.le_of_ble_eq_true rfl) (fun _ => rfl) (fun v u H locs hp hG => ?_)
                                  subst hp
                                  refine g_top (w := .int (iI (M 3))) (congrArg (fun z : Int => Value.int (iI z)) (by first | rfl | exact if_neg (by decide))) ?_
                                  refine lv_iload S.1 S.2.1 dL_load_456 (lv_at hl 6 rfl) ?_
                                  refine g_iconst S dL_load_458 ?_
                                  refine g_icmp_eq (tgt := 468) S dL_load_459 (by decide) (by omega) (by omega) (fun q459 => ?_) (fun q459 => ?_)
                                  · skip
                                    refine lv_iload S.1 S.2.1 dL_load_468 (lv_at hl 7 rfl) ?_
                                    refine lv_goto (tgt := 476) S.1 S.2.1 dL_load_470 (by decide) ?_
                                    refine g_icmp_ne (tgt := 500) S dL_load_476 (by decide) (by omega) (by omega) (fun q476 => ?_) (fun q476 => ?_)
                                    · skip
                                      omega
                                    · skip
                                      have i8 : nX M (nl - 1) = IX (nl - 1) := (i6 (nl - 1) (by omega) (by omega)).1
                                      have ib8 := (i6 (nl - 1) (by omega) (by omega)).2
                                      refine lv_aload_n S.1 S.2.1 dL_load_479 rfl (lv_at hl 0 rfl) ?_
                                      refine lv_iload_n S.1 S.2.1 dL_load_480 rfl (lv_at hl 2 rfl) ?_
                                      refine g_iconst S dL_load_481 ?_
                                      refine g_isub S dL_load_482 rfl ?_
                                      refine g_iconst S dL_load_483 ?_
                                      refine g_invV (As := [.int (iI (nl - 1)), .int (iI 0)]) (rest := []) (gs' := (fun u : Unit => [gRLC K ad, gBuf K (ad 1) (ad 12) 0 B2_367, gScn K (ad 3) (ad 14) (ad 15) (ad 16) (ad 17) ou2_371 mi2_371 bo2_371 ln2_371 LF2_371 sn2_371 SF2_371, gScn K (ad 4) (ad 18) (ad 19) (ad 20) (ad 21) ou_t2_371 mi_t2_371 bo_t2_371 ln_t2_371 LF_t2_371 sn_t2_371 SF_t2_371, gPrsC K (ad 11) (ad 1) (ad 4) qp2_371 qs2_371 qk2_371 qn2_371 qo2_371 qb2_371 qe2_371 qf2_371, gHisC K (ad 5) (ad 22) (((0 : Int) + 1) % 6) (min (0 + 1) 6), gQS K (ad 22) 6 (oP (oup (fun _ => none) (0 : Int).toNat u9_371)), gSb K nw9 b cap n F, gArr K N18 nw18 IX, gStO K st2_364 b2_364 c2_364 F2_364, gSOs K (oup (fun _ => none) (0 : Int).toNat u9_371) (List.range 6)])) S C hG [0, 2] (c_X8_layer l K ad ou2_371 mi2_371 bo2_371 ln2_371 LF2_371 sn2_371 SF2_371 M (nl - 1) 0 hS2_371 i5 (by omega) (by omega) (by omega) (by omega)) rfl rfl 0 rfl rfl (cwV 2 S.2.2.2.2 gL_load_X8_layer rfl rfl rfl (by decide +kernel) ⟨Nat.le_of_ble_eq_true rfl, Nat.le_of_ble_eq_true rfl⟩) rfl hl.1 rfl (Nat.le_of_ble_eq_true rfl) dL_load_484 ⟨show ((kc274 + 2) + 5) + 0 ≤ 66 by omega, show ((ks274 + 644) + 129) + 0 ≤ 36643 by omega⟩ (fun _ => Nat.le_of_ble_eq_true rfl) (fun _ => rfl) (fun v u H locs hp hG => ?_)
                                      subst hp
                                      refine g_top (w := .int (iI (nX M (nl - 1)))) (congrArg (fun z : Int => Value.int (iI z)) (by first | rfl | exact if_neg (by decide))) ?_
                                      refine lv_aload S.1 S.2.1 dL_load_487 (lv_at hl 4 rfl) ?_
                                      refine lv_iload_n S.1 S.2.1 dL_load_489 rfl (lv_at hl 2 rfl) ?_
                                      refine g_iconst S dL_load_490 ?_
                                      refine g_isub S dL_load_491 rfl ?_
                                      refine g_iald S C hG 18 rfl (by omega) (by omega) (by omega) dL_load_492 ?_
                                      refine g_icmp_ne (tgt := 500) S dL_load_493 (by decide) (by omega) (by omega) (fun q493 => ?_) (fun q493 => ?_)
                                      · skip
                                        omega
                                      · skip
                                        refine g_iconst S dL_load_496 ?_
                                        refine lv_goto (tgt := 501) S.1 S.2.1 dL_load_497 (by decide) ?_
                                        have hG : gW K A s.heap [gRLC K ad, gScn K (ad 3) (ad 14) (ad 15) (ad 16) (ad 17) ou2_371 mi2_371 bo2_371 ln2_371 LF2_371 sn2_371 SF2_371, gScn K (ad 4) (ad 18) (ad 19) (ad 20) (ad 21) ou_t2_371 mi_t2_371 bo_t2_371 ln_t2_371 LF_t2_371 sn_t2_371 SF_t2_371, gHisC K (ad 5) (ad 22) (((0 : Int) + 1) % 6) (min (0 + 1) 6), gQS K (ad 22) 6 (oP (oup (fun _ => none) (0 : Int).toNat u9_371)), gSOs K (oup (fun _ => none) (0 : Int).toNat u9_371) (List.range 6)] _ _ := gW_pick [0, 2, 3, 5, 6, 10] rfl rfl hG
                                        have hG : gW K A s.heap [gRLC K ad, gScn K (ad 3) (ad 14) (ad 15) (ad 16) (ad 17) ou2_371 mi2_371 bo2_371 ln2_371 LF2_371 sn2_371 SF2_371, gScn K (ad 4) (ad 18) (ad 19) (ad 20) (ad 21) ou_t2_371 mi_t2_371 bo_t2_371 ln_t2_371 LF_t2_371 sn_t2_371 SF_t2_371, gHisC K (ad 5) (ad 22) (((0 : Int) + 1) % 6) (min (0 + 1) 6), gQS K (ad 22) 6 (oP (oup (fun _ => none) (0 : Int).toNat u9_371)), gSOs K (oup (fun _ => none) (0 : Int).toNat u9_371) (List.range 6)] _ _ := hG
                                        exact g_zret S hr hlk hQ (Or.inr rfl) dL_load_501 (by omega) (by omega) ((M, ou2_371, mi2_371, bo2_371, ln2_371, LF2_371, sn2_371, SF2_371, ou_t2_371, mi_t2_371, bo_t2_371, ln_t2_371, LF_t2_371, sn_t2_371, SF_t2_371, ((0 : Int) + 1) % 6, min (0 + 1) 6, (oup (fun _ => none) (0 : Int).toNat u9_371)) : (Int → Int) × Int × Int × Int × Int × (Int → Int) × Int × (Int → Int) × Int × Int × Int × Int × (Int → Int) × Int × (Int → Int) × Int × Int × (Nat → Option SR)) ⟨rfl, hS2_371, ⟨i5, by show 1 ≤ M 0; omega⟩, (by show (0 ≤ ((0 : Int) + 1) % 6 ∧ ((0 : Int) + 1) % 6 < 6) ∧ 0 ≤ min ((0 : Int) + 1) 6 ∧ min ((0 : Int) + 1) 6 ≤ 6; decide)⟩ hG
                                  · skip
                                    omega
                            · skip
                              omega
                          · skip
                            refine lv_iload S.1 S.2.1 dL_load_419 (lv_at hl 5 rfl) ?_
                            refine lv_goto (tgt := 427) S.1 S.2.1 dL_load_421 (by decide) ?_
                            refine g_icmp_eq (tgt := 432) S dL_load_427 (by decide) (by omega) (by omega) (fun q427 => ?_) (fun q427 => ?_)
                            · skip
                              refine lv_aload_n S.1 S.2.1 dL_load_432 rfl (lv_at hl 0 rfl) ?_
                              refine g_iconst S dL_load_433 ?_
                              refine g_invV (As := [.int (iI 2)]) (rest := []) (gs' := (fun u : Unit => [gRLC K ad, gBuf K (ad 1) (ad 12) 0 B2_367, gScn K (ad 3) (ad 14) (ad 15) (ad 16) (ad 17) ou2_371 mi2_371 bo2_371 ln2_371 LF2_371 sn2_371 SF2_371, gScn K (ad 4) (ad 18) (ad 19) (ad 20) (ad 21) ou_t2_371 mi_t2_371 bo_t2_371 ln_t2_371 LF_t2_371 sn_t2_371 SF_t2_371, gPrsC K (ad 11) (ad 1) (ad 4) qp2_371 qs2_371 qk2_371 qn2_371 qo2_371 qb2_371 qe2_371 qf2_371, gHisC K (ad 5) (ad 22) (((0 : Int) + 1) % 6) (min (0 + 1) 6), gQS K (ad 22) 6 (oP (oup (fun _ => none) (0 : Int).toNat u9_371)), gSb K nw9 b cap n F, gArr K N18 nw18 IX, gStO K st2_364 b2_364 c2_364 F2_364, gSOs K (oup (fun _ => none) (0 : Int).toNat u9_371) (List.range 6)])) S C hG [0, 2] (c_X8_property l K ad ou2_371 mi2_371 bo2_371 ln2_371 LF2_371 sn2_371 SF2_371 M 2 hS2_371 i5 (by omega)) rfl rfl 0 rfl rfl (cwV 1 S.2.2.2.2 gL_load_X8_property rfl rfl rfl (by decide +kernel) ⟨Nat.le_of_ble_eq_true rfl, Nat.le_of_ble_eq_true rfl⟩) rfl hl.1 rfl (Nat.le_of_ble_eq_true rfl) dL_load_434 ⟨show ((kc274 + 2) + 5) + 0 ≤ 66 by omega, show ((ks274 + 644) + 129) + 0 ≤ 36643 by omega⟩ (fun _ => Nat.le_of_ble_eq_true rfl) (fun _ => rfl) (fun v u H locs hp hG => ?_)
                              subst hp
                              refine g_top (w := .int (iI (M 2))) (congrArg (fun z : Int => Value.int (iI z)) (by first | rfl | exact if_neg (by decide))) ?_
                              refine lv_iload S.1 S.2.1 dL_load_437 (lv_at hl 6 rfl) ?_
                              refine g_iconst S dL_load_439 ?_
                              refine g_icmp_ne (tgt := 447) S dL_load_440 (by decide) (by omega) (by omega) (fun q440 => ?_) (fun q440 => ?_)
                              · skip
                                refine g_iconst S dL_load_447 ?_
                                refine g_icmp_ne (tgt := 500) S dL_load_448 (by decide) (by omega) (by omega) (fun q448 => ?_) (fun q448 => ?_)
                                · skip
                                  omega
                                · skip
                                  refine lv_aload_n S.1 S.2.1 dL_load_451 rfl (lv_at hl 0 rfl) ?_
                                  refine g_iconst S dL_load_452 ?_
                                  refine g_invV (As := [.int (iI 3)]) (rest := []) (gs' := (fun u : Unit => [gRLC K ad, gBuf K (ad 1) (ad 12) 0 B2_367, gScn K (ad 3) (ad 14) (ad 15) (ad 16) (ad 17) ou2_371 mi2_371 bo2_371 ln2_371 LF2_371 sn2_371 SF2_371, gScn K (ad 4) (ad 18) (ad 19) (ad 20) (ad 21) ou_t2_371 mi_t2_371 bo_t2_371 ln_t2_371 LF_t2_371 sn_t2_371 SF_t2_371, gPrsC K (ad 11) (ad 1) (ad 4) qp2_371 qs2_371 qk2_371 qn2_371 qo2_371 qb2_371 qe2_371 qf2_371, gHisC K (ad 5) (ad 22) (((0 : Int) + 1) % 6) (min (0 + 1) 6), gQS K (ad 22) 6 (oP (oup (fun _ => none) (0 : Int).toNat u9_371)), gSb K nw9 b cap n F, gArr K N18 nw18 IX, gStO K st2_364 b2_364 c2_364 F2_364, gSOs K (oup (fun _ => none) (0 : Int).toNat u9_371) (List.range 6)])) S C hG [0, 2] (c_X8_property l K ad ou2_371 mi2_371 bo2_371 ln2_371 LF2_371 sn2_371 SF2_371 M 3 hS2_371 i5 (by omega)) rfl rfl 0 rfl rfl (cwV 1 S.2.2.2.2 gL_load_X8_property rfl rfl rfl (by decide +kernel) ⟨Nat.le_of_ble_eq_true rfl, Nat.le_of_ble_eq_true rfl⟩) rfl hl.1 rfl (Nat.le_of_ble_eq_true rfl) dL_load_453 ⟨show ((kc274 + 2) + 5) + 0 ≤ 66 by omega, show ((ks274 + 644) + 129) + 0 ≤ 36643 by omega⟩ (fun _ => Nat.le_of_ble_eq_true rfl) (fun _ => rfl) (fun v u H locs hp hG => ?_)
                                  subst hp
                                  refine g_top (w := .int (iI (M 3))) (congrArg (fun z : Int => Value.int (iI z)) (by first | rfl | exact if_neg (by decide))) ?_
                                  refine lv_iload S.1 S.2.1 dL_load_456 (lv_at hl 6 rfl) ?_
                                  refine g_iconst S dL_load_458 ?_
                                  refine g_icmp_eq (tgt := 468) S dL_load_459 (by decide) (by omega) (by omega) (fun q459 => ?_) (fun q459 => ?_)
                                  · skip
                                    omega
                                  · skip
                                    refine lv_iload S.1 S.2.1 dL_load_462 (lv_at hl 6 rfl) ?_
                                    refine g_iconst S dL_load_464 ?_
                                    refine g_icmp_ne (tgt := 473) S dL_load_465 (by decide) (by omega) (by omega) (fun q465 => ?_) (fun q465 => ?_)
                                    · skip
                                      refine g_sipush S dL_load_473 (by decide) ?_
                                      refine g_icmp_ne (tgt := 500) S dL_load_476 (by decide) (by omega) (by omega) (fun q476 => ?_) (fun q476 => ?_)
                                      · skip
                                        omega
                                      · skip
                                        have i8 : nX M (nl - 1) = IX (nl - 1) := (i6 (nl - 1) (by omega) (by omega)).1
                                        have ib8 := (i6 (nl - 1) (by omega) (by omega)).2
                                        refine lv_aload_n S.1 S.2.1 dL_load_479 rfl (lv_at hl 0 rfl) ?_
                                        refine lv_iload_n S.1 S.2.1 dL_load_480 rfl (lv_at hl 2 rfl) ?_
                                        refine g_iconst S dL_load_481 ?_
                                        refine g_isub S dL_load_482 rfl ?_
                                        refine g_iconst S dL_load_483 ?_
                                        refine g_invV (As := [.int (iI (nl - 1)), .int (iI 0)]) (rest := []) (gs' := (fun u : Unit => [gRLC K ad, gBuf K (ad 1) (ad 12) 0 B2_367, gScn K (ad 3) (ad 14) (ad 15) (ad 16) (ad 17) ou2_371 mi2_371 bo2_371 ln2_371 LF2_371 sn2_371 SF2_371, gScn K (ad 4) (ad 18) (ad 19) (ad 20) (ad 21) ou_t2_371 mi_t2_371 bo_t2_371 ln_t2_371 LF_t2_371 sn_t2_371 SF_t2_371, gPrsC K (ad 11) (ad 1) (ad 4) qp2_371 qs2_371 qk2_371 qn2_371 qo2_371 qb2_371 qe2_371 qf2_371, gHisC K (ad 5) (ad 22) (((0 : Int) + 1) % 6) (min (0 + 1) 6), gQS K (ad 22) 6 (oP (oup (fun _ => none) (0 : Int).toNat u9_371)), gSb K nw9 b cap n F, gArr K N18 nw18 IX, gStO K st2_364 b2_364 c2_364 F2_364, gSOs K (oup (fun _ => none) (0 : Int).toNat u9_371) (List.range 6)])) S C hG [0, 2] (c_X8_layer l K ad ou2_371 mi2_371 bo2_371 ln2_371 LF2_371 sn2_371 SF2_371 M (nl - 1) 0 hS2_371 i5 (by omega) (by omega) (by omega) (by omega)) rfl rfl 0 rfl rfl (cwV 2 S.2.2.2.2 gL_load_X8_layer rfl rfl rfl (by decide +kernel) ⟨Nat.le_of_ble_eq_true rfl, Nat.le_of_ble_eq_true rfl⟩) rfl hl.1 rfl (Nat.le_of_ble_eq_true rfl) dL_load_484 ⟨show ((kc274 + 2) + 5) + 0 ≤ 66 by omega, show ((ks274 + 644) + 129) + 0 ≤ 36643 by omega⟩ (fun _ => Nat.le_of_ble_eq_true rfl) (fun _ => rfl) (fun v u H locs hp hG => ?_)
                                        subst hp
                                        refine g_top (w := .int (iI (nX M (nl - 1)))) (congrArg (fun z : Int => Value.int (iI z)) (by first | rfl | exact if_neg (by decide))) ?_
                                        refine lv_aload S.1 S.2.1 dL_load_487 (lv_at hl 4 rfl) ?_
                                        refine lv_iload_n S.1 S.2.1 dL_load_489 rfl (lv_at hl 2 rfl) ?_
                                        refine g_iconst S dL_load_490 ?_
                                        refine g_isub S dL_load_491 rfl ?_
                                        refine g_iald S C hG 18 rfl (by omega) (by omega) (by omega) dL_load_492 ?_
                                        refine g_icmp_ne (tgt := 500) S dL_load_493 (by decide) (by omega) (by omega) (fun q493 => ?_) (fun q493 => ?_)
                                        · skip
                                          omega
                                        · skip
                                          refine g_iconst S dL_load_496 ?_
                                          refine lv_goto (tgt := 501) S.1 S.2.1 dL_load_497 (by decide) ?_
                                          have hG : gW K A s.heap [gRLC K ad, gScn K (ad 3) (ad 14) (ad 15) (ad 16) (ad 17) ou2_371 mi2_371 bo2_371 ln2_371 LF2_371 sn2_371 SF2_371, gScn K (ad 4) (ad 18) (ad 19) (ad 20) (ad 21) ou_t2_371 mi_t2_371 bo_t2_371 ln_t2_371 LF_t2_371 sn_t2_371 SF_t2_371, gHisC K (ad 5) (ad 22) (((0 : Int) + 1) % 6) (min (0 + 1) 6), gQS K (ad 22) 6 (oP (oup (fun _ => none) (0 : Int).toNat u9_371)), gSOs K (oup (fun _ => none) (0 : Int).toNat u9_371) (List.range 6)] _ _ := gW_pick [0, 2, 3, 5, 6, 10] rfl rfl hG
                                          have hG : gW K A s.heap [gRLC K ad, gScn K (ad 3) (ad 14) (ad 15) (ad 16) (ad 17) ou2_371 mi2_371 bo2_371 ln2_371 LF2_371 sn2_371 SF2_371, gScn K (ad 4) (ad 18) (ad 19) (ad 20) (ad 21) ou_t2_371 mi_t2_371 bo_t2_371 ln_t2_371 LF_t2_371 sn_t2_371 SF_t2_371, gHisC K (ad 5) (ad 22) (((0 : Int) + 1) % 6) (min (0 + 1) 6), gQS K (ad 22) 6 (oP (oup (fun _ => none) (0 : Int).toNat u9_371)), gSOs K (oup (fun _ => none) (0 : Int).toNat u9_371) (List.range 6)] _ _ := hG
                                          exact g_zret S hr hlk hQ (Or.inr rfl) dL_load_501 (by omega) (by omega) ((M, ou2_371, mi2_371, bo2_371, ln2_371, LF2_371, sn2_371, SF2_371, ou_t2_371, mi_t2_371, bo_t2_371, ln_t2_371, LF_t2_371, sn_t2_371, SF_t2_371, ((0 : Int) + 1) % 6, min (0 + 1) 6, (oup (fun _ => none) (0 : Int).toNat u9_371)) : (Int → Int) × Int × Int × Int × Int × (Int → Int) × Int × (Int → Int) × Int × Int × Int × Int × (Int → Int) × Int × (Int → Int) × Int × Int × (Nat → Option SR)) ⟨rfl, hS2_371, ⟨i5, by show 1 ≤ M 0; omega⟩, (by show (0 ≤ ((0 : Int) + 1) % 6 ∧ ((0 : Int) + 1) % 6 < 6) ∧ 0 ≤ min ((0 : Int) + 1) 6 ∧ min ((0 : Int) + 1) 6 ≤ 6; decide)⟩ hG
                                    · skip
                                      refine lv_iload S.1 S.2.1 dL_load_468 (lv_at hl 7 rfl) ?_
                                      refine lv_goto (tgt := 476) S.1 S.2.1 dL_load_470 (by decide) ?_
                                      refine g_icmp_ne (tgt := 500) S dL_load_476 (by decide) (by omega) (by omega) (fun q476 => ?_) (fun q476 => ?_)
                                      · skip
                                        omega
                                      · skip
                                        have i8 : nX M (nl - 1) = IX (nl - 1) := (i6 (nl - 1) (by omega) (by omega)).1
                                        have ib8 := (i6 (nl - 1) (by omega) (by omega)).2
                                        refine lv_aload_n S.1 S.2.1 dL_load_479 rfl (lv_at hl 0 rfl) ?_
                                        refine lv_iload_n S.1 S.2.1 dL_load_480 rfl (lv_at hl 2 rfl) ?_
                                        refine g_iconst S dL_load_481 ?_
                                        refine g_isub S dL_load_482 rfl ?_
                                        refine g_iconst S dL_load_483 ?_
                                        refine g_invV (As := [.int (iI (nl - 1)), .int (iI 0)]) (rest := []) (gs' := (fun u : Unit => [gRLC K ad, gBuf K (ad 1) (ad 12) 0 B2_367, gScn K (ad 3) (ad 14) (ad 15) (ad 16) (ad 17) ou2_371 mi2_371 bo2_371 ln2_371 LF2_371 sn2_371 SF2_371, gScn K (ad 4) (ad 18) (ad 19) (ad 20) (ad 21) ou_t2_371 mi_t2_371 bo_t2_371 ln_t2_371 LF_t2_371 sn_t2_371 SF_t2_371, gPrsC K (ad 11) (ad 1) (ad 4) qp2_371 qs2_371 qk2_371 qn2_371 qo2_371 qb2_371 qe2_371 qf2_371, gHisC K (ad 5) (ad 22) (((0 : Int) + 1) % 6) (min (0 + 1) 6), gQS K (ad 22) 6 (oP (oup (fun _ => none) (0 : Int).toNat u9_371)), gSb K nw9 b cap n F, gArr K N18 nw18 IX, gStO K st2_364 b2_364 c2_364 F2_364, gSOs K (oup (fun _ => none) (0 : Int).toNat u9_371) (List.range 6)])) S C hG [0, 2] (c_X8_layer l K ad ou2_371 mi2_371 bo2_371 ln2_371 LF2_371 sn2_371 SF2_371 M (nl - 1) 0 hS2_371 i5 (by omega) (by omega) (by omega) (by omega)) rfl rfl 0 rfl rfl (cwV 2 S.2.2.2.2 gL_load_X8_layer rfl rfl rfl (by decide +kernel) ⟨Nat.le_of_ble_eq_true rfl, Nat.le_of_ble_eq_true rfl⟩) rfl hl.1 rfl (Nat.le_of_ble_eq_true rfl) dL_load_484 ⟨show ((kc274 + 2) + 5) + 0 ≤ 66 by omega, show ((ks274 + 644) + 129) + 0 ≤ 36643 by omega⟩ (fun _ => Nat.le_of_ble_eq_true rfl) (fun _ => rfl) (fun v u H locs hp hG => ?_)
                                        subst hp
                                        refine g_top (w := .int (iI (nX M (nl - 1)))) (congrArg (fun z : Int => Value.int (iI z)) (by first | rfl | exact if_neg (by decide))) ?_
                                        refine lv_aload S.1 S.2.1 dL_load_487 (lv_at hl 4 rfl) ?_
                                        refine lv_iload_n S.1 S.2.1 dL_load_489 rfl (lv_at hl 2 rfl) ?_
                                        refine g_iconst S dL_load_490 ?_
                                        refine g_isub S dL_load_491 rfl ?_
                                        refine g_iald S C hG 18 rfl (by omega) (by omega) (by omega) dL_load_492 ?_
                                        refine g_icmp_ne (tgt := 500) S dL_load_493 (by decide) (by omega) (by omega) (fun q493 => ?_) (fun q493 => ?_)
                                        · skip
                                          omega
                                        · skip
                                          refine g_iconst S dL_load_496 ?_
                                          refine lv_goto (tgt := 501) S.1 S.2.1 dL_load_497 (by decide) ?_
                                          have hG : gW K A s.heap [gRLC K ad, gScn K (ad 3) (ad 14) (ad 15) (ad 16) (ad 17) ou2_371 mi2_371 bo2_371 ln2_371 LF2_371 sn2_371 SF2_371, gScn K (ad 4) (ad 18) (ad 19) (ad 20) (ad 21) ou_t2_371 mi_t2_371 bo_t2_371 ln_t2_371 LF_t2_371 sn_t2_371 SF_t2_371, gHisC K (ad 5) (ad 22) (((0 : Int) + 1) % 6) (min (0 + 1) 6), gQS K (ad 22) 6 (oP (oup (fun _ => none) (0 : Int).toNat u9_371)), gSOs K (oup (fun _ => none) (0 : Int).toNat u9_371) (List.range 6)] _ _ := gW_pick [0, 2, 3, 5, 6, 10] rfl rfl hG
                                          have hG : gW K A s.heap [gRLC K ad, gScn K (ad 3) (ad 14) (ad 15) (ad 16) (ad 17) ou2_371 mi2_371 bo2_371 ln2_371 LF2_371 sn2_371 SF2_371, gScn K (ad 4) (ad 18) (ad 19) (ad 20) (ad 21) ou_t2_371 mi_t2_371 bo_t2_371 ln_t2_371 LF_t2_371 sn_t2_371 SF_t2_371, gHisC K (ad 5) (ad 22) (((0 : Int) + 1) % 6) (min (0 + 1) 6), gQS K (ad 22) 6 (oP (oup (fun _ => none) (0 : Int).toNat u9_371)), gSOs K (oup (fun _ => none) (0 : Int).toNat u9_371) (List.range 6)] _ _ := hG
                                          exact g_zret S hr hlk hQ (Or.inr rfl) dL_load_501 (by omega) (by omega) ((M, ou2_371, mi2_371, bo2_371, ln2_371, LF2_371, sn2_371, SF2_371, ou_t2_371, mi_t2_371, bo_t2_371, ln_t2_371, LF_t2_371, sn_t2_371, SF_t2_371, ((0 : Int) + 1) % 6, min (0 + 1) 6, (oup (fun _ => none) (0 : Int).toNat u9_371)) : (Int → Int) × Int × Int × Int × Int × (Int → Int) × Int × (Int → Int) × Int × Int × Int × Int × (Int → Int) × Int × (Int → Int) × Int × Int × (Nat → Option SR)) ⟨rfl, hS2_371, ⟨i5, by show 1 ≤ M 0; omega⟩, (by show (0 ≤ ((0 : Int) + 1) % 6 ∧ ((0 : Int) + 1) % 6 < 6) ∧ 0 ≤ min ((0 : Int) + 1) 6 ∧ min ((0 : Int) + 1) 6 ≤ 6; decide)⟩ hG
                              · skip
                                refine g_iconst S dL_load_443 ?_
                                refine lv_goto (tgt := 448) S.1 S.2.1 dL_load_444 (by decide) ?_
                                refine g_icmp_ne (tgt := 500) S dL_load_448 (by decide) (by omega) (by omega) (fun q448 => ?_) (fun q448 => ?_)
                                · skip
                                  omega
                                · skip
                                  refine lv_aload_n S.1 S.2.1 dL_load_451 rfl (lv_at hl 0 rfl) ?_
                                  refine g_iconst S dL_load_452 ?_
                                  refine g_invV (As := [.int (iI 3)]) (rest := []) (gs' := (fun u : Unit => [gRLC K ad, gBuf K (ad 1) (ad 12) 0 B2_367, gScn K (ad 3) (ad 14) (ad 15) (ad 16) (ad 17) ou2_371 mi2_371 bo2_371 ln2_371 LF2_371 sn2_371 SF2_371, gScn K (ad 4) (ad 18) (ad 19) (ad 20) (ad 21) ou_t2_371 mi_t2_371 bo_t2_371 ln_t2_371 LF_t2_371 sn_t2_371 SF_t2_371, gPrsC K (ad 11) (ad 1) (ad 4) qp2_371 qs2_371 qk2_371 qn2_371 qo2_371 qb2_371 qe2_371 qf2_371, gHisC K (ad 5) (ad 22) (((0 : Int) + 1) % 6) (min (0 + 1) 6), gQS K (ad 22) 6 (oP (oup (fun _ => none) (0 : Int).toNat u9_371)), gSb K nw9 b cap n F, gArr K N18 nw18 IX, gStO K st2_364 b2_364 c2_364 F2_364, gSOs K (oup (fun _ => none) (0 : Int).toNat u9_371) (List.range 6)])) S C hG [0, 2] (c_X8_property l K ad ou2_371 mi2_371 bo2_371 ln2_371 LF2_371 sn2_371 SF2_371 M 3 hS2_371 i5 (by omega)) rfl rfl 0 rfl rfl (cwV 1 S.2.2.2.2 gL_load_X8_property rfl rfl rfl (by decide +kernel) ⟨Nat.le_of_ble_eq_true rfl, Nat.le_of_ble_eq_true rfl⟩) rfl hl.1 rfl (Nat.le_of_ble_eq_true rfl) dL_load_453 ⟨show ((kc274 + 2) + 5) + 0 ≤ 66 by omega, show ((ks274 + 644) + 129) + 0 ≤ 36643 by omega⟩ (fun _ => Nat.le_of_ble_eq_true rfl) (fun _ => rfl) (fun v u H locs hp hG => ?_)
                                  subst hp
                                  refine g_top (w := .int (iI (M 3))) (congrArg (fun z : Int => Value.int (iI z)) (by first | rfl | exact if_neg (by decide))) ?_
                                  refine lv_iload S.1 S.2.1 dL_load_456 (lv_at hl 6 rfl) ?_
                                  refine g_iconst S dL_load_458 ?_
                                  refine g_icmp_eq (tgt := 468) S dL_load_459 (by decide) (by omega) (by omega) (fun q459 => ?_) (fun q459 => ?_)
                                  · skip
                                    refine lv_iload S.1 S.2.1 dL_load_468 (lv_at hl 7 rfl) ?_
                                    refine lv_goto (tgt := 476) S.1 S.2.1 dL_load_470 (by decide) ?_
                                    refine g_icmp_ne (tgt := 500) S dL_load_476 (by decide) (by omega) (by omega) (fun q476 => ?_) (fun q476 => ?_)
                                    · skip
                                      omega
                                    · skip
                                      have i8 : nX M (nl - 1) = IX (nl - 1) := (i6 (nl - 1) (by omega) (by omega)).1
                                      have ib8 := (i6 (nl - 1) (by omega) (by omega)).2
                                      refine lv_aload_n S.1 S.2.1 dL_load_479 rfl (lv_at hl 0 rfl) ?_
                                      refine lv_iload_n S.1 S.2.1 dL_load_480 rfl (lv_at hl 2 rfl) ?_
                                      refine g_iconst S dL_load_481 ?_
                                      refine g_isub S dL_load_482 rfl ?_
                                      refine g_iconst S dL_load_483 ?_
                                      refine g_invV (As := [.int (iI (nl - 1)), .int (iI 0)]) (rest := []) (gs' := (fun u : Unit => [gRLC K ad, gBuf K (ad 1) (ad 12) 0 B2_367, gScn K (ad 3) (ad 14) (ad 15) (ad 16) (ad 17) ou2_371 mi2_371 bo2_371 ln2_371 LF2_371 sn2_371 SF2_371, gScn K (ad 4) (ad 18) (ad 19) (ad 20) (ad 21) ou_t2_371 mi_t2_371 bo_t2_371 ln_t2_371 LF_t2_371 sn_t2_371 SF_t2_371, gPrsC K (ad 11) (ad 1) (ad 4) qp2_371 qs2_371 qk2_371 qn2_371 qo2_371 qb2_371 qe2_371 qf2_371, gHisC K (ad 5) (ad 22) (((0 : Int) + 1) % 6) (min (0 + 1) 6), gQS K (ad 22) 6 (oP (oup (fun _ => none) (0 : Int).toNat u9_371)), gSb K nw9 b cap n F, gArr K N18 nw18 IX, gStO K st2_364 b2_364 c2_364 F2_364, gSOs K (oup (fun _ => none) (0 : Int).toNat u9_371) (List.range 6)])) S C hG [0, 2] (c_X8_layer l K ad ou2_371 mi2_371 bo2_371 ln2_371 LF2_371 sn2_371 SF2_371 M (nl - 1) 0 hS2_371 i5 (by omega) (by omega) (by omega) (by omega)) rfl rfl 0 rfl rfl (cwV 2 S.2.2.2.2 gL_load_X8_layer rfl rfl rfl (by decide +kernel) ⟨Nat.le_of_ble_eq_true rfl, Nat.le_of_ble_eq_true rfl⟩) rfl hl.1 rfl (Nat.le_of_ble_eq_true rfl) dL_load_484 ⟨show ((kc274 + 2) + 5) + 0 ≤ 66 by omega, show ((ks274 + 644) + 129) + 0 ≤ 36643 by omega⟩ (fun _ => Nat.le_of_ble_eq_true rfl) (fun _ => rfl) (fun v u H locs hp hG => ?_)
                                      subst hp
                                      refine g_top (w := .int (iI (nX M (nl - 1)))) (congrArg (fun z : Int => Value.int (iI z)) (by first | rfl | exact if_neg (by decide))) ?_
                                      refine lv_aload S.1 S.2.1 dL_load_487 (lv_at hl 4 rfl) ?_
                                      refine lv_iload_n S.1 S.2.1 dL_load_489 rfl (lv_at hl 2 rfl) ?_
                                      refine g_iconst S dL_load_490 ?_
                                      refine g_isub S dL_load_491 rfl ?_
                                      refine g_iald S C hG 18 rfl (by omega) (by omega) (by omega) dL_load_492 ?_
                                      refine g_icmp_ne (tgt := 500) S dL_load_493 (by decide) (by omega) (by omega) (fun q493 => ?_) (fun q493 => ?_)
                                      · skip
                                        omega
                                      · skip
                                        refine g_iconst S dL_load_496 ?_
                                        refine lv_goto (tgt := 501) S.1 S.2.1 dL_load_497 (by decide) ?_
                                        have hG : gW K A s.heap [gRLC K ad, gScn K (ad 3) (ad 14) (ad 15) (ad 16) (ad 17) ou2_371 mi2_371 bo2_371 ln2_371 LF2_371 sn2_371 SF2_371, gScn K (ad 4) (ad 18) (ad 19) (ad 20) (ad 21) ou_t2_371 mi_t2_371 bo_t2_371 ln_t2_371 LF_t2_371 sn_t2_371 SF_t2_371, gHisC K (ad 5) (ad 22) (((0 : Int) + 1) % 6) (min (0 + 1) 6), gQS K (ad 22) 6 (oP (oup (fun _ => none) (0 : Int).toNat u9_371)), gSOs K (oup (fun _ => none) (0 : Int).toNat u9_371) (List.range 6)] _ _ := gW_pick [0, 2, 3, 5, 6, 10] rfl rfl hG
                                        have hG : gW K A s.heap [gRLC K ad, gScn K (ad 3) (ad 14) (ad 15) (ad 16) (ad 17) ou2_371 mi2_371 bo2_371 ln2_371 LF2_371 sn2_371 SF2_371, gScn K (ad 4) (ad 18) (ad 19) (ad 20) (ad 21) ou_t2_371 mi_t2_371 bo_t2_371 ln_t2_371 LF_t2_371 sn_t2_371 SF_t2_371, gHisC K (ad 5) (ad 22) (((0 : Int) + 1) % 6) (min (0 + 1) 6), gQS K (ad 22) 6 (oP (oup (fun _ => none) (0 : Int).toNat u9_371)), gSOs K (oup (fun _ => none) (0 : Int).toNat u9_371) (List.range 6)] _ _ := hG
                                        exact g_zret S hr hlk hQ (Or.inr rfl) dL_load_501 (by omega) (by omega) ((M, ou2_371, mi2_371, bo2_371, ln2_371, LF2_371, sn2_371, SF2_371, ou_t2_371, mi_t2_371, bo_t2_371, ln_t2_371, LF_t2_371, sn_t2_371, SF_t2_371, ((0 : Int) + 1) % 6, min (0 + 1) 6, (oup (fun _ => none) (0 : Int).toNat u9_371)) : (Int → Int) × Int × Int × Int × Int × (Int → Int) × Int × (Int → Int) × Int × Int × Int × Int × (Int → Int) × Int × (Int → Int) × Int × Int × (Nat → Option SR)) ⟨rfl, hS2_371, ⟨i5, by show 1 ≤ M 0; omega⟩, (by show (0 ≤ ((0 : Int) + 1) % 6 ∧ ((0 : Int) + 1) % 6 < 6) ∧ 0 ≤ min ((0 : Int) + 1) 6 ∧ min ((0 : Int) + 1) 6 ≤ 6; decide)⟩ hG
                                  · skip
                                    omega
                            · skip
                              omega
                · skip
                  have hd30 := drwN_bd K 30 (n := 4) (by omega)
                  refine lv_aload_n S.1 S.2.1 dL_load_281 rfl (lv_at hl 1 rfl) ?_
                  refine g_bipush S dL_load_282 (by decide) ?_
                  refine g_iconst S dL_load_284 ?_
                  refine lv_iload S.1 S.2.1 dL_load_285 (lv_at hl 9 rfl) ?_
                  refine g_imul S dL_load_287 rfl ?_
                  refine g_iadd S dL_load_288 rfl ?_
                  refine lv_iload_n S.1 S.2.1 dL_load_289 rfl (lv_at hl 2 rfl) ?_
                  refine g_invS (As := [.ref (K.2.2.2.2 42), .int (iI (31 + (3 * w))), .int (iI nl)]) (rest := []) (gs' := (fun u : Unit => [gRLC K ad, gBuf K (ad 1) (ad 12) 0 B0, gScn K (ad 3) (ad 14) (ad 15) (ad 16) (ad 17) ou mi bo ln LF sn SF, gScn K (ad 4) (ad 18) (ad 19) (ad 20) (ad 21) ou_t mi_t bo_t ln_t LF_t sn_t SF_t, gPrsC K (ad 11) (ad 1) (ad 4) qp qs qk qn qo qb qe qf, gHisC K (ad 5) (ad 22) (0 : Int) 0, gQS K (ad 22) 6 (fun _ => none), gSb K nw9 b cap n F, gArr K N18 nw18 IX])) S C hG [] (c_L_draw l K (31 + (3 * w)) nl (by omega) (by omega)) rfl rfl (va_cwS 3 S.2.2.2.2 gL_load_L_draw rfl rfl rfl (by decide +kernel) ⟨Nat.le_of_ble_eq_true rfl, Nat.le_of_ble_eq_true rfl⟩) rfl hl.1 rfl (Nat.le_of_ble_eq_true rfl) dL_load_290 ⟨show kc274 + 0 ≤ 66 by omega, show ks274 + 0 ≤ 36643 by omega⟩ (fun _ => Nat.le_of_ble_eq_true rfl) (fun _ => rfl) (fun v u H locs hp hG => ?_)
                  subst hp
                  have hd290 := drwN_bd K (31 + (3 * w)) (n := nl) (by omega)
                  refine lv_istore (lv' := [(10, .int (iI (drwN K (31 + (3 * w)) nl))), (0, .ref (ad 0)), (1, .ref (K.2.2.2.2 42)), (2, .int (iI nl)), (3, .ref nw9), (4, .ref nw18), (5, .int (iI o5)), (6, .int (iI b6)), (7, .int (iI bl)), (8, .int (iI s8)), (9, .int (iI w))]) S.1 S.2.1 dL_load_293 hl (by decide) rfl (fun ls hl => ?_)
                  refine lv_aload_n S.1 S.2.1 dL_load_295 rfl (lv_at hl 4 rfl) ?_
                  refine va_ldcS (q := K.2.2.2.1 37) S.1 S.2.1 S.2.2.2.1 (C.1.2.2.1 (RL, 71, "shot ", 37) sw_37) dL_load_296 ?_
                  have q9 : (l37.length : Int) = 5 := rfl
                  refine g_invV (As := [.ref (K.2.2.2.1 37)]) (rest := []) (gs' := (fun u : Nat × Nat × (Int → Int) => [gRLC K ad, gBuf K (ad 1) (ad 12) 0 B0, gScn K (ad 3) (ad 14) (ad 15) (ad 16) (ad 17) ou mi bo ln LF sn SF, gScn K (ad 4) (ad 18) (ad 19) (ad 20) (ad 21) ou_t mi_t bo_t ln_t LF_t sn_t SF_t, gPrsC K (ad 11) (ad 1) (ad 4) qp qs qk qn qo qb qe qf, gHisC K (ad 5) (ad 22) (0 : Int) 0, gQS K (ad 22) 6 (fun _ => none), gSb K nw9 u.1 u.2.1 (n + (l37.length : Int)) u.2.2, gArr K N18 nw18 IX])) S C hG [7] (c_J4_append_15ec4 l K 37 l37 nw9 b cap n F tx tx37 (by decide) (by omega) hO (by omega)) rfl rfl 0 rfl rfl (cwV 1 S.2.2.2.2 gL_load_J4_append_15ec4 rfl rfl rfl (by decide +kernel) ⟨Nat.le_of_ble_eq_true rfl, Nat.le_of_ble_eq_true rfl⟩) rfl hl.1 rfl (Nat.le_of_ble_eq_true rfl) dL_load_298 ⟨show kc274 + 1 ≤ 66 by omega, show ks274 + 640 ≤ 36643 by omega⟩ (fun _ => Nat.le_of_ble_eq_true rfl) (fun _ => rfl) (fun v u H locs hp hG => ?_)
                  obtain ⟨b2_298, cap2_298, F2_298⟩ := u
                  obtain ⟨rfl, hc2_298, hO2_298⟩ := hp
                  have hc2_298 : n + (l37.length : Int) ≤ (cap2_298 : Int) ∧ (cap2_298 : Int) ≤ 602 := hc2_298
                  have hO2_298 : OutI F2_298 (n + (l37.length : Int)) (tx ++ l37) := hO2_298
                  have hG : gW K A s.heap [gRLC K ad, gBuf K (ad 1) (ad 12) 0 B0, gScn K (ad 3) (ad 14) (ad 15) (ad 16) (ad 17) ou mi bo ln LF sn SF, gScn K (ad 4) (ad 18) (ad 19) (ad 20) (ad 21) ou_t mi_t bo_t ln_t LF_t sn_t SF_t, gPrsC K (ad 11) (ad 1) (ad 4) qp qs qk qn qo qb qe qf, gHisC K (ad 5) (ad 22) (0 : Int) 0, gQS K (ad 22) 6 (fun _ => none), gSb K nw9 b2_298 cap2_298 (n + (l37.length : Int)) F2_298, gArr K N18 nw18 IX] _ _ := hG
                  have hc_298 := hc2_298
                  refine lv_iload S.1 S.2.1 dL_load_301 (lv_at hl 0 rfl) ?_
                  have g9 := dgs_bd (drwN K (31 + (3 * w)) nl)
                  refine g_invV (As := [.int (iI (drwN K (31 + (3 * w)) nl))]) (rest := []) (gs' := (fun u : Nat × Nat × (Int → Int) => [gRLC K ad, gBuf K (ad 1) (ad 12) 0 B0, gScn K (ad 3) (ad 14) (ad 15) (ad 16) (ad 17) ou mi bo ln LF sn SF, gScn K (ad 4) (ad 18) (ad 19) (ad 20) (ad 21) ou_t mi_t bo_t ln_t LF_t sn_t SF_t, gPrsC K (ad 11) (ad 1) (ad 4) qp qs qk qn qo qb qe qf, gHisC K (ad 5) (ad 22) (0 : Int) 0, gQS K (ad 22) 6 (fun _ => none), gSb K nw9 u.1 u.2.1 ((n + (l37.length : Int)) + dgs (drwN K (31 + (3 * w)) nl)) u.2.2, gArr K N18 nw18 IX])) S C hG [7] (c_J4_append_bf812 l K nw9 b2_298 cap2_298 (n + (l37.length : Int)) F2_298 (tx ++ l37) (drwN K (31 + (3 * w)) nl) (by omega) hO2_298 (by omega) (by omega)) rfl rfl 0 rfl rfl (cwV 1 S.2.2.2.2 gL_load_J4_append_bf812 rfl rfl rfl (by decide +kernel) ⟨Nat.le_of_ble_eq_true rfl, Nat.le_of_ble_eq_true rfl⟩) rfl hl.1 rfl (Nat.le_of_ble_eq_true rfl) dL_load_303 ⟨show (kc274 + 1) + 1 ≤ 66 by omega, show (ks274 + 640) + 640 ≤ 36643 by omega⟩ (fun _ => Nat.le_of_ble_eq_true rfl) (fun _ => rfl) (fun v u H locs hp hG => ?_)
                  obtain ⟨b2_303, cap2_303, F2_303⟩ := u
                  obtain ⟨rfl, hc2_303, hO2_303⟩ := hp
                  have hc2_303 : (n + (l37.length : Int)) + dgs (drwN K (31 + (3 * w)) nl) ≤ (cap2_303 : Int) ∧ (cap2_303 : Int) ≤ 602 := hc2_303
                  have hO2_303 : OutI F2_303 ((n + (l37.length : Int)) + dgs (drwN K (31 + (3 * w)) nl)) ((tx ++ l37) ++ dgL (drwN K (31 + (3 * w)) nl)) := hO2_303
                  have hG : gW K A s.heap [gRLC K ad, gBuf K (ad 1) (ad 12) 0 B0, gScn K (ad 3) (ad 14) (ad 15) (ad 16) (ad 17) ou mi bo ln LF sn SF, gScn K (ad 4) (ad 18) (ad 19) (ad 20) (ad 21) ou_t mi_t bo_t ln_t LF_t sn_t SF_t, gPrsC K (ad 11) (ad 1) (ad 4) qp qs qk qn qo qb qe qf, gHisC K (ad 5) (ad 22) (0 : Int) 0, gQS K (ad 22) 6 (fun _ => none), gSb K nw9 b2_303 cap2_303 ((n + (l37.length : Int)) + dgs (drwN K (31 + (3 * w)) nl)) F2_303, gArr K N18 nw18 IX] _ _ := hG
                  have hc_303 := hc2_303
                  refine lv_aload_n S.1 S.2.1 dL_load_306 rfl (lv_at hl 2 rfl) ?_
                  refine g_bipush S dL_load_307 (by decide) ?_
                  refine g_iconst S dL_load_309 ?_
                  refine lv_iload S.1 S.2.1 dL_load_310 (lv_at hl 10 rfl) ?_
                  refine g_imul S dL_load_312 rfl ?_
                  refine g_iadd S dL_load_313 rfl ?_
                  refine g_iconst S dL_load_314 ?_
                  refine g_invS (As := [.ref (K.2.2.2.2 42), .int (iI (32 + (3 * w))), .int (iI 2)]) (rest := [.ref nw9]) (gs' := (fun u : Unit => [gRLC K ad, gBuf K (ad 1) (ad 12) 0 B0, gScn K (ad 3) (ad 14) (ad 15) (ad 16) (ad 17) ou mi bo ln LF sn SF, gScn K (ad 4) (ad 18) (ad 19) (ad 20) (ad 21) ou_t mi_t bo_t ln_t LF_t sn_t SF_t, gPrsC K (ad 11) (ad 1) (ad 4) qp qs qk qn qo qb qe qf, gHisC K (ad 5) (ad 22) (0 : Int) 0, gQS K (ad 22) 6 (fun _ => none), gSb K nw9 b2_303 cap2_303 ((n + (l37.length : Int)) + dgs (drwN K (31 + (3 * w)) nl)) F2_303, gArr K N18 nw18 IX])) S C hG [] (c_L_draw l K (32 + (3 * w)) 2 (by omega) (by omega)) rfl rfl (va_cwS 3 S.2.2.2.2 gL_load_L_draw rfl rfl rfl (by decide +kernel) ⟨Nat.le_of_ble_eq_true rfl, Nat.le_of_ble_eq_true rfl⟩) rfl hl.1 rfl (Nat.le_of_ble_eq_true rfl) dL_load_315 ⟨show ((kc274 + 1) + 1) + 0 ≤ 66 by omega, show ((ks274 + 640) + 640) + 0 ≤ 36643 by omega⟩ (fun _ => Nat.le_of_ble_eq_true rfl) (fun _ => rfl) (fun v u H locs hp hG => ?_)
                  subst hp
                  have hd315 := drwN_bd K (32 + (3 * w)) (n := 2) (by omega)
                  refine g_if_ne (tgt := 326) S dL_load_318 (by decide) (by omega) (fun q318 => ?_) (fun q318 => ?_)
                  · skip
                    refine va_ldcS (q := K.2.2.2.1 39) S.1 S.2.1 S.2.2.2.1 (C.1.2.2.1 (RL, 75, " up ", 39) sw_39) dL_load_326 ?_
                    have q9 : (l39.length : Int) = 4 := rfl
                    refine g_invV (As := [.ref (K.2.2.2.1 39)]) (rest := []) (gs' := (fun u : Nat × Nat × (Int → Int) => [gRLC K ad, gBuf K (ad 1) (ad 12) 0 B0, gScn K (ad 3) (ad 14) (ad 15) (ad 16) (ad 17) ou mi bo ln LF sn SF, gScn K (ad 4) (ad 18) (ad 19) (ad 20) (ad 21) ou_t mi_t bo_t ln_t LF_t sn_t SF_t, gPrsC K (ad 11) (ad 1) (ad 4) qp qs qk qn qo qb qe qf, gHisC K (ad 5) (ad 22) (0 : Int) 0, gQS K (ad 22) 6 (fun _ => none), gSb K nw9 u.1 u.2.1 (((n + (l37.length : Int)) + dgs (drwN K (31 + (3 * w)) nl)) + (l39.length : Int)) u.2.2, gArr K N18 nw18 IX])) S C hG [7] (c_J4_append_15ec4 l K 39 l39 nw9 b2_303 cap2_303 ((n + (l37.length : Int)) + dgs (drwN K (31 + (3 * w)) nl)) F2_303 ((tx ++ l37) ++ dgL (drwN K (31 + (3 * w)) nl)) tx39 (by decide) (by omega) hO2_303 (by omega)) rfl rfl 0 rfl rfl (cwV 1 S.2.2.2.2 gL_load_J4_append_15ec4 rfl rfl rfl (by decide +kernel) ⟨Nat.le_of_ble_eq_true rfl, Nat.le_of_ble_eq_true rfl⟩) rfl hl.1 rfl (Nat.le_of_ble_eq_true rfl) dL_load_328 ⟨show ((kc274 + 1) + 1) + 1 ≤ 66 by omega, show ((ks274 + 640) + 640) + 640 ≤ 36643 by omega⟩ (fun _ => Nat.le_of_ble_eq_true rfl) (fun _ => rfl) (fun v u H locs hp hG => ?_)
                    obtain ⟨b2_328, cap2_328, F2_328⟩ := u
                    obtain ⟨rfl, hc2_328, hO2_328⟩ := hp
                    have hc2_328 : ((n + (l37.length : Int)) + dgs (drwN K (31 + (3 * w)) nl)) + (l39.length : Int) ≤ (cap2_328 : Int) ∧ (cap2_328 : Int) ≤ 602 := hc2_328
                    have hO2_328 : OutI F2_328 (((n + (l37.length : Int)) + dgs (drwN K (31 + (3 * w)) nl)) + (l39.length : Int)) (((tx ++ l37) ++ dgL (drwN K (31 + (3 * w)) nl)) ++ l39) := hO2_328
                    have hG : gW K A s.heap [gRLC K ad, gBuf K (ad 1) (ad 12) 0 B0, gScn K (ad 3) (ad 14) (ad 15) (ad 16) (ad 17) ou mi bo ln LF sn SF, gScn K (ad 4) (ad 18) (ad 19) (ad 20) (ad 21) ou_t mi_t bo_t ln_t LF_t sn_t SF_t, gPrsC K (ad 11) (ad 1) (ad 4) qp qs qk qn qo qb qe qf, gHisC K (ad 5) (ad 22) (0 : Int) 0, gQS K (ad 22) 6 (fun _ => none), gSb K nw9 b2_328 cap2_328 (((n + (l37.length : Int)) + dgs (drwN K (31 + (3 * w)) nl)) + (l39.length : Int)) F2_328, gArr K N18 nw18 IX] _ _ := hG
                    have hc_328 := hc2_328
                    have hx9 := hI.2.2.2.2.2.2 (drwN K (31 + (3 * w)) nl) (by omega) (by omega)
                    refine lv_aload_n S.1 S.2.1 dL_load_331 rfl (lv_at hl 2 rfl) ?_
                    refine g_bipush S dL_load_332 (by decide) ?_
                    refine g_iconst S dL_load_334 ?_
                    refine lv_iload S.1 S.2.1 dL_load_335 (lv_at hl 10 rfl) ?_
                    refine g_imul S dL_load_337 rfl ?_
                    refine g_iadd S dL_load_338 rfl ?_
                    refine lv_aload S.1 S.2.1 dL_load_339 (lv_at hl 5 rfl) ?_
                    refine lv_iload S.1 S.2.1 dL_load_341 (lv_at hl 0 rfl) ?_
                    refine g_iald S C hG 18 rfl (by omega) (by omega) (by omega) dL_load_343 ?_
                    refine g_invS (As := [.ref (K.2.2.2.2 42), .int (iI (33 + (3 * w))), .int (iI (IX (drwN K (31 + (3 * w)) nl)))]) (rest := [.ref nw9]) (gs' := (fun u : Unit => [gRLC K ad, gBuf K (ad 1) (ad 12) 0 B0, gScn K (ad 3) (ad 14) (ad 15) (ad 16) (ad 17) ou mi bo ln LF sn SF, gScn K (ad 4) (ad 18) (ad 19) (ad 20) (ad 21) ou_t mi_t bo_t ln_t LF_t sn_t SF_t, gPrsC K (ad 11) (ad 1) (ad 4) qp qs qk qn qo qb qe qf, gHisC K (ad 5) (ad 22) (0 : Int) 0, gQS K (ad 22) 6 (fun _ => none), gSb K nw9 b2_328 cap2_328 (((n + (l37.length : Int)) + dgs (drwN K (31 + (3 * w)) nl)) + (l39.length : Int)) F2_328, gArr K N18 nw18 IX])) S C hG [] (c_L_draw l K (33 + (3 * w)) (IX (drwN K (31 + (3 * w)) nl)) (by omega) (by omega)) rfl rfl (va_cwS 3 S.2.2.2.2 gL_load_L_draw rfl rfl rfl (by decide +kernel) ⟨Nat.le_of_ble_eq_true rfl, Nat.le_of_ble_eq_true rfl⟩) rfl hl.1 rfl (Nat.le_of_ble_eq_true rfl) dL_load_344 ⟨show (((kc274 + 1) + 1) + 1) + 0 ≤ 66 by omega, show (((ks274 + 640) + 640) + 640) + 0 ≤ 36643 by omega⟩ (fun _ => Nat.le_of_ble_eq_true rfl) (fun _ => rfl) (fun v u H locs hp hG => ?_)
                    subst hp
                    have hd344 := drwN_bd K (33 + (3 * w)) (n := IX (drwN K (31 + (3 * w)) nl)) (by omega)
                    have g9 := dgs_bd (drwN K (33 + (3 * w)) (IX (drwN K (31 + (3 * w)) nl)))
                    refine g_invV (As := [.int (iI (drwN K (33 + (3 * w)) (IX (drwN K (31 + (3 * w)) nl))))]) (rest := []) (gs' := (fun u : Nat × Nat × (Int → Int) => [gRLC K ad, gBuf K (ad 1) (ad 12) 0 B0, gScn K (ad 3) (ad 14) (ad 15) (ad 16) (ad 17) ou mi bo ln LF sn SF, gScn K (ad 4) (ad 18) (ad 19) (ad 20) (ad 21) ou_t mi_t bo_t ln_t LF_t sn_t SF_t, gPrsC K (ad 11) (ad 1) (ad 4) qp qs qk qn qo qb qe qf, gHisC K (ad 5) (ad 22) (0 : Int) 0, gQS K (ad 22) 6 (fun _ => none), gSb K nw9 u.1 u.2.1 ((((n + (l37.length : Int)) + dgs (drwN K (31 + (3 * w)) nl)) + (l39.length : Int)) + dgs (drwN K (33 + (3 * w)) (IX (drwN K (31 + (3 * w)) nl)))) u.2.2, gArr K N18 nw18 IX])) S C hG [7] (c_J4_append_bf812 l K nw9 b2_328 cap2_328 (((n + (l37.length : Int)) + dgs (drwN K (31 + (3 * w)) nl)) + (l39.length : Int)) F2_328 (((tx ++ l37) ++ dgL (drwN K (31 + (3 * w)) nl)) ++ l39) (drwN K (33 + (3 * w)) (IX (drwN K (31 + (3 * w)) nl))) (by omega) hO2_328 (by omega) (by omega)) rfl rfl 0 rfl rfl (cwV 1 S.2.2.2.2 gL_load_J4_append_bf812 rfl rfl rfl (by decide +kernel) ⟨Nat.le_of_ble_eq_true rfl, Nat.le_of_ble_eq_true rfl⟩) rfl hl.1 rfl (Nat.le_of_ble_eq_true rfl) dL_load_347 ⟨show (((kc274 + 1) + 1) + 1) + 1 ≤ 66 by omega, show (((ks274 + 640) + 640) + 640) + 640 ≤ 36643 by omega⟩ (fun _ => Nat.le_of_ble_eq_true rfl) (fun _ => rfl) (fun v u H locs hp hG => ?_)
                    obtain ⟨b2_347, cap2_347, F2_347⟩ := u
                    obtain ⟨rfl, hc2_347, hO2_347⟩ := hp
                    have hc2_347 : (((n + (l37.length : Int)) + dgs (drwN K (31 + (3 * w)) nl)) + (l39.length : Int)) + dgs (drwN K (33 + (3 * w)) (IX (drwN K (31 + (3 * w)) nl))) ≤ (cap2_347 : Int) ∧ (cap2_347 : Int) ≤ 602 := hc2_347
                    have hO2_347 : OutI F2_347 ((((n + (l37.length : Int)) + dgs (drwN K (31 + (3 * w)) nl)) + (l39.length : Int)) + dgs (drwN K (33 + (3 * w)) (IX (drwN K (31 + (3 * w)) nl)))) ((((tx ++ l37) ++ dgL (drwN K (31 + (3 * w)) nl)) ++ l39) ++ dgL (drwN K (33 + (3 * w)) (IX (drwN K (31 + (3 * w)) nl)))) := hO2_347
                    have hG : gW K A s.heap [gRLC K ad, gBuf K (ad 1) (ad 12) 0 B0, gScn K (ad 3) (ad 14) (ad 15) (ad 16) (ad 17) ou mi bo ln LF sn SF, gScn K (ad 4) (ad 18) (ad 19) (ad 20) (ad 21) ou_t mi_t bo_t ln_t LF_t sn_t SF_t, gPrsC K (ad 11) (ad 1) (ad 4) qp qs qk qn qo qb qe qf, gHisC K (ad 5) (ad 22) (0 : Int) 0, gQS K (ad 22) 6 (fun _ => none), gSb K nw9 b2_347 cap2_347 ((((n + (l37.length : Int)) + dgs (drwN K (31 + (3 * w)) nl)) + (l39.length : Int)) + dgs (drwN K (33 + (3 * w)) (IX (drwN K (31 + (3 * w)) nl)))) F2_347, gArr K N18 nw18 IX] _ _ := hG
                    have hc_347 := hc2_347
                    refine va_ldcS (q := K.2.2.2.1 33) S.1 S.2.1 S.2.2.2.1 (C.1.2.2.1 (RL, 63, ";", 33) sw_33) dL_load_350 ?_
                    have q9 : (l33.length : Int) = 1 := rfl
                    refine g_invV (As := [.ref (K.2.2.2.1 33)]) (rest := []) (gs' := (fun u : Nat × Nat × (Int → Int) => [gRLC K ad, gBuf K (ad 1) (ad 12) 0 B0, gScn K (ad 3) (ad 14) (ad 15) (ad 16) (ad 17) ou mi bo ln LF sn SF, gScn K (ad 4) (ad 18) (ad 19) (ad 20) (ad 21) ou_t mi_t bo_t ln_t LF_t sn_t SF_t, gPrsC K (ad 11) (ad 1) (ad 4) qp qs qk qn qo qb qe qf, gHisC K (ad 5) (ad 22) (0 : Int) 0, gQS K (ad 22) 6 (fun _ => none), gSb K nw9 u.1 u.2.1 (((((n + (l37.length : Int)) + dgs (drwN K (31 + (3 * w)) nl)) + (l39.length : Int)) + dgs (drwN K (33 + (3 * w)) (IX (drwN K (31 + (3 * w)) nl)))) + (l33.length : Int)) u.2.2, gArr K N18 nw18 IX])) S C hG [7] (c_J4_append_15ec4 l K 33 l33 nw9 b2_347 cap2_347 ((((n + (l37.length : Int)) + dgs (drwN K (31 + (3 * w)) nl)) + (l39.length : Int)) + dgs (drwN K (33 + (3 * w)) (IX (drwN K (31 + (3 * w)) nl)))) F2_347 ((((tx ++ l37) ++ dgL (drwN K (31 + (3 * w)) nl)) ++ l39) ++ dgL (drwN K (33 + (3 * w)) (IX (drwN K (31 + (3 * w)) nl)))) tx33 (by decide) (by omega) hO2_347 (by omega)) rfl rfl 0 rfl rfl (cwV 1 S.2.2.2.2 gL_load_J4_append_15ec4 rfl rfl rfl (by decide +kernel) ⟨Nat.le_of_ble_eq_true rfl, Nat.le_of_ble_eq_true rfl⟩) rfl hl.1 rfl (Nat.le_of_ble_eq_true rfl) dL_load_352 ⟨show ((((kc274 + 1) + 1) + 1) + 1) + 1 ≤ 66 by omega, show ((((ks274 + 640) + 640) + 640) + 640) + 640 ≤ 36643 by omega⟩ (fun _ => Nat.le_of_ble_eq_true rfl) (fun _ => rfl) (fun v u H locs hp hG => ?_)
                    obtain ⟨b2_352, cap2_352, F2_352⟩ := u
                    obtain ⟨rfl, hc2_352, hO2_352⟩ := hp
                    have hc2_352 : ((((n + (l37.length : Int)) + dgs (drwN K (31 + (3 * w)) nl)) + (l39.length : Int)) + dgs (drwN K (33 + (3 * w)) (IX (drwN K (31 + (3 * w)) nl)))) + (l33.length : Int) ≤ (cap2_352 : Int) ∧ (cap2_352 : Int) ≤ 602 := hc2_352
                    have hO2_352 : OutI F2_352 (((((n + (l37.length : Int)) + dgs (drwN K (31 + (3 * w)) nl)) + (l39.length : Int)) + dgs (drwN K (33 + (3 * w)) (IX (drwN K (31 + (3 * w)) nl)))) + (l33.length : Int)) (((((tx ++ l37) ++ dgL (drwN K (31 + (3 * w)) nl)) ++ l39) ++ dgL (drwN K (33 + (3 * w)) (IX (drwN K (31 + (3 * w)) nl)))) ++ l33) := hO2_352
                    have hG : gW K A s.heap [gRLC K ad, gBuf K (ad 1) (ad 12) 0 B0, gScn K (ad 3) (ad 14) (ad 15) (ad 16) (ad 17) ou mi bo ln LF sn SF, gScn K (ad 4) (ad 18) (ad 19) (ad 20) (ad 21) ou_t mi_t bo_t ln_t LF_t sn_t SF_t, gPrsC K (ad 11) (ad 1) (ad 4) qp qs qk qn qo qb qe qf, gHisC K (ad 5) (ad 22) (0 : Int) 0, gQS K (ad 22) 6 (fun _ => none), gSb K nw9 b2_352 cap2_352 (((((n + (l37.length : Int)) + dgs (drwN K (31 + (3 * w)) nl)) + (l39.length : Int)) + dgs (drwN K (33 + (3 * w)) (IX (drwN K (31 + (3 * w)) nl)))) + (l33.length : Int)) F2_352, gArr K N18 nw18 IX] _ _ := hG
                    have hc_352 := hc2_352
                    refine lv_pop S.1 S.2.1 dL_load_355 rfl ?_
                    refine lv_iinc (v := iI (w + 1)) (lv' := [(9, .int (iI (w + 1))), (10, .int (iI (drwN K (31 + (3 * w)) nl))), (0, .ref (ad 0)), (1, .ref (K.2.2.2.2 42)), (2, .int (iI nl)), (3, .ref nw9), (4, .ref nw18), (5, .int (iI o5)), (6, .int (iI b6)), (7, .int (iI bl)), (8, .int (iI s8))]) S.1 S.2.1 dL_load_356 hl (k := 10) rfl (g_iinc rfl) (by decide) rfl (fun ls hl => ?_)
                    refine lv_goto (tgt := 274) S.1 S.2.1 dL_load_359 (by decide) ?_
                    exact ih274 (w + 1) (((((n + (l37.length : Int)) + dgs (drwN K (31 + (3 * w)) nl)) + (l39.length : Int)) + dgs (drwN K (33 + (3 * w)) (IX (drwN K (31 + (3 * w)) nl)))) + (l33.length : Int)) F2_352 b2_352 cap2_352 (((((tx ++ l37) ++ dgL (drwN K (31 + (3 * w)) nl)) ++ l39) ++ dgL (drwN K (33 + (3 * w)) (IX (drwN K (31 + (3 * w)) nl)))) ++ l33) (addSN M (drwN K (31 + (3 * w)) nl) 0 (drwN K (33 + (3 * w)) (IX (drwN K (31 + (3 * w)) nl)))) (((((kc274 + 1) + 1) + 1) + 1) + 1) (((((ks274 + 640) + 640) + 640) + 640) + 640) _ _ _ (by omega) (by omega) hO2_352 (by omega) (by omega) (hT9.sho (by have := hI.1; omega) (by have := hI.2.2.2.2.1; omega) (by have := hI.1; omega) (by have := hx9.1; omega)).2 (hI.sho (by omega) (by omega) (Or.inl rfl) (by omega) (by omega)) (by omega) (lv_sub hl [2, 3, 4, 5, 6, 7, 8, 9, 10, 0] rfl) hG
                  · skip
                    refine va_ldcS (q := K.2.2.2.1 38) S.1 S.2.1 S.2.2.2.1 (C.1.2.2.1 (RL, 73, " down ", 38) sw_38) dL_load_321 ?_
                    refine lv_goto (tgt := 328) S.1 S.2.1 dL_load_323 (by decide) ?_
                    have q9 : (l38.length : Int) = 6 := rfl
                    refine g_invV (As := [.ref (K.2.2.2.1 38)]) (rest := []) (gs' := (fun u : Nat × Nat × (Int → Int) => [gRLC K ad, gBuf K (ad 1) (ad 12) 0 B0, gScn K (ad 3) (ad 14) (ad 15) (ad 16) (ad 17) ou mi bo ln LF sn SF, gScn K (ad 4) (ad 18) (ad 19) (ad 20) (ad 21) ou_t mi_t bo_t ln_t LF_t sn_t SF_t, gPrsC K (ad 11) (ad 1) (ad 4) qp qs qk qn qo qb qe qf, gHisC K (ad 5) (ad 22) (0 : Int) 0, gQS K (ad 22) 6 (fun _ => none), gSb K nw9 u.1 u.2.1 (((n + (l37.length : Int)) + dgs (drwN K (31 + (3 * w)) nl)) + (l38.length : Int)) u.2.2, gArr K N18 nw18 IX])) S C hG [7] (c_J4_append_15ec4 l K 38 l38 nw9 b2_303 cap2_303 ((n + (l37.length : Int)) + dgs (drwN K (31 + (3 * w)) nl)) F2_303 ((tx ++ l37) ++ dgL (drwN K (31 + (3 * w)) nl)) tx38 (by decide) (by omega) hO2_303 (by omega)) rfl rfl 0 rfl rfl (cwV 1 S.2.2.2.2 gL_load_J4_append_15ec4 rfl rfl rfl (by decide +kernel) ⟨Nat.le_of_ble_eq_true rfl, Nat.le_of_ble_eq_true rfl⟩) rfl hl.1 rfl (Nat.le_of_ble_eq_true rfl) dL_load_328 ⟨show ((kc274 + 1) + 1) + 1 ≤ 66 by omega, show ((ks274 + 640) + 640) + 640 ≤ 36643 by omega⟩ (fun _ => Nat.le_of_ble_eq_true rfl) (fun _ => rfl) (fun v u H locs hp hG => ?_)
                    obtain ⟨b2_328, cap2_328, F2_328⟩ := u
                    obtain ⟨rfl, hc2_328, hO2_328⟩ := hp
                    have hc2_328 : ((n + (l37.length : Int)) + dgs (drwN K (31 + (3 * w)) nl)) + (l38.length : Int) ≤ (cap2_328 : Int) ∧ (cap2_328 : Int) ≤ 602 := hc2_328
                    have hO2_328 : OutI F2_328 (((n + (l37.length : Int)) + dgs (drwN K (31 + (3 * w)) nl)) + (l38.length : Int)) (((tx ++ l37) ++ dgL (drwN K (31 + (3 * w)) nl)) ++ l38) := hO2_328
                    have hG : gW K A s.heap [gRLC K ad, gBuf K (ad 1) (ad 12) 0 B0, gScn K (ad 3) (ad 14) (ad 15) (ad 16) (ad 17) ou mi bo ln LF sn SF, gScn K (ad 4) (ad 18) (ad 19) (ad 20) (ad 21) ou_t mi_t bo_t ln_t LF_t sn_t SF_t, gPrsC K (ad 11) (ad 1) (ad 4) qp qs qk qn qo qb qe qf, gHisC K (ad 5) (ad 22) (0 : Int) 0, gQS K (ad 22) 6 (fun _ => none), gSb K nw9 b2_328 cap2_328 (((n + (l37.length : Int)) + dgs (drwN K (31 + (3 * w)) nl)) + (l38.length : Int)) F2_328, gArr K N18 nw18 IX] _ _ := hG
                    have hc_328 := hc2_328
                    have hx9 := hI.2.2.2.2.2.2 (drwN K (31 + (3 * w)) nl) (by omega) (by omega)
                    refine lv_aload_n S.1 S.2.1 dL_load_331 rfl (lv_at hl 2 rfl) ?_
                    refine g_bipush S dL_load_332 (by decide) ?_
                    refine g_iconst S dL_load_334 ?_
                    refine lv_iload S.1 S.2.1 dL_load_335 (lv_at hl 10 rfl) ?_
                    refine g_imul S dL_load_337 rfl ?_
                    refine g_iadd S dL_load_338 rfl ?_
                    refine lv_aload S.1 S.2.1 dL_load_339 (lv_at hl 5 rfl) ?_
                    refine lv_iload S.1 S.2.1 dL_load_341 (lv_at hl 0 rfl) ?_
                    refine g_iald S C hG 18 rfl (by omega) (by omega) (by omega) dL_load_343 ?_
                    refine g_invS (As := [.ref (K.2.2.2.2 42), .int (iI (33 + (3 * w))), .int (iI (IX (drwN K (31 + (3 * w)) nl)))]) (rest := [.ref nw9]) (gs' := (fun u : Unit => [gRLC K ad, gBuf K (ad 1) (ad 12) 0 B0, gScn K (ad 3) (ad 14) (ad 15) (ad 16) (ad 17) ou mi bo ln LF sn SF, gScn K (ad 4) (ad 18) (ad 19) (ad 20) (ad 21) ou_t mi_t bo_t ln_t LF_t sn_t SF_t, gPrsC K (ad 11) (ad 1) (ad 4) qp qs qk qn qo qb qe qf, gHisC K (ad 5) (ad 22) (0 : Int) 0, gQS K (ad 22) 6 (fun _ => none), gSb K nw9 b2_328 cap2_328 (((n + (l37.length : Int)) + dgs (drwN K (31 + (3 * w)) nl)) + (l38.length : Int)) F2_328, gArr K N18 nw18 IX])) S C hG [] (c_L_draw l K (33 + (3 * w)) (IX (drwN K (31 + (3 * w)) nl)) (by omega) (by omega)) rfl rfl (va_cwS 3 S.2.2.2.2 gL_load_L_draw rfl rfl rfl (by decide +kernel) ⟨Nat.le_of_ble_eq_true rfl, Nat.le_of_ble_eq_true rfl⟩) rfl hl.1 rfl (Nat.le_of_ble_eq_true rfl) dL_load_344 ⟨show (((kc274 + 1) + 1) + 1) + 0 ≤ 66 by omega, show (((ks274 + 640) + 640) + 640) + 0 ≤ 36643 by omega⟩ (fun _ => Nat.le_of_ble_eq_true rfl) (fun _ => rfl) (fun v u H locs hp hG => ?_)
                    subst hp
                    have hd344 := drwN_bd K (33 + (3 * w)) (n := IX (drwN K (31 + (3 * w)) nl)) (by omega)
                    have g9 := dgs_bd (drwN K (33 + (3 * w)) (IX (drwN K (31 + (3 * w)) nl)))
                    refine g_invV (As := [.int (iI (drwN K (33 + (3 * w)) (IX (drwN K (31 + (3 * w)) nl))))]) (rest := []) (gs' := (fun u : Nat × Nat × (Int → Int) => [gRLC K ad, gBuf K (ad 1) (ad 12) 0 B0, gScn K (ad 3) (ad 14) (ad 15) (ad 16) (ad 17) ou mi bo ln LF sn SF, gScn K (ad 4) (ad 18) (ad 19) (ad 20) (ad 21) ou_t mi_t bo_t ln_t LF_t sn_t SF_t, gPrsC K (ad 11) (ad 1) (ad 4) qp qs qk qn qo qb qe qf, gHisC K (ad 5) (ad 22) (0 : Int) 0, gQS K (ad 22) 6 (fun _ => none), gSb K nw9 u.1 u.2.1 ((((n + (l37.length : Int)) + dgs (drwN K (31 + (3 * w)) nl)) + (l38.length : Int)) + dgs (drwN K (33 + (3 * w)) (IX (drwN K (31 + (3 * w)) nl)))) u.2.2, gArr K N18 nw18 IX])) S C hG [7] (c_J4_append_bf812 l K nw9 b2_328 cap2_328 (((n + (l37.length : Int)) + dgs (drwN K (31 + (3 * w)) nl)) + (l38.length : Int)) F2_328 (((tx ++ l37) ++ dgL (drwN K (31 + (3 * w)) nl)) ++ l38) (drwN K (33 + (3 * w)) (IX (drwN K (31 + (3 * w)) nl))) (by omega) hO2_328 (by omega) (by omega)) rfl rfl 0 rfl rfl (cwV 1 S.2.2.2.2 gL_load_J4_append_bf812 rfl rfl rfl (by decide +kernel) ⟨Nat.le_of_ble_eq_true rfl, Nat.le_of_ble_eq_true rfl⟩) rfl hl.1 rfl (Nat.le_of_ble_eq_true rfl) dL_load_347 ⟨show (((kc274 + 1) + 1) + 1) + 1 ≤ 66 by omega, show (((ks274 + 640) + 640) + 640) + 640 ≤ 36643 by omega⟩ (fun _ => Nat.le_of_ble_eq_true rfl) (fun _ => rfl) (fun v u H locs hp hG => ?_)
                    obtain ⟨b2_347, cap2_347, F2_347⟩ := u
                    obtain ⟨rfl, hc2_347, hO2_347⟩ := hp
                    have hc2_347 : (((n + (l37.length : Int)) + dgs (drwN K (31 + (3 * w)) nl)) + (l38.length : Int)) + dgs (drwN K (33 + (3 * w)) (IX (drwN K (31 + (3 * w)) nl))) ≤ (cap2_347 : Int) ∧ (cap2_347 : Int) ≤ 602 := hc2_347
                    have hO2_347 : OutI F2_347 ((((n + (l37.length : Int)) + dgs (drwN K (31 + (3 * w)) nl)) + (l38.length : Int)) + dgs (drwN K (33 + (3 * w)) (IX (drwN K (31 + (3 * w)) nl)))) ((((tx ++ l37) ++ dgL (drwN K (31 + (3 * w)) nl)) ++ l38) ++ dgL (drwN K (33 + (3 * w)) (IX (drwN K (31 + (3 * w)) nl)))) := hO2_347
                    have hG : gW K A s.heap [gRLC K ad, gBuf K (ad 1) (ad 12) 0 B0, gScn K (ad 3) (ad 14) (ad 15) (ad 16) (ad 17) ou mi bo ln LF sn SF, gScn K (ad 4) (ad 18) (ad 19) (ad 20) (ad 21) ou_t mi_t bo_t ln_t LF_t sn_t SF_t, gPrsC K (ad 11) (ad 1) (ad 4) qp qs qk qn qo qb qe qf, gHisC K (ad 5) (ad 22) (0 : Int) 0, gQS K (ad 22) 6 (fun _ => none), gSb K nw9 b2_347 cap2_347 ((((n + (l37.length : Int)) + dgs (drwN K (31 + (3 * w)) nl)) + (l38.length : Int)) + dgs (drwN K (33 + (3 * w)) (IX (drwN K (31 + (3 * w)) nl)))) F2_347, gArr K N18 nw18 IX] _ _ := hG
                    have hc_347 := hc2_347
                    refine va_ldcS (q := K.2.2.2.1 33) S.1 S.2.1 S.2.2.2.1 (C.1.2.2.1 (RL, 63, ";", 33) sw_33) dL_load_350 ?_
                    have q9 : (l33.length : Int) = 1 := rfl
                    refine g_invV (As := [.ref (K.2.2.2.1 33)]) (rest := []) (gs' := (fun u : Nat × Nat × (Int → Int) => [gRLC K ad, gBuf K (ad 1) (ad 12) 0 B0, gScn K (ad 3) (ad 14) (ad 15) (ad 16) (ad 17) ou mi bo ln LF sn SF, gScn K (ad 4) (ad 18) (ad 19) (ad 20) (ad 21) ou_t mi_t bo_t ln_t LF_t sn_t SF_t, gPrsC K (ad 11) (ad 1) (ad 4) qp qs qk qn qo qb qe qf, gHisC K (ad 5) (ad 22) (0 : Int) 0, gQS K (ad 22) 6 (fun _ => none), gSb K nw9 u.1 u.2.1 (((((n + (l37.length : Int)) + dgs (drwN K (31 + (3 * w)) nl)) + (l38.length : Int)) + dgs (drwN K (33 + (3 * w)) (IX (drwN K (31 + (3 * w)) nl)))) + (l33.length : Int)) u.2.2, gArr K N18 nw18 IX])) S C hG [7] (c_J4_append_15ec4 l K 33 l33 nw9 b2_347 cap2_347 ((((n + (l37.length : Int)) + dgs (drwN K (31 + (3 * w)) nl)) + (l38.length : Int)) + dgs (drwN K (33 + (3 * w)) (IX (drwN K (31 + (3 * w)) nl)))) F2_347 ((((tx ++ l37) ++ dgL (drwN K (31 + (3 * w)) nl)) ++ l38) ++ dgL (drwN K (33 + (3 * w)) (IX (drwN K (31 + (3 * w)) nl)))) tx33 (by decide) (by omega) hO2_347 (by omega)) rfl rfl 0 rfl rfl (cwV 1 S.2.2.2.2 gL_load_J4_append_15ec4 rfl rfl rfl (by decide +kernel) ⟨Nat.le_of_ble_eq_true rfl, Nat.le_of_ble_eq_true rfl⟩) rfl hl.1 rfl (Nat.le_of_ble_eq_true rfl) dL_load_352 ⟨show ((((kc274 + 1) + 1) + 1) + 1) + 1 ≤ 66 by omega, show ((((ks274 + 640) + 640) + 640) + 640) + 640 ≤ 36643 by omega⟩ (fun _ => Nat.le_of_ble_eq_true rfl) (fun _ => rfl) (fun v u H locs hp hG => ?_)
                    obtain ⟨b2_352, cap2_352, F2_352⟩ := u
                    obtain ⟨rfl, hc2_352, hO2_352⟩ := hp
                    have hc2_352 : ((((n + (l37.length : Int)) + dgs (drwN K (31 + (3 * w)) nl)) + (l38.length : Int)) + dgs (drwN K (33 + (3 * w)) (IX (drwN K (31 + (3 * w)) nl)))) + (l33.length : Int) ≤ (cap2_352 : Int) ∧ (cap2_352 : Int) ≤ 602 := hc2_352
                    have hO2_352 : OutI F2_352 (((((n + (l37.length : Int)) + dgs (drwN K (31 + (3 * w)) nl)) + (l38.length : Int)) + dgs (drwN K (33 + (3 * w)) (IX (drwN K (31 + (3 * w)) nl)))) + (l33.length : Int)) (((((tx ++ l37) ++ dgL (drwN K (31 + (3 * w)) nl)) ++ l38) ++ dgL (drwN K (33 + (3 * w)) (IX (drwN K (31 + (3 * w)) nl)))) ++ l33) := hO2_352
                    have hG : gW K A s.heap [gRLC K ad, gBuf K (ad 1) (ad 12) 0 B0, gScn K (ad 3) (ad 14) (ad 15) (ad 16) (ad 17) ou mi bo ln LF sn SF, gScn K (ad 4) (ad 18) (ad 19) (ad 20) (ad 21) ou_t mi_t bo_t ln_t LF_t sn_t SF_t, gPrsC K (ad 11) (ad 1) (ad 4) qp qs qk qn qo qb qe qf, gHisC K (ad 5) (ad 22) (0 : Int) 0, gQS K (ad 22) 6 (fun _ => none), gSb K nw9 b2_352 cap2_352 (((((n + (l37.length : Int)) + dgs (drwN K (31 + (3 * w)) nl)) + (l38.length : Int)) + dgs (drwN K (33 + (3 * w)) (IX (drwN K (31 + (3 * w)) nl)))) + (l33.length : Int)) F2_352, gArr K N18 nw18 IX] _ _ := hG
                    have hc_352 := hc2_352
                    refine lv_pop S.1 S.2.1 dL_load_355 rfl ?_
                    refine lv_iinc (v := iI (w + 1)) (lv' := [(9, .int (iI (w + 1))), (10, .int (iI (drwN K (31 + (3 * w)) nl))), (0, .ref (ad 0)), (1, .ref (K.2.2.2.2 42)), (2, .int (iI nl)), (3, .ref nw9), (4, .ref nw18), (5, .int (iI o5)), (6, .int (iI b6)), (7, .int (iI bl)), (8, .int (iI s8))]) S.1 S.2.1 dL_load_356 hl (k := 10) rfl (g_iinc rfl) (by decide) rfl (fun ls hl => ?_)
                    refine lv_goto (tgt := 274) S.1 S.2.1 dL_load_359 (by decide) ?_
                    exact ih274 (w + 1) (((((n + (l37.length : Int)) + dgs (drwN K (31 + (3 * w)) nl)) + (l38.length : Int)) + dgs (drwN K (33 + (3 * w)) (IX (drwN K (31 + (3 * w)) nl)))) + (l33.length : Int)) F2_352 b2_352 cap2_352 (((((tx ++ l37) ++ dgL (drwN K (31 + (3 * w)) nl)) ++ l38) ++ dgL (drwN K (33 + (3 * w)) (IX (drwN K (31 + (3 * w)) nl)))) ++ l33) (addSN M (drwN K (31 + (3 * w)) nl) 1 (drwN K (33 + (3 * w)) (IX (drwN K (31 + (3 * w)) nl)))) (((((kc274 + 1) + 1) + 1) + 1) + 1) (((((ks274 + 640) + 640) + 640) + 640) + 640) _ _ _ (by omega) (by omega) hO2_352 (by omega) (by omega) (hT9.sho (by have := hI.1; omega) (by have := hI.2.2.2.2.1; omega) (by have := hI.1; omega) (by have := hx9.1; omega)).1 (hI.sho (by omega) (by omega) (Or.inr rfl) (by omega) (by omega)) (by omega) (lv_sub hl [2, 3, 4, 5, 6, 7, 8, 9, 10, 0] rfl) hG
            exact L274 (Nat.succ ((s8 - 0).toNat)) 0 n F b cap tx M ((kc25 + 3) + 3) ((ks25 + 1920) + 1920) _ _ _ (Nat.lt_succ_self _) (by omega) hO hc (by omega) hT9 hI (by omega) (lv_sub hl [2, 3, 4, 5, 6, 7, 8, 9, 1, 0] rfl) hG
          refine lv_iload S.1 S.2.1 dL_load_184 (lv_at hl 0 rfl) ?_
          refine g_iconst S dL_load_186 ?_
          refine g_icmp_ne (tgt := 201) S dL_load_187 (by decide) (by omega) (by omega) (fun q187 => ?_) (fun q187 => ?_)
          · skip
            refine g_sipush S dL_load_201 (by decide) ?_
            refine lv_aload_n S.1 S.2.1 dL_load_204 rfl (lv_at hl 2 rfl) ?_
            refine g_bipush S dL_load_205 (by decide) ?_
            refine g_sipush S dL_load_207 (by decide) ?_
            refine g_invS (As := [.ref (K.2.2.2.2 42), .int (iI 29), .int (iI 3001)]) (rest := [.int (iI 1000)]) (gs' := (fun u : Unit => [gRLC K ad, gBuf K (ad 1) (ad 12) 0 B0, gScn K (ad 3) (ad 14) (ad 15) (ad 16) (ad 17) ou mi bo ln LF sn SF, gScn K (ad 4) (ad 18) (ad 19) (ad 20) (ad 21) ou_t mi_t bo_t ln_t LF_t sn_t SF_t, gPrsC K (ad 11) (ad 1) (ad 4) qp qs qk qn qo qb qe qf, gHisC K (ad 5) (ad 22) (0 : Int) 0, gQS K (ad 22) 6 (fun _ => none), gSb K nw9 b cap n F, gArr K N18 nw18 IX])) S C hG [] (c_L_draw l K 29 3001 (by omega) (by omega)) rfl rfl (va_cwS 3 S.2.2.2.2 gL_load_L_draw rfl rfl rfl (by decide +kernel) ⟨Nat.le_of_ble_eq_true rfl, Nat.le_of_ble_eq_true rfl⟩) rfl hl.1 rfl (Nat.le_of_ble_eq_true rfl) dL_load_210 ⟨show (kc25 + 3) + 0 ≤ 66 by omega, show (ks25 + 1920) + 0 ≤ 36643 by omega⟩ (fun _ => Nat.le_of_ble_eq_true rfl) (fun _ => rfl) (fun v u H locs hp hG => ?_)
            subst hp
            have hd210 := drwN_bd K 29 (n := 3001) (by omega)
            refine g_iadd S dL_load_213 rfl ?_
            refine lv_istore (lv' := [(7, .int (iI (1000 + (drwN K 29 3001)))), (6, .int (iI b6)), (0, .ref (ad 0)), (1, .ref (K.2.2.2.2 42)), (2, .int (iI nl)), (3, .ref nw9), (4, .ref nw18), (5, .int (iI o5))]) S.1 S.2.1 dL_load_214 hl (by decide) rfl (fun ls hl => ?_)
            refine lv_iload S.1 S.2.1 dL_load_216 (lv_at hl 1 rfl) ?_
            refine g_iconst S dL_load_218 ?_
            refine g_icmp_ne (tgt := 239) S dL_load_219 (by decide) (by omega) (by omega) (fun q219 => ?_) (fun q219 => ?_)
            · skip
              refine lv_iload S.1 S.2.1 dL_load_239 (lv_at hl 1 rfl) ?_
              refine g_iconst S dL_load_241 ?_
              refine g_icmp_ne (tgt := 262) S dL_load_242 (by decide) (by omega) (by omega) (fun q242 => ?_) (fun q242 => ?_)
              · skip
                refine W.widen (k := ((kc25 + 3) + 3)) (n := ((ks25 + 1920) + 1920)) (by omega) (by omega) ?_
                exact J262 n F b cap tx M 0 0 1000 (1000 + (drwN K 29 3001)) _ _ _ hO (by omega) (by omega) hT9 hI ⟨fun z => absurd z (by omega), fun z => absurd z (by omega), fun _ _ => ⟨rfl, rfl⟩⟩ (by omega) (lv_sub hl [2, 3, 4, 5, 6, 7, 1, 0] rfl) hG
              · skip
                refine lv_aload_n S.1 S.2.1 dL_load_245 rfl (lv_at hl 5 rfl) ?_
                refine va_ldcS (q := K.2.2.2.1 36) S.1 S.2.1 S.2.2.2.1 (C.1.2.2.1 (RL, 69, "bottom open ", 36) sw_36) dL_load_246 ?_
                have q9 : (l36.length : Int) = 12 := rfl
                refine g_invV (As := [.ref (K.2.2.2.1 36)]) (rest := []) (gs' := (fun u : Nat × Nat × (Int → Int) => [gRLC K ad, gBuf K (ad 1) (ad 12) 0 B0, gScn K (ad 3) (ad 14) (ad 15) (ad 16) (ad 17) ou mi bo ln LF sn SF, gScn K (ad 4) (ad 18) (ad 19) (ad 20) (ad 21) ou_t mi_t bo_t ln_t LF_t sn_t SF_t, gPrsC K (ad 11) (ad 1) (ad 4) qp qs qk qn qo qb qe qf, gHisC K (ad 5) (ad 22) (0 : Int) 0, gQS K (ad 22) 6 (fun _ => none), gSb K nw9 u.1 u.2.1 (n + (l36.length : Int)) u.2.2, gArr K N18 nw18 IX])) S C hG [7] (c_J4_append_15ec4 l K 36 l36 nw9 b cap n F tx tx36 (by decide) (by omega) hO (by omega)) rfl rfl 0 rfl rfl (cwV 1 S.2.2.2.2 gL_load_J4_append_15ec4 rfl rfl rfl (by decide +kernel) ⟨Nat.le_of_ble_eq_true rfl, Nat.le_of_ble_eq_true rfl⟩) rfl hl.1 rfl (Nat.le_of_ble_eq_true rfl) dL_load_248 ⟨show (kc25 + 3) + 1 ≤ 66 by omega, show (ks25 + 1920) + 640 ≤ 36643 by omega⟩ (fun _ => Nat.le_of_ble_eq_true rfl) (fun _ => rfl) (fun v u H locs hp hG => ?_)
                obtain ⟨b2_248, cap2_248, F2_248⟩ := u
                obtain ⟨rfl, hc2_248, hO2_248⟩ := hp
                have hc2_248 : n + (l36.length : Int) ≤ (cap2_248 : Int) ∧ (cap2_248 : Int) ≤ 602 := hc2_248
                have hO2_248 : OutI F2_248 (n + (l36.length : Int)) (tx ++ l36) := hO2_248
                have hG : gW K A s.heap [gRLC K ad, gBuf K (ad 1) (ad 12) 0 B0, gScn K (ad 3) (ad 14) (ad 15) (ad 16) (ad 17) ou mi bo ln LF sn SF, gScn K (ad 4) (ad 18) (ad 19) (ad 20) (ad 21) ou_t mi_t bo_t ln_t LF_t sn_t SF_t, gPrsC K (ad 11) (ad 1) (ad 4) qp qs qk qn qo qb qe qf, gHisC K (ad 5) (ad 22) (0 : Int) 0, gQS K (ad 22) 6 (fun _ => none), gSb K nw9 b2_248 cap2_248 (n + (l36.length : Int)) F2_248, gArr K N18 nw18 IX] _ _ := hG
                have hc_248 := hc2_248
                refine lv_iload S.1 S.2.1 dL_load_251 (lv_at hl 0 rfl) ?_
                have g9 := dgs_bd (1000 + (drwN K 29 3001))
                refine g_invV (As := [.int (iI (1000 + (drwN K 29 3001)))]) (rest := []) (gs' := (fun u : Nat × Nat × (Int → Int) => [gRLC K ad, gBuf K (ad 1) (ad 12) 0 B0, gScn K (ad 3) (ad 14) (ad 15) (ad 16) (ad 17) ou mi bo ln LF sn SF, gScn K (ad 4) (ad 18) (ad 19) (ad 20) (ad 21) ou_t mi_t bo_t ln_t LF_t sn_t SF_t, gPrsC K (ad 11) (ad 1) (ad 4) qp qs qk qn qo qb qe qf, gHisC K (ad 5) (ad 22) (0 : Int) 0, gQS K (ad 22) 6 (fun _ => none), gSb K nw9 u.1 u.2.1 ((n + (l36.length : Int)) + dgs (1000 + (drwN K 29 3001))) u.2.2, gArr K N18 nw18 IX])) S C hG [7] (c_J4_append_bf812 l K nw9 b2_248 cap2_248 (n + (l36.length : Int)) F2_248 (tx ++ l36) (1000 + (drwN K 29 3001)) (by omega) hO2_248 (by omega) (by omega)) rfl rfl 0 rfl rfl (cwV 1 S.2.2.2.2 gL_load_J4_append_bf812 rfl rfl rfl (by decide +kernel) ⟨Nat.le_of_ble_eq_true rfl, Nat.le_of_ble_eq_true rfl⟩) rfl hl.1 rfl (Nat.le_of_ble_eq_true rfl) dL_load_253 ⟨show ((kc25 + 3) + 1) + 1 ≤ 66 by omega, show ((ks25 + 1920) + 640) + 640 ≤ 36643 by omega⟩ (fun _ => Nat.le_of_ble_eq_true rfl) (fun _ => rfl) (fun v u H locs hp hG => ?_)
                obtain ⟨b2_253, cap2_253, F2_253⟩ := u
                obtain ⟨rfl, hc2_253, hO2_253⟩ := hp
                have hc2_253 : (n + (l36.length : Int)) + dgs (1000 + (drwN K 29 3001)) ≤ (cap2_253 : Int) ∧ (cap2_253 : Int) ≤ 602 := hc2_253
                have hO2_253 : OutI F2_253 ((n + (l36.length : Int)) + dgs (1000 + (drwN K 29 3001))) ((tx ++ l36) ++ dgL (1000 + (drwN K 29 3001))) := hO2_253
                have hG : gW K A s.heap [gRLC K ad, gBuf K (ad 1) (ad 12) 0 B0, gScn K (ad 3) (ad 14) (ad 15) (ad 16) (ad 17) ou mi bo ln LF sn SF, gScn K (ad 4) (ad 18) (ad 19) (ad 20) (ad 21) ou_t mi_t bo_t ln_t LF_t sn_t SF_t, gPrsC K (ad 11) (ad 1) (ad 4) qp qs qk qn qo qb qe qf, gHisC K (ad 5) (ad 22) (0 : Int) 0, gQS K (ad 22) 6 (fun _ => none), gSb K nw9 b2_253 cap2_253 ((n + (l36.length : Int)) + dgs (1000 + (drwN K 29 3001))) F2_253, gArr K N18 nw18 IX] _ _ := hG
                have hc_253 := hc2_253
                refine va_ldcS (q := K.2.2.2.1 33) S.1 S.2.1 S.2.2.2.1 (C.1.2.2.1 (RL, 63, ";", 33) sw_33) dL_load_256 ?_
                have q9 : (l33.length : Int) = 1 := rfl
                refine g_invV (As := [.ref (K.2.2.2.1 33)]) (rest := []) (gs' := (fun u : Nat × Nat × (Int → Int) => [gRLC K ad, gBuf K (ad 1) (ad 12) 0 B0, gScn K (ad 3) (ad 14) (ad 15) (ad 16) (ad 17) ou mi bo ln LF sn SF, gScn K (ad 4) (ad 18) (ad 19) (ad 20) (ad 21) ou_t mi_t bo_t ln_t LF_t sn_t SF_t, gPrsC K (ad 11) (ad 1) (ad 4) qp qs qk qn qo qb qe qf, gHisC K (ad 5) (ad 22) (0 : Int) 0, gQS K (ad 22) 6 (fun _ => none), gSb K nw9 u.1 u.2.1 (((n + (l36.length : Int)) + dgs (1000 + (drwN K 29 3001))) + (l33.length : Int)) u.2.2, gArr K N18 nw18 IX])) S C hG [7] (c_J4_append_15ec4 l K 33 l33 nw9 b2_253 cap2_253 ((n + (l36.length : Int)) + dgs (1000 + (drwN K 29 3001))) F2_253 ((tx ++ l36) ++ dgL (1000 + (drwN K 29 3001))) tx33 (by decide) (by omega) hO2_253 (by omega)) rfl rfl 0 rfl rfl (cwV 1 S.2.2.2.2 gL_load_J4_append_15ec4 rfl rfl rfl (by decide +kernel) ⟨Nat.le_of_ble_eq_true rfl, Nat.le_of_ble_eq_true rfl⟩) rfl hl.1 rfl (Nat.le_of_ble_eq_true rfl) dL_load_258 ⟨show (((kc25 + 3) + 1) + 1) + 1 ≤ 66 by omega, show (((ks25 + 1920) + 640) + 640) + 640 ≤ 36643 by omega⟩ (fun _ => Nat.le_of_ble_eq_true rfl) (fun _ => rfl) (fun v u H locs hp hG => ?_)
                obtain ⟨b2_258, cap2_258, F2_258⟩ := u
                obtain ⟨rfl, hc2_258, hO2_258⟩ := hp
                have hc2_258 : ((n + (l36.length : Int)) + dgs (1000 + (drwN K 29 3001))) + (l33.length : Int) ≤ (cap2_258 : Int) ∧ (cap2_258 : Int) ≤ 602 := hc2_258
                have hO2_258 : OutI F2_258 (((n + (l36.length : Int)) + dgs (1000 + (drwN K 29 3001))) + (l33.length : Int)) (((tx ++ l36) ++ dgL (1000 + (drwN K 29 3001))) ++ l33) := hO2_258
                have hG : gW K A s.heap [gRLC K ad, gBuf K (ad 1) (ad 12) 0 B0, gScn K (ad 3) (ad 14) (ad 15) (ad 16) (ad 17) ou mi bo ln LF sn SF, gScn K (ad 4) (ad 18) (ad 19) (ad 20) (ad 21) ou_t mi_t bo_t ln_t LF_t sn_t SF_t, gPrsC K (ad 11) (ad 1) (ad 4) qp qs qk qn qo qb qe qf, gHisC K (ad 5) (ad 22) (0 : Int) 0, gQS K (ad 22) 6 (fun _ => none), gSb K nw9 b2_258 cap2_258 (((n + (l36.length : Int)) + dgs (1000 + (drwN K 29 3001))) + (l33.length : Int)) F2_258, gArr K N18 nw18 IX] _ _ := hG
                have hc_258 := hc2_258
                refine lv_pop S.1 S.2.1 dL_load_261 rfl ?_
                refine W.widen (k := ((kc25 + 3) + 3)) (n := ((ks25 + 1920) + 1920)) (by omega) (by omega) ?_
                exact J262 (((n + (l36.length : Int)) + dgs (1000 + (drwN K 29 3001))) + (l33.length : Int)) F2_258 b2_258 cap2_258 (((tx ++ l36) ++ dgL (1000 + (drwN K 29 3001))) ++ l33) (upI (upI M 2 0) 3 (1000 + (drwN K 29 3001))) 1 0 (1000 + (drwN K 29 3001)) (1000 + (drwN K 29 3001)) _ _ _ hO2_258 (by omega) (by omega) (hT9.opn (by have := hI.1; omega) (by decide) (by omega)) (hI.bot (Or.inl ⟨rfl, by omega⟩)) ⟨fun z => absurd z (by omega), fun _ => ⟨rfl, rfl⟩, fun _ z => absurd (by omega) z⟩ (by omega) (lv_sub hl [2, 3, 4, 5, 6, 7, 1, 0] rfl) hG
            · skip
              omega
          · skip
            refine lv_aload_n S.1 S.2.1 dL_load_190 rfl (lv_at hl 2 rfl) ?_
            refine g_bipush S dL_load_191 (by decide) ?_
            refine g_bipush S dL_load_193 (by decide) ?_
            refine g_invS (As := [.ref (K.2.2.2.2 42), .int (iI 29), .int (iI 101)]) (rest := []) (gs' := (fun u : Unit => [gRLC K ad, gBuf K (ad 1) (ad 12) 0 B0, gScn K (ad 3) (ad 14) (ad 15) (ad 16) (ad 17) ou mi bo ln LF sn SF, gScn K (ad 4) (ad 18) (ad 19) (ad 20) (ad 21) ou_t mi_t bo_t ln_t LF_t sn_t SF_t, gPrsC K (ad 11) (ad 1) (ad 4) qp qs qk qn qo qb qe qf, gHisC K (ad 5) (ad 22) (0 : Int) 0, gQS K (ad 22) 6 (fun _ => none), gSb K nw9 b cap n F, gArr K N18 nw18 IX])) S C hG [] (c_L_draw l K 29 101 (by omega) (by omega)) rfl rfl (va_cwS 3 S.2.2.2.2 gL_load_L_draw rfl rfl rfl (by decide +kernel) ⟨Nat.le_of_ble_eq_true rfl, Nat.le_of_ble_eq_true rfl⟩) rfl hl.1 rfl (Nat.le_of_ble_eq_true rfl) dL_load_195 ⟨show (kc25 + 3) + 0 ≤ 66 by omega, show (ks25 + 1920) + 0 ≤ 36643 by omega⟩ (fun _ => Nat.le_of_ble_eq_true rfl) (fun _ => rfl) (fun v u H locs hp hG => ?_)
            subst hp
            have hd195 := drwN_bd K 29 (n := 101) (by omega)
            refine lv_goto (tgt := 214) S.1 S.2.1 dL_load_198 (by decide) ?_
            refine lv_istore (lv' := [(7, .int (iI (drwN K 29 101))), (6, .int (iI b6)), (0, .ref (ad 0)), (1, .ref (K.2.2.2.2 42)), (2, .int (iI nl)), (3, .ref nw9), (4, .ref nw18), (5, .int (iI o5))]) S.1 S.2.1 dL_load_214 hl (by decide) rfl (fun ls hl => ?_)
            refine lv_iload S.1 S.2.1 dL_load_216 (lv_at hl 1 rfl) ?_
            refine g_iconst S dL_load_218 ?_
            refine g_icmp_ne (tgt := 239) S dL_load_219 (by decide) (by omega) (by omega) (fun q219 => ?_) (fun q219 => ?_)
            · skip
              omega
            · skip
              refine lv_aload_n S.1 S.2.1 dL_load_222 rfl (lv_at hl 5 rfl) ?_
              refine va_ldcS (q := K.2.2.2.1 35) S.1 S.2.1 S.2.2.2.1 (C.1.2.2.1 (RL, 67, "bottom mirror ", 35) sw_35) dL_load_223 ?_
              have q9 : (l35.length : Int) = 14 := rfl
              refine g_invV (As := [.ref (K.2.2.2.1 35)]) (rest := []) (gs' := (fun u : Nat × Nat × (Int → Int) => [gRLC K ad, gBuf K (ad 1) (ad 12) 0 B0, gScn K (ad 3) (ad 14) (ad 15) (ad 16) (ad 17) ou mi bo ln LF sn SF, gScn K (ad 4) (ad 18) (ad 19) (ad 20) (ad 21) ou_t mi_t bo_t ln_t LF_t sn_t SF_t, gPrsC K (ad 11) (ad 1) (ad 4) qp qs qk qn qo qb qe qf, gHisC K (ad 5) (ad 22) (0 : Int) 0, gQS K (ad 22) 6 (fun _ => none), gSb K nw9 u.1 u.2.1 (n + (l35.length : Int)) u.2.2, gArr K N18 nw18 IX])) S C hG [7] (c_J4_append_15ec4 l K 35 l35 nw9 b cap n F tx tx35 (by decide) (by omega) hO (by omega)) rfl rfl 0 rfl rfl (cwV 1 S.2.2.2.2 gL_load_J4_append_15ec4 rfl rfl rfl (by decide +kernel) ⟨Nat.le_of_ble_eq_true rfl, Nat.le_of_ble_eq_true rfl⟩) rfl hl.1 rfl (Nat.le_of_ble_eq_true rfl) dL_load_225 ⟨show (kc25 + 3) + 1 ≤ 66 by omega, show (ks25 + 1920) + 640 ≤ 36643 by omega⟩ (fun _ => Nat.le_of_ble_eq_true rfl) (fun _ => rfl) (fun v u H locs hp hG => ?_)
              obtain ⟨b2_225, cap2_225, F2_225⟩ := u
              obtain ⟨rfl, hc2_225, hO2_225⟩ := hp
              have hc2_225 : n + (l35.length : Int) ≤ (cap2_225 : Int) ∧ (cap2_225 : Int) ≤ 602 := hc2_225
              have hO2_225 : OutI F2_225 (n + (l35.length : Int)) (tx ++ l35) := hO2_225
              have hG : gW K A s.heap [gRLC K ad, gBuf K (ad 1) (ad 12) 0 B0, gScn K (ad 3) (ad 14) (ad 15) (ad 16) (ad 17) ou mi bo ln LF sn SF, gScn K (ad 4) (ad 18) (ad 19) (ad 20) (ad 21) ou_t mi_t bo_t ln_t LF_t sn_t SF_t, gPrsC K (ad 11) (ad 1) (ad 4) qp qs qk qn qo qb qe qf, gHisC K (ad 5) (ad 22) (0 : Int) 0, gQS K (ad 22) 6 (fun _ => none), gSb K nw9 b2_225 cap2_225 (n + (l35.length : Int)) F2_225, gArr K N18 nw18 IX] _ _ := hG
              have hc_225 := hc2_225
              refine lv_iload S.1 S.2.1 dL_load_228 (lv_at hl 0 rfl) ?_
              have g9 := dgs_bd (drwN K 29 101)
              refine g_invV (As := [.int (iI (drwN K 29 101))]) (rest := []) (gs' := (fun u : Nat × Nat × (Int → Int) => [gRLC K ad, gBuf K (ad 1) (ad 12) 0 B0, gScn K (ad 3) (ad 14) (ad 15) (ad 16) (ad 17) ou mi bo ln LF sn SF, gScn K (ad 4) (ad 18) (ad 19) (ad 20) (ad 21) ou_t mi_t bo_t ln_t LF_t sn_t SF_t, gPrsC K (ad 11) (ad 1) (ad 4) qp qs qk qn qo qb qe qf, gHisC K (ad 5) (ad 22) (0 : Int) 0, gQS K (ad 22) 6 (fun _ => none), gSb K nw9 u.1 u.2.1 ((n + (l35.length : Int)) + dgs (drwN K 29 101)) u.2.2, gArr K N18 nw18 IX])) S C hG [7] (c_J4_append_bf812 l K nw9 b2_225 cap2_225 (n + (l35.length : Int)) F2_225 (tx ++ l35) (drwN K 29 101) (by omega) hO2_225 (by omega) (by omega)) rfl rfl 0 rfl rfl (cwV 1 S.2.2.2.2 gL_load_J4_append_bf812 rfl rfl rfl (by decide +kernel) ⟨Nat.le_of_ble_eq_true rfl, Nat.le_of_ble_eq_true rfl⟩) rfl hl.1 rfl (Nat.le_of_ble_eq_true rfl) dL_load_230 ⟨show ((kc25 + 3) + 1) + 1 ≤ 66 by omega, show ((ks25 + 1920) + 640) + 640 ≤ 36643 by omega⟩ (fun _ => Nat.le_of_ble_eq_true rfl) (fun _ => rfl) (fun v u H locs hp hG => ?_)
              obtain ⟨b2_230, cap2_230, F2_230⟩ := u
              obtain ⟨rfl, hc2_230, hO2_230⟩ := hp
              have hc2_230 : (n + (l35.length : Int)) + dgs (drwN K 29 101) ≤ (cap2_230 : Int) ∧ (cap2_230 : Int) ≤ 602 := hc2_230
              have hO2_230 : OutI F2_230 ((n + (l35.length : Int)) + dgs (drwN K 29 101)) ((tx ++ l35) ++ dgL (drwN K 29 101)) := hO2_230
              have hG : gW K A s.heap [gRLC K ad, gBuf K (ad 1) (ad 12) 0 B0, gScn K (ad 3) (ad 14) (ad 15) (ad 16) (ad 17) ou mi bo ln LF sn SF, gScn K (ad 4) (ad 18) (ad 19) (ad 20) (ad 21) ou_t mi_t bo_t ln_t LF_t sn_t SF_t, gPrsC K (ad 11) (ad 1) (ad 4) qp qs qk qn qo qb qe qf, gHisC K (ad 5) (ad 22) (0 : Int) 0, gQS K (ad 22) 6 (fun _ => none), gSb K nw9 b2_230 cap2_230 ((n + (l35.length : Int)) + dgs (drwN K 29 101)) F2_230, gArr K N18 nw18 IX] _ _ := hG
              have hc_230 := hc2_230
              refine va_ldcS (q := K.2.2.2.1 33) S.1 S.2.1 S.2.2.2.1 (C.1.2.2.1 (RL, 63, ";", 33) sw_33) dL_load_233 ?_
              have q9 : (l33.length : Int) = 1 := rfl
              refine g_invV (As := [.ref (K.2.2.2.1 33)]) (rest := []) (gs' := (fun u : Nat × Nat × (Int → Int) => [gRLC K ad, gBuf K (ad 1) (ad 12) 0 B0, gScn K (ad 3) (ad 14) (ad 15) (ad 16) (ad 17) ou mi bo ln LF sn SF, gScn K (ad 4) (ad 18) (ad 19) (ad 20) (ad 21) ou_t mi_t bo_t ln_t LF_t sn_t SF_t, gPrsC K (ad 11) (ad 1) (ad 4) qp qs qk qn qo qb qe qf, gHisC K (ad 5) (ad 22) (0 : Int) 0, gQS K (ad 22) 6 (fun _ => none), gSb K nw9 u.1 u.2.1 (((n + (l35.length : Int)) + dgs (drwN K 29 101)) + (l33.length : Int)) u.2.2, gArr K N18 nw18 IX])) S C hG [7] (c_J4_append_15ec4 l K 33 l33 nw9 b2_230 cap2_230 ((n + (l35.length : Int)) + dgs (drwN K 29 101)) F2_230 ((tx ++ l35) ++ dgL (drwN K 29 101)) tx33 (by decide) (by omega) hO2_230 (by omega)) rfl rfl 0 rfl rfl (cwV 1 S.2.2.2.2 gL_load_J4_append_15ec4 rfl rfl rfl (by decide +kernel) ⟨Nat.le_of_ble_eq_true rfl, Nat.le_of_ble_eq_true rfl⟩) rfl hl.1 rfl (Nat.le_of_ble_eq_true rfl) dL_load_235 ⟨show (((kc25 + 3) + 1) + 1) + 1 ≤ 66 by omega, show (((ks25 + 1920) + 640) + 640) + 640 ≤ 36643 by omega⟩ (fun _ => Nat.le_of_ble_eq_true rfl) (fun _ => rfl) (fun v u H locs hp hG => ?_)
              obtain ⟨b2_235, cap2_235, F2_235⟩ := u
              obtain ⟨rfl, hc2_235, hO2_235⟩ := hp
              have hc2_235 : ((n + (l35.length : Int)) + dgs (drwN K 29 101)) + (l33.length : Int) ≤ (cap2_235 : Int) ∧ (cap2_235 : Int) ≤ 602 := hc2_235
              have hO2_235 : OutI F2_235 (((n + (l35.length : Int)) + dgs (drwN K 29 101)) + (l33.length : Int)) (((tx ++ l35) ++ dgL (drwN K 29 101)) ++ l33) := hO2_235
              have hG : gW K A s.heap [gRLC K ad, gBuf K (ad 1) (ad 12) 0 B0, gScn K (ad 3) (ad 14) (ad 15) (ad 16) (ad 17) ou mi bo ln LF sn SF, gScn K (ad 4) (ad 18) (ad 19) (ad 20) (ad 21) ou_t mi_t bo_t ln_t LF_t sn_t SF_t, gPrsC K (ad 11) (ad 1) (ad 4) qp qs qk qn qo qb qe qf, gHisC K (ad 5) (ad 22) (0 : Int) 0, gQS K (ad 22) 6 (fun _ => none), gSb K nw9 b2_235 cap2_235 (((n + (l35.length : Int)) + dgs (drwN K 29 101)) + (l33.length : Int)) F2_235, gArr K N18 nw18 IX] _ _ := hG
              have hc_235 := hc2_235
              refine lv_pop S.1 S.2.1 dL_load_238 rfl ?_
              refine lv_iload S.1 S.2.1 dL_load_239 (lv_at hl 1 rfl) ?_
              refine g_iconst S dL_load_241 ?_
              refine g_icmp_ne (tgt := 262) S dL_load_242 (by decide) (by omega) (by omega) (fun q242 => ?_) (fun q242 => ?_)
              · skip
                refine W.widen (k := ((kc25 + 3) + 3)) (n := ((ks25 + 1920) + 1920)) (by omega) (by omega) ?_
                exact J262 (((n + (l35.length : Int)) + dgs (drwN K 29 101)) + (l33.length : Int)) F2_235 b2_235 cap2_235 (((tx ++ l35) ++ dgL (drwN K 29 101)) ++ l33) (upI (upI M 2 1) 3 (drwN K 29 101)) 1 1 (drwN K 29 101) (drwN K 29 101) _ _ _ hO2_235 (by omega) (by omega) (hT9.mir (by have := hI.1; omega) (by decide) (by omega)) (hI.bot (Or.inr ⟨rfl, by omega⟩)) ⟨fun _ => ⟨rfl, rfl⟩, fun z => absurd z (by omega), fun z => absurd (by omega) z⟩ (by omega) (lv_sub hl [2, 3, 4, 5, 6, 7, 1, 0] rfl) hG
              · skip
                omega
        refine lv_aload_n S.1 S.2.1 dL_load_148 rfl (lv_at hl 2 rfl) ?_
        refine g_bipush S dL_load_149 (by decide) ?_
        refine g_iconst S dL_load_151 ?_
        refine g_invS (As := [.ref (K.2.2.2.2 42), .int (iI 26), .int (iI 3)]) (rest := []) (gs' := (fun u : Unit => [gRLC K ad, gBuf K (ad 1) (ad 12) 0 B0, gScn K (ad 3) (ad 14) (ad 15) (ad 16) (ad 17) ou mi bo ln LF sn SF, gScn K (ad 4) (ad 18) (ad 19) (ad 20) (ad 21) ou_t mi_t bo_t ln_t LF_t sn_t SF_t, gPrsC K (ad 11) (ad 1) (ad 4) qp qs qk qn qo qb qe qf, gHisC K (ad 5) (ad 22) (0 : Int) 0, gQS K (ad 22) 6 (fun _ => none), gSb K nw9 b cap n F, gArr K N18 nw18 IX])) S C hG [] (c_L_draw l K 26 3 (by omega) (by omega)) rfl rfl (va_cwS 3 S.2.2.2.2 gL_load_L_draw rfl rfl rfl (by decide +kernel) ⟨Nat.le_of_ble_eq_true rfl, Nat.le_of_ble_eq_true rfl⟩) rfl hl.1 rfl (Nat.le_of_ble_eq_true rfl) dL_load_152 ⟨show kc25 + 0 ≤ 66 by omega, show ks25 + 0 ≤ 36643 by omega⟩ (fun _ => Nat.le_of_ble_eq_true rfl) (fun _ => rfl) (fun v u H locs hp hG => ?_)
        subst hp
        have hd152 := drwN_bd K 26 (n := 3) (by omega)
        refine g_if_ne (tgt := 175) S dL_load_155 (by decide) (by omega) (fun q155 => ?_) (fun q155 => ?_)
        · skip
          refine W.widen (k := (kc25 + 3)) (n := (ks25 + 1920)) (by omega) (by omega) ?_
          exact J175 n F b cap tx M 0 1000 _ _ _ hO (by omega) (by omega) hT9 hI ⟨fun z => absurd z (by omega), fun _ => rfl⟩ (lv_sub hl [1, 2, 3, 4, 5, 0] rfl) hG
        · skip
          refine lv_aload_n S.1 S.2.1 dL_load_158 rfl (lv_at hl 4 rfl) ?_
          refine va_ldcS (q := K.2.2.2.1 34) S.1 S.2.1 S.2.2.2.1 (C.1.2.2.1 (RL, 65, "outside ", 34) sw_34) dL_load_159 ?_
          have q9 : (l34.length : Int) = 8 := rfl
          refine g_invV (As := [.ref (K.2.2.2.1 34)]) (rest := []) (gs' := (fun u : Nat × Nat × (Int → Int) => [gRLC K ad, gBuf K (ad 1) (ad 12) 0 B0, gScn K (ad 3) (ad 14) (ad 15) (ad 16) (ad 17) ou mi bo ln LF sn SF, gScn K (ad 4) (ad 18) (ad 19) (ad 20) (ad 21) ou_t mi_t bo_t ln_t LF_t sn_t SF_t, gPrsC K (ad 11) (ad 1) (ad 4) qp qs qk qn qo qb qe qf, gHisC K (ad 5) (ad 22) (0 : Int) 0, gQS K (ad 22) 6 (fun _ => none), gSb K nw9 u.1 u.2.1 (n + (l34.length : Int)) u.2.2, gArr K N18 nw18 IX])) S C hG [7] (c_J4_append_15ec4 l K 34 l34 nw9 b cap n F tx tx34 (by decide) (by omega) hO (by omega)) rfl rfl 0 rfl rfl (cwV 1 S.2.2.2.2 gL_load_J4_append_15ec4 rfl rfl rfl (by decide +kernel) ⟨Nat.le_of_ble_eq_true rfl, Nat.le_of_ble_eq_true rfl⟩) rfl hl.1 rfl (Nat.le_of_ble_eq_true rfl) dL_load_161 ⟨show kc25 + 1 ≤ 66 by omega, show ks25 + 640 ≤ 36643 by omega⟩ (fun _ => Nat.le_of_ble_eq_true rfl) (fun _ => rfl) (fun v u H locs hp hG => ?_)
          obtain ⟨b2_161, cap2_161, F2_161⟩ := u
          obtain ⟨rfl, hc2_161, hO2_161⟩ := hp
          have hc2_161 : n + (l34.length : Int) ≤ (cap2_161 : Int) ∧ (cap2_161 : Int) ≤ 602 := hc2_161
          have hO2_161 : OutI F2_161 (n + (l34.length : Int)) (tx ++ l34) := hO2_161
          have hG : gW K A s.heap [gRLC K ad, gBuf K (ad 1) (ad 12) 0 B0, gScn K (ad 3) (ad 14) (ad 15) (ad 16) (ad 17) ou mi bo ln LF sn SF, gScn K (ad 4) (ad 18) (ad 19) (ad 20) (ad 21) ou_t mi_t bo_t ln_t LF_t sn_t SF_t, gPrsC K (ad 11) (ad 1) (ad 4) qp qs qk qn qo qb qe qf, gHisC K (ad 5) (ad 22) (0 : Int) 0, gQS K (ad 22) 6 (fun _ => none), gSb K nw9 b2_161 cap2_161 (n + (l34.length : Int)) F2_161, gArr K N18 nw18 IX] _ _ := hG
          have hc_161 := hc2_161
          refine lv_iload S.1 S.2.1 dL_load_164 (lv_at hl 0 rfl) ?_
          have g9 := dgs_bd o5
          refine g_invV (As := [.int (iI o5)]) (rest := []) (gs' := (fun u : Nat × Nat × (Int → Int) => [gRLC K ad, gBuf K (ad 1) (ad 12) 0 B0, gScn K (ad 3) (ad 14) (ad 15) (ad 16) (ad 17) ou mi bo ln LF sn SF, gScn K (ad 4) (ad 18) (ad 19) (ad 20) (ad 21) ou_t mi_t bo_t ln_t LF_t sn_t SF_t, gPrsC K (ad 11) (ad 1) (ad 4) qp qs qk qn qo qb qe qf, gHisC K (ad 5) (ad 22) (0 : Int) 0, gQS K (ad 22) 6 (fun _ => none), gSb K nw9 u.1 u.2.1 ((n + (l34.length : Int)) + dgs o5) u.2.2, gArr K N18 nw18 IX])) S C hG [7] (c_J4_append_bf812 l K nw9 b2_161 cap2_161 (n + (l34.length : Int)) F2_161 (tx ++ l34) o5 (by omega) hO2_161 (by omega) (by omega)) rfl rfl 0 rfl rfl (cwV 1 S.2.2.2.2 gL_load_J4_append_bf812 rfl rfl rfl (by decide +kernel) ⟨Nat.le_of_ble_eq_true rfl, Nat.le_of_ble_eq_true rfl⟩) rfl hl.1 rfl (Nat.le_of_ble_eq_true rfl) dL_load_166 ⟨show (kc25 + 1) + 1 ≤ 66 by omega, show (ks25 + 640) + 640 ≤ 36643 by omega⟩ (fun _ => Nat.le_of_ble_eq_true rfl) (fun _ => rfl) (fun v u H locs hp hG => ?_)
          obtain ⟨b2_166, cap2_166, F2_166⟩ := u
          obtain ⟨rfl, hc2_166, hO2_166⟩ := hp
          have hc2_166 : (n + (l34.length : Int)) + dgs o5 ≤ (cap2_166 : Int) ∧ (cap2_166 : Int) ≤ 602 := hc2_166
          have hO2_166 : OutI F2_166 ((n + (l34.length : Int)) + dgs o5) ((tx ++ l34) ++ dgL o5) := hO2_166
          have hG : gW K A s.heap [gRLC K ad, gBuf K (ad 1) (ad 12) 0 B0, gScn K (ad 3) (ad 14) (ad 15) (ad 16) (ad 17) ou mi bo ln LF sn SF, gScn K (ad 4) (ad 18) (ad 19) (ad 20) (ad 21) ou_t mi_t bo_t ln_t LF_t sn_t SF_t, gPrsC K (ad 11) (ad 1) (ad 4) qp qs qk qn qo qb qe qf, gHisC K (ad 5) (ad 22) (0 : Int) 0, gQS K (ad 22) 6 (fun _ => none), gSb K nw9 b2_166 cap2_166 ((n + (l34.length : Int)) + dgs o5) F2_166, gArr K N18 nw18 IX] _ _ := hG
          have hc_166 := hc2_166
          refine va_ldcS (q := K.2.2.2.1 33) S.1 S.2.1 S.2.2.2.1 (C.1.2.2.1 (RL, 63, ";", 33) sw_33) dL_load_169 ?_
          have q9 : (l33.length : Int) = 1 := rfl
          refine g_invV (As := [.ref (K.2.2.2.1 33)]) (rest := []) (gs' := (fun u : Nat × Nat × (Int → Int) => [gRLC K ad, gBuf K (ad 1) (ad 12) 0 B0, gScn K (ad 3) (ad 14) (ad 15) (ad 16) (ad 17) ou mi bo ln LF sn SF, gScn K (ad 4) (ad 18) (ad 19) (ad 20) (ad 21) ou_t mi_t bo_t ln_t LF_t sn_t SF_t, gPrsC K (ad 11) (ad 1) (ad 4) qp qs qk qn qo qb qe qf, gHisC K (ad 5) (ad 22) (0 : Int) 0, gQS K (ad 22) 6 (fun _ => none), gSb K nw9 u.1 u.2.1 (((n + (l34.length : Int)) + dgs o5) + (l33.length : Int)) u.2.2, gArr K N18 nw18 IX])) S C hG [7] (c_J4_append_15ec4 l K 33 l33 nw9 b2_166 cap2_166 ((n + (l34.length : Int)) + dgs o5) F2_166 ((tx ++ l34) ++ dgL o5) tx33 (by decide) (by omega) hO2_166 (by omega)) rfl rfl 0 rfl rfl (cwV 1 S.2.2.2.2 gL_load_J4_append_15ec4 rfl rfl rfl (by decide +kernel) ⟨Nat.le_of_ble_eq_true rfl, Nat.le_of_ble_eq_true rfl⟩) rfl hl.1 rfl (Nat.le_of_ble_eq_true rfl) dL_load_171 ⟨show ((kc25 + 1) + 1) + 1 ≤ 66 by omega, show ((ks25 + 640) + 640) + 640 ≤ 36643 by omega⟩ (fun _ => Nat.le_of_ble_eq_true rfl) (fun _ => rfl) (fun v u H locs hp hG => ?_)
          obtain ⟨b2_171, cap2_171, F2_171⟩ := u
          obtain ⟨rfl, hc2_171, hO2_171⟩ := hp
          have hc2_171 : ((n + (l34.length : Int)) + dgs o5) + (l33.length : Int) ≤ (cap2_171 : Int) ∧ (cap2_171 : Int) ≤ 602 := hc2_171
          have hO2_171 : OutI F2_171 (((n + (l34.length : Int)) + dgs o5) + (l33.length : Int)) (((tx ++ l34) ++ dgL o5) ++ l33) := hO2_171
          have hG : gW K A s.heap [gRLC K ad, gBuf K (ad 1) (ad 12) 0 B0, gScn K (ad 3) (ad 14) (ad 15) (ad 16) (ad 17) ou mi bo ln LF sn SF, gScn K (ad 4) (ad 18) (ad 19) (ad 20) (ad 21) ou_t mi_t bo_t ln_t LF_t sn_t SF_t, gPrsC K (ad 11) (ad 1) (ad 4) qp qs qk qn qo qb qe qf, gHisC K (ad 5) (ad 22) (0 : Int) 0, gQS K (ad 22) 6 (fun _ => none), gSb K nw9 b2_171 cap2_171 (((n + (l34.length : Int)) + dgs o5) + (l33.length : Int)) F2_171, gArr K N18 nw18 IX] _ _ := hG
          have hc_171 := hc2_171
          refine lv_pop S.1 S.2.1 dL_load_174 rfl ?_
          refine W.widen (k := (kc25 + 3)) (n := (ks25 + 1920)) (by omega) (by omega) ?_
          exact J175 (((n + (l34.length : Int)) + dgs o5) + (l33.length : Int)) F2_171 b2_171 cap2_171 (((tx ++ l34) ++ dgL o5) ++ l33) (upI M 1 o5) 1 o5 _ _ _ hO2_171 (by omega) (by omega) (hT9.out (by have := hI.1; omega) (by decide) (by omega)) (hI.out (by omega)) ⟨fun _ => rfl, fun z => absurd (by omega) z⟩ (lv_sub hl [1, 2, 3, 4, 5, 0] rfl) hG
      · skip
        have ib9 := idxN_bd K (1 + (5 * i))
        refine lv_aload S.1 S.2.1 dL_load_31 (lv_at hl 4 rfl) ?_
        refine lv_iload S.1 S.2.1 dL_load_33 (lv_at hl 5 rfl) ?_
        refine lv_aload_n S.1 S.2.1 dL_load_35 rfl (lv_at hl 1 rfl) ?_
        refine g_iconst S dL_load_36 ?_
        refine g_iconst S dL_load_37 ?_
        refine lv_iload S.1 S.2.1 dL_load_38 (lv_at hl 5 rfl) ?_
        refine g_imul S dL_load_40 rfl ?_
        refine g_iadd S dL_load_41 rfl ?_
        refine g_invS (As := [.ref (K.2.2.2.2 42), .int (iI (1 + (5 * i)))]) (rest := [.int (iI i), .ref nw18]) (gs' := (fun u : Unit => [gRLC K ad, gBuf K (ad 1) (ad 12) 0 B0, gScn K (ad 3) (ad 14) (ad 15) (ad 16) (ad 17) ou mi bo ln LF sn SF, gScn K (ad 4) (ad 18) (ad 19) (ad 20) (ad 21) ou_t mi_t bo_t ln_t LF_t sn_t SF_t, gPrsC K (ad 11) (ad 1) (ad 4) qp qs qk qn qo qb qe qf, gHisC K (ad 5) (ad 22) (0 : Int) 0, gQS K (ad 22) 6 (fun _ => none), gSb K nw9 b cap n F, gArr K N18 nw18 IX])) S C hG [] (c_L_index l K (1 + (5 * i)) (by omega)) rfl rfl (va_cwS 2 S.2.2.2.2 gL_load_L_index rfl rfl rfl (by decide +kernel) ⟨Nat.le_of_ble_eq_true rfl, Nat.le_of_ble_eq_true rfl⟩) rfl hl.1 rfl (Nat.le_of_ble_eq_true rfl) dL_load_42 ⟨show kc25 + 0 ≤ 66 by omega, show ks25 + 0 ≤ 36643 by omega⟩ (fun _ => Nat.le_of_ble_eq_true rfl) (fun _ => rfl) (fun v u H locs hp hG => ?_)
        subst hp
        refine g_iast (gs' := [gRLC K ad, gBuf K (ad 1) (ad 12) 0 B0, gScn K (ad 3) (ad 14) (ad 15) (ad 16) (ad 17) ou mi bo ln LF sn SF, gScn K (ad 4) (ad 18) (ad 19) (ad 20) (ad 21) ou_t mi_t bo_t ln_t LF_t sn_t SF_t, gPrsC K (ad 11) (ad 1) (ad 4) qp qs qk qn qo qb qe qf, gHisC K (ad 5) (ad 22) (0 : Int) 0, gQS K (ad 22) 6 (fun _ => none), gSb K nw9 b cap n F, gArr K N18 nw18 (upI IX i (idxN K (1 + (5 * i))))]) S C hG 18 rfl (by omega) (by omega) (by omega) rfl dL_load_45 (fun H locs hG => ?_)
        refine lv_aload_n S.1 S.2.1 dL_load_46 rfl (lv_at hl 3 rfl) ?_
        refine va_ldcS (q := K.2.2.2.1 30) S.1 S.2.1 S.2.2.2.1 (C.1.2.2.1 (RL, 51, "layer ", 30) sw_30) dL_load_47 ?_
        have q9 : (l30.length : Int) = 6 := rfl
        refine g_invV (As := [.ref (K.2.2.2.1 30)]) (rest := []) (gs' := (fun u : Nat × Nat × (Int → Int) => [gRLC K ad, gBuf K (ad 1) (ad 12) 0 B0, gScn K (ad 3) (ad 14) (ad 15) (ad 16) (ad 17) ou mi bo ln LF sn SF, gScn K (ad 4) (ad 18) (ad 19) (ad 20) (ad 21) ou_t mi_t bo_t ln_t LF_t sn_t SF_t, gPrsC K (ad 11) (ad 1) (ad 4) qp qs qk qn qo qb qe qf, gHisC K (ad 5) (ad 22) (0 : Int) 0, gQS K (ad 22) 6 (fun _ => none), gSb K nw9 u.1 u.2.1 (n + (l30.length : Int)) u.2.2, gArr K N18 nw18 (upI IX i (idxN K (1 + (5 * i))))])) S C hG [7] (c_J4_append_15ec4 l K 30 l30 nw9 b cap n F tx tx30 (by decide) (by omega) hO (by omega)) rfl rfl 0 rfl rfl (cwV 1 S.2.2.2.2 gL_load_J4_append_15ec4 rfl rfl rfl (by decide +kernel) ⟨Nat.le_of_ble_eq_true rfl, Nat.le_of_ble_eq_true rfl⟩) rfl hl.1 rfl (Nat.le_of_ble_eq_true rfl) dL_load_49 ⟨show kc25 + 1 ≤ 66 by omega, show ks25 + 640 ≤ 36643 by omega⟩ (fun _ => Nat.le_of_ble_eq_true rfl) (fun _ => rfl) (fun v u H locs hp hG => ?_)
        obtain ⟨b2_49, cap2_49, F2_49⟩ := u
        obtain ⟨rfl, hc2_49, hO2_49⟩ := hp
        have hc2_49 : n + (l30.length : Int) ≤ (cap2_49 : Int) ∧ (cap2_49 : Int) ≤ 602 := hc2_49
        have hO2_49 : OutI F2_49 (n + (l30.length : Int)) (tx ++ l30) := hO2_49
        have hG : gW K A s.heap [gRLC K ad, gBuf K (ad 1) (ad 12) 0 B0, gScn K (ad 3) (ad 14) (ad 15) (ad 16) (ad 17) ou mi bo ln LF sn SF, gScn K (ad 4) (ad 18) (ad 19) (ad 20) (ad 21) ou_t mi_t bo_t ln_t LF_t sn_t SF_t, gPrsC K (ad 11) (ad 1) (ad 4) qp qs qk qn qo qb qe qf, gHisC K (ad 5) (ad 22) (0 : Int) 0, gQS K (ad 22) 6 (fun _ => none), gSb K nw9 b2_49 cap2_49 (n + (l30.length : Int)) F2_49, gArr K N18 nw18 (upI IX i (idxN K (1 + (5 * i))))] _ _ := hG
        have hc_49 := hc2_49
        refine lv_aload S.1 S.2.1 dL_load_52 (lv_at hl 4 rfl) ?_
        refine lv_iload S.1 S.2.1 dL_load_54 (lv_at hl 5 rfl) ?_
        refine g_iald S C hG 18 rfl (by omega) (by omega) (by omega) dL_load_56 ?_
        refine g_top (w := .int (iI ((idxN K (1 + (5 * i)))))) (congrArg (fun z : Int => Value.int (iI z)) (upI_s _ _ _)) ?_
        have g9 := dgs_bd (idxN K (1 + (5 * i)))
        refine g_invV (As := [.int (iI (idxN K (1 + (5 * i))))]) (rest := []) (gs' := (fun u : Nat × Nat × (Int → Int) => [gRLC K ad, gBuf K (ad 1) (ad 12) 0 B0, gScn K (ad 3) (ad 14) (ad 15) (ad 16) (ad 17) ou mi bo ln LF sn SF, gScn K (ad 4) (ad 18) (ad 19) (ad 20) (ad 21) ou_t mi_t bo_t ln_t LF_t sn_t SF_t, gPrsC K (ad 11) (ad 1) (ad 4) qp qs qk qn qo qb qe qf, gHisC K (ad 5) (ad 22) (0 : Int) 0, gQS K (ad 22) 6 (fun _ => none), gSb K nw9 u.1 u.2.1 ((n + (l30.length : Int)) + dgs (idxN K (1 + (5 * i)))) u.2.2, gArr K N18 nw18 (upI IX i (idxN K (1 + (5 * i))))])) S C hG [7] (c_J4_append_bf812 l K nw9 b2_49 cap2_49 (n + (l30.length : Int)) F2_49 (tx ++ l30) (idxN K (1 + (5 * i))) (by omega) hO2_49 (by omega) (by omega)) rfl rfl 0 rfl rfl (cwV 1 S.2.2.2.2 gL_load_J4_append_bf812 rfl rfl rfl (by decide +kernel) ⟨Nat.le_of_ble_eq_true rfl, Nat.le_of_ble_eq_true rfl⟩) rfl hl.1 rfl (Nat.le_of_ble_eq_true rfl) dL_load_57 ⟨show (kc25 + 1) + 1 ≤ 66 by omega, show (ks25 + 640) + 640 ≤ 36643 by omega⟩ (fun _ => Nat.le_of_ble_eq_true rfl) (fun _ => rfl) (fun v u H locs hp hG => ?_)
        obtain ⟨b2_57, cap2_57, F2_57⟩ := u
        obtain ⟨rfl, hc2_57, hO2_57⟩ := hp
        have hc2_57 : (n + (l30.length : Int)) + dgs (idxN K (1 + (5 * i))) ≤ (cap2_57 : Int) ∧ (cap2_57 : Int) ≤ 602 := hc2_57
        have hO2_57 : OutI F2_57 ((n + (l30.length : Int)) + dgs (idxN K (1 + (5 * i)))) ((tx ++ l30) ++ dgL (idxN K (1 + (5 * i)))) := hO2_57
        have hG : gW K A s.heap [gRLC K ad, gBuf K (ad 1) (ad 12) 0 B0, gScn K (ad 3) (ad 14) (ad 15) (ad 16) (ad 17) ou mi bo ln LF sn SF, gScn K (ad 4) (ad 18) (ad 19) (ad 20) (ad 21) ou_t mi_t bo_t ln_t LF_t sn_t SF_t, gPrsC K (ad 11) (ad 1) (ad 4) qp qs qk qn qo qb qe qf, gHisC K (ad 5) (ad 22) (0 : Int) 0, gQS K (ad 22) 6 (fun _ => none), gSb K nw9 b2_57 cap2_57 ((n + (l30.length : Int)) + dgs (idxN K (1 + (5 * i)))) F2_57, gArr K N18 nw18 (upI IX i (idxN K (1 + (5 * i))))] _ _ := hG
        have hc_57 := hc2_57
        refine va_ldcS (q := K.2.2.2.1 31) S.1 S.2.1 S.2.2.2.1 (C.1.2.2.1 (RL, 59, " thick ", 31) sw_31) dL_load_60 ?_
        have q9 : (l31.length : Int) = 7 := rfl
        refine g_invV (As := [.ref (K.2.2.2.1 31)]) (rest := []) (gs' := (fun u : Nat × Nat × (Int → Int) => [gRLC K ad, gBuf K (ad 1) (ad 12) 0 B0, gScn K (ad 3) (ad 14) (ad 15) (ad 16) (ad 17) ou mi bo ln LF sn SF, gScn K (ad 4) (ad 18) (ad 19) (ad 20) (ad 21) ou_t mi_t bo_t ln_t LF_t sn_t SF_t, gPrsC K (ad 11) (ad 1) (ad 4) qp qs qk qn qo qb qe qf, gHisC K (ad 5) (ad 22) (0 : Int) 0, gQS K (ad 22) 6 (fun _ => none), gSb K nw9 u.1 u.2.1 (((n + (l30.length : Int)) + dgs (idxN K (1 + (5 * i)))) + (l31.length : Int)) u.2.2, gArr K N18 nw18 (upI IX i (idxN K (1 + (5 * i))))])) S C hG [7] (c_J4_append_15ec4 l K 31 l31 nw9 b2_57 cap2_57 ((n + (l30.length : Int)) + dgs (idxN K (1 + (5 * i)))) F2_57 ((tx ++ l30) ++ dgL (idxN K (1 + (5 * i)))) tx31 (by decide) (by omega) hO2_57 (by omega)) rfl rfl 0 rfl rfl (cwV 1 S.2.2.2.2 gL_load_J4_append_15ec4 rfl rfl rfl (by decide +kernel) ⟨Nat.le_of_ble_eq_true rfl, Nat.le_of_ble_eq_true rfl⟩) rfl hl.1 rfl (Nat.le_of_ble_eq_true rfl) dL_load_62 ⟨show ((kc25 + 1) + 1) + 1 ≤ 66 by omega, show ((ks25 + 640) + 640) + 640 ≤ 36643 by omega⟩ (fun _ => Nat.le_of_ble_eq_true rfl) (fun _ => rfl) (fun v u H locs hp hG => ?_)
        obtain ⟨b2_62, cap2_62, F2_62⟩ := u
        obtain ⟨rfl, hc2_62, hO2_62⟩ := hp
        have hc2_62 : ((n + (l30.length : Int)) + dgs (idxN K (1 + (5 * i)))) + (l31.length : Int) ≤ (cap2_62 : Int) ∧ (cap2_62 : Int) ≤ 602 := hc2_62
        have hO2_62 : OutI F2_62 (((n + (l30.length : Int)) + dgs (idxN K (1 + (5 * i)))) + (l31.length : Int)) (((tx ++ l30) ++ dgL (idxN K (1 + (5 * i)))) ++ l31) := hO2_62
        have hG : gW K A s.heap [gRLC K ad, gBuf K (ad 1) (ad 12) 0 B0, gScn K (ad 3) (ad 14) (ad 15) (ad 16) (ad 17) ou mi bo ln LF sn SF, gScn K (ad 4) (ad 18) (ad 19) (ad 20) (ad 21) ou_t mi_t bo_t ln_t LF_t sn_t SF_t, gPrsC K (ad 11) (ad 1) (ad 4) qp qs qk qn qo qb qe qf, gHisC K (ad 5) (ad 22) (0 : Int) 0, gQS K (ad 22) 6 (fun _ => none), gSb K nw9 b2_62 cap2_62 (((n + (l30.length : Int)) + dgs (idxN K (1 + (5 * i)))) + (l31.length : Int)) F2_62, gArr K N18 nw18 (upI IX i (idxN K (1 + (5 * i))))] _ _ := hG
        have hc_62 := hc2_62
        refine g_iconst S dL_load_65 ?_
        refine lv_aload_n S.1 S.2.1 dL_load_66 rfl (lv_at hl 1 rfl) ?_
        refine g_iconst S dL_load_67 ?_
        refine g_iconst S dL_load_68 ?_
        refine lv_iload S.1 S.2.1 dL_load_69 (lv_at hl 5 rfl) ?_
        refine g_imul S dL_load_71 rfl ?_
        refine g_iadd S dL_load_72 rfl ?_
        refine g_sipush S dL_load_73 (by decide) ?_
        refine g_invS (As := [.ref (K.2.2.2.2 42), .int (iI (3 + (5 * i))), .int (iI 999)]) (rest := [.int (iI 1), .ref nw9]) (gs' := (fun u : Unit => [gRLC K ad, gBuf K (ad 1) (ad 12) 0 B0, gScn K (ad 3) (ad 14) (ad 15) (ad 16) (ad 17) ou mi bo ln LF sn SF, gScn K (ad 4) (ad 18) (ad 19) (ad 20) (ad 21) ou_t mi_t bo_t ln_t LF_t sn_t SF_t, gPrsC K (ad 11) (ad 1) (ad 4) qp qs qk qn qo qb qe qf, gHisC K (ad 5) (ad 22) (0 : Int) 0, gQS K (ad 22) 6 (fun _ => none), gSb K nw9 b2_62 cap2_62 (((n + (l30.length : Int)) + dgs (idxN K (1 + (5 * i)))) + (l31.length : Int)) F2_62, gArr K N18 nw18 (upI IX i (idxN K (1 + (5 * i))))])) S C hG [] (c_L_draw l K (3 + (5 * i)) 999 (by omega) (by omega)) rfl rfl (va_cwS 3 S.2.2.2.2 gL_load_L_draw rfl rfl rfl (by decide +kernel) ⟨Nat.le_of_ble_eq_true rfl, Nat.le_of_ble_eq_true rfl⟩) rfl hl.1 rfl (Nat.le_of_ble_eq_true rfl) dL_load_76 ⟨show (((kc25 + 1) + 1) + 1) + 0 ≤ 66 by omega, show (((ks25 + 640) + 640) + 640) + 0 ≤ 36643 by omega⟩ (fun _ => Nat.le_of_ble_eq_true rfl) (fun _ => rfl) (fun v u H locs hp hG => ?_)
        subst hp
        have hd76 := drwN_bd K (3 + (5 * i)) (n := 999) (by omega)
        refine g_iadd S dL_load_79 rfl ?_
        have g9 := dgs_bd (1 + (drwN K (3 + (5 * i)) 999))
        refine g_invV (As := [.int (iI (1 + (drwN K (3 + (5 * i)) 999)))]) (rest := []) (gs' := (fun u : Nat × Nat × (Int → Int) => [gRLC K ad, gBuf K (ad 1) (ad 12) 0 B0, gScn K (ad 3) (ad 14) (ad 15) (ad 16) (ad 17) ou mi bo ln LF sn SF, gScn K (ad 4) (ad 18) (ad 19) (ad 20) (ad 21) ou_t mi_t bo_t ln_t LF_t sn_t SF_t, gPrsC K (ad 11) (ad 1) (ad 4) qp qs qk qn qo qb qe qf, gHisC K (ad 5) (ad 22) (0 : Int) 0, gQS K (ad 22) 6 (fun _ => none), gSb K nw9 u.1 u.2.1 ((((n + (l30.length : Int)) + dgs (idxN K (1 + (5 * i)))) + (l31.length : Int)) + dgs (1 + (drwN K (3 + (5 * i)) 999))) u.2.2, gArr K N18 nw18 (upI IX i (idxN K (1 + (5 * i))))])) S C hG [7] (c_J4_append_bf812 l K nw9 b2_62 cap2_62 (((n + (l30.length : Int)) + dgs (idxN K (1 + (5 * i)))) + (l31.length : Int)) F2_62 (((tx ++ l30) ++ dgL (idxN K (1 + (5 * i)))) ++ l31) (1 + (drwN K (3 + (5 * i)) 999)) (by omega) hO2_62 (by omega) (by omega)) rfl rfl 0 rfl rfl (cwV 1 S.2.2.2.2 gL_load_J4_append_bf812 rfl rfl rfl (by decide +kernel) ⟨Nat.le_of_ble_eq_true rfl, Nat.le_of_ble_eq_true rfl⟩) rfl hl.1 rfl (Nat.le_of_ble_eq_true rfl) dL_load_80 ⟨show (((kc25 + 1) + 1) + 1) + 1 ≤ 66 by omega, show (((ks25 + 640) + 640) + 640) + 640 ≤ 36643 by omega⟩ (fun _ => Nat.le_of_ble_eq_true rfl) (fun _ => rfl) (fun v u H locs hp hG => ?_)
        obtain ⟨b2_80, cap2_80, F2_80⟩ := u
        obtain ⟨rfl, hc2_80, hO2_80⟩ := hp
        have hc2_80 : (((n + (l30.length : Int)) + dgs (idxN K (1 + (5 * i)))) + (l31.length : Int)) + dgs (1 + (drwN K (3 + (5 * i)) 999)) ≤ (cap2_80 : Int) ∧ (cap2_80 : Int) ≤ 602 := hc2_80
        have hO2_80 : OutI F2_80 ((((n + (l30.length : Int)) + dgs (idxN K (1 + (5 * i)))) + (l31.length : Int)) + dgs (1 + (drwN K (3 + (5 * i)) 999))) ((((tx ++ l30) ++ dgL (idxN K (1 + (5 * i)))) ++ l31) ++ dgL (1 + (drwN K (3 + (5 * i)) 999))) := hO2_80
        have hG : gW K A s.heap [gRLC K ad, gBuf K (ad 1) (ad 12) 0 B0, gScn K (ad 3) (ad 14) (ad 15) (ad 16) (ad 17) ou mi bo ln LF sn SF, gScn K (ad 4) (ad 18) (ad 19) (ad 20) (ad 21) ou_t mi_t bo_t ln_t LF_t sn_t SF_t, gPrsC K (ad 11) (ad 1) (ad 4) qp qs qk qn qo qb qe qf, gHisC K (ad 5) (ad 22) (0 : Int) 0, gQS K (ad 22) 6 (fun _ => none), gSb K nw9 b2_80 cap2_80 ((((n + (l30.length : Int)) + dgs (idxN K (1 + (5 * i)))) + (l31.length : Int)) + dgs (1 + (drwN K (3 + (5 * i)) 999))) F2_80, gArr K N18 nw18 (upI IX i (idxN K (1 + (5 * i))))] _ _ := hG
        have hc_80 := hc2_80
        refine lv_pop S.1 S.2.1 dL_load_83 rfl ?_
        refine lv_aload_n S.1 S.2.1 dL_load_84 rfl (lv_at hl 1 rfl) ?_
        refine g_iconst S dL_load_85 ?_
        refine g_iconst S dL_load_86 ?_
        refine lv_iload S.1 S.2.1 dL_load_87 (lv_at hl 5 rfl) ?_
        refine g_imul S dL_load_89 rfl ?_
        refine g_iadd S dL_load_90 rfl ?_
        refine g_iconst S dL_load_91 ?_
        refine g_invS (As := [.ref (K.2.2.2.2 42), .int (iI (4 + (5 * i))), .int (iI 2)]) (rest := []) (gs' := (fun u : Unit => [gRLC K ad, gBuf K (ad 1) (ad 12) 0 B0, gScn K (ad 3) (ad 14) (ad 15) (ad 16) (ad 17) ou mi bo ln LF sn SF, gScn K (ad 4) (ad 18) (ad 19) (ad 20) (ad 21) ou_t mi_t bo_t ln_t LF_t sn_t SF_t, gPrsC K (ad 11) (ad 1) (ad 4) qp qs qk qn qo qb qe qf, gHisC K (ad 5) (ad 22) (0 : Int) 0, gQS K (ad 22) 6 (fun _ => none), gSb K nw9 b2_80 cap2_80 ((((n + (l30.length : Int)) + dgs (idxN K (1 + (5 * i)))) + (l31.length : Int)) + dgs (1 + (drwN K (3 + (5 * i)) 999))) F2_80, gArr K N18 nw18 (upI IX i (idxN K (1 + (5 * i))))])) S C hG [] (c_L_draw l K (4 + (5 * i)) 2 (by omega) (by omega)) rfl rfl (va_cwS 3 S.2.2.2.2 gL_load_L_draw rfl rfl rfl (by decide +kernel) ⟨Nat.le_of_ble_eq_true rfl, Nat.le_of_ble_eq_true rfl⟩) rfl hl.1 rfl (Nat.le_of_ble_eq_true rfl) dL_load_92 ⟨show ((((kc25 + 1) + 1) + 1) + 1) + 0 ≤ 66 by omega, show ((((ks25 + 640) + 640) + 640) + 640) + 0 ≤ 36643 by omega⟩ (fun _ => Nat.le_of_ble_eq_true rfl) (fun _ => rfl) (fun v u H locs hp hG => ?_)
        subst hp
        have hd92 := drwN_bd K (4 + (5 * i)) (n := 2) (by omega)
        refine g_if_ne (tgt := 120) S dL_load_95 (by decide) (by omega) (fun q95 => ?_) (fun q95 => ?_)
        · skip
          refine lv_aload_n S.1 S.2.1 dL_load_120 rfl (lv_at hl 3 rfl) ?_
          refine va_ldcS (q := K.2.2.2.1 33) S.1 S.2.1 S.2.2.2.1 (C.1.2.2.1 (RL, 63, ";", 33) sw_33) dL_load_121 ?_
          have q9 : (l33.length : Int) = 1 := rfl
          refine g_invV (As := [.ref (K.2.2.2.1 33)]) (rest := []) (gs' := (fun u : Nat × Nat × (Int → Int) => [gRLC K ad, gBuf K (ad 1) (ad 12) 0 B0, gScn K (ad 3) (ad 14) (ad 15) (ad 16) (ad 17) ou mi bo ln LF sn SF, gScn K (ad 4) (ad 18) (ad 19) (ad 20) (ad 21) ou_t mi_t bo_t ln_t LF_t sn_t SF_t, gPrsC K (ad 11) (ad 1) (ad 4) qp qs qk qn qo qb qe qf, gHisC K (ad 5) (ad 22) (0 : Int) 0, gQS K (ad 22) 6 (fun _ => none), gSb K nw9 u.1 u.2.1 (((((n + (l30.length : Int)) + dgs (idxN K (1 + (5 * i)))) + (l31.length : Int)) + dgs (1 + (drwN K (3 + (5 * i)) 999))) + (l33.length : Int)) u.2.2, gArr K N18 nw18 (upI IX i (idxN K (1 + (5 * i))))])) S C hG [7] (c_J4_append_15ec4 l K 33 l33 nw9 b2_80 cap2_80 ((((n + (l30.length : Int)) + dgs (idxN K (1 + (5 * i)))) + (l31.length : Int)) + dgs (1 + (drwN K (3 + (5 * i)) 999))) F2_80 ((((tx ++ l30) ++ dgL (idxN K (1 + (5 * i)))) ++ l31) ++ dgL (1 + (drwN K (3 + (5 * i)) 999))) tx33 (by decide) (by omega) hO2_80 (by omega)) rfl rfl 0 rfl rfl (cwV 1 S.2.2.2.2 gL_load_J4_append_15ec4 rfl rfl rfl (by decide +kernel) ⟨Nat.le_of_ble_eq_true rfl, Nat.le_of_ble_eq_true rfl⟩) rfl hl.1 rfl (Nat.le_of_ble_eq_true rfl) dL_load_123 ⟨show ((((kc25 + 1) + 1) + 1) + 1) + 1 ≤ 66 by omega, show ((((ks25 + 640) + 640) + 640) + 640) + 640 ≤ 36643 by omega⟩ (fun _ => Nat.le_of_ble_eq_true rfl) (fun _ => rfl) (fun v u H locs hp hG => ?_)
          obtain ⟨b2_123, cap2_123, F2_123⟩ := u
          obtain ⟨rfl, hc2_123, hO2_123⟩ := hp
          have hc2_123 : ((((n + (l30.length : Int)) + dgs (idxN K (1 + (5 * i)))) + (l31.length : Int)) + dgs (1 + (drwN K (3 + (5 * i)) 999))) + (l33.length : Int) ≤ (cap2_123 : Int) ∧ (cap2_123 : Int) ≤ 602 := hc2_123
          have hO2_123 : OutI F2_123 (((((n + (l30.length : Int)) + dgs (idxN K (1 + (5 * i)))) + (l31.length : Int)) + dgs (1 + (drwN K (3 + (5 * i)) 999))) + (l33.length : Int)) (((((tx ++ l30) ++ dgL (idxN K (1 + (5 * i)))) ++ l31) ++ dgL (1 + (drwN K (3 + (5 * i)) 999))) ++ l33) := hO2_123
          have hG : gW K A s.heap [gRLC K ad, gBuf K (ad 1) (ad 12) 0 B0, gScn K (ad 3) (ad 14) (ad 15) (ad 16) (ad 17) ou mi bo ln LF sn SF, gScn K (ad 4) (ad 18) (ad 19) (ad 20) (ad 21) ou_t mi_t bo_t ln_t LF_t sn_t SF_t, gPrsC K (ad 11) (ad 1) (ad 4) qp qs qk qn qo qb qe qf, gHisC K (ad 5) (ad 22) (0 : Int) 0, gQS K (ad 22) 6 (fun _ => none), gSb K nw9 b2_123 cap2_123 (((((n + (l30.length : Int)) + dgs (idxN K (1 + (5 * i)))) + (l31.length : Int)) + dgs (1 + (drwN K (3 + (5 * i)) 999))) + (l33.length : Int)) F2_123, gArr K N18 nw18 (upI IX i (idxN K (1 + (5 * i))))] _ _ := hG
          have hc_123 := hc2_123
          refine lv_pop S.1 S.2.1 dL_load_126 rfl ?_
          refine lv_iinc (v := iI (i + 1)) (lv' := [(5, .int (iI (i + 1))), (0, .ref (ad 0)), (1, .ref (K.2.2.2.2 42)), (2, .int (iI nl)), (3, .ref nw9), (4, .ref nw18)]) S.1 S.2.1 dL_load_127 hl (k := 5) rfl (g_iinc rfl) (by decide) rfl (fun ls hl => ?_)
          refine lv_goto (tgt := 25) S.1 S.2.1 dL_load_130 (by decide) ?_
          exact ih (i + 1) (upI IX i (idxN K (1 + (5 * i)))) (((((n + (l30.length : Int)) + dgs (idxN K (1 + (5 * i)))) + (l31.length : Int)) + dgs (1 + (drwN K (3 + (5 * i)) 999))) + (l33.length : Int)) F2_123 b2_123 cap2_123 (((((tx ++ l30) ++ dgL (idxN K (1 + (5 * i)))) ++ l31) ++ dgL (1 + (drwN K (3 + (5 * i)) 999))) ++ l33) (addLN M (idxN K (1 + (5 * i))) (1 + (drwN K (3 + (5 * i)) 999)) 0) (((((kc25 + 1) + 1) + 1) + 1) + 1) (((((ks25 + 640) + 640) + 640) + 640) + 640) _ _ _ (by omega) (by omega) hO2_123 (by omega) (by omega) (hT9.lay (by have := hI.1; omega) (by omega) (by omega)) (hI.lay (a := (idxN K (1 + (5 * i)))) (b := (1 + (drwN K (3 + (5 * i)) 999))) (c := 0) (by omega) (by omega) (by omega) (by omega)) (by omega) (lv_sub hl [1, 2, 3, 4, 5, 0] rfl) hG
        · skip
          refine lv_aload_n S.1 S.2.1 dL_load_98 rfl (lv_at hl 3 rfl) ?_
          refine va_ldcS (q := K.2.2.2.1 32) S.1 S.2.1 S.2.2.2.1 (C.1.2.2.1 (RL, 61, " loss ", 32) sw_32) dL_load_99 ?_
          have q9 : (l32.length : Int) = 6 := rfl
          refine g_invV (As := [.ref (K.2.2.2.1 32)]) (rest := []) (gs' := (fun u : Nat × Nat × (Int → Int) => [gRLC K ad, gBuf K (ad 1) (ad 12) 0 B0, gScn K (ad 3) (ad 14) (ad 15) (ad 16) (ad 17) ou mi bo ln LF sn SF, gScn K (ad 4) (ad 18) (ad 19) (ad 20) (ad 21) ou_t mi_t bo_t ln_t LF_t sn_t SF_t, gPrsC K (ad 11) (ad 1) (ad 4) qp qs qk qn qo qb qe qf, gHisC K (ad 5) (ad 22) (0 : Int) 0, gQS K (ad 22) 6 (fun _ => none), gSb K nw9 u.1 u.2.1 (((((n + (l30.length : Int)) + dgs (idxN K (1 + (5 * i)))) + (l31.length : Int)) + dgs (1 + (drwN K (3 + (5 * i)) 999))) + (l32.length : Int)) u.2.2, gArr K N18 nw18 (upI IX i (idxN K (1 + (5 * i))))])) S C hG [7] (c_J4_append_15ec4 l K 32 l32 nw9 b2_80 cap2_80 ((((n + (l30.length : Int)) + dgs (idxN K (1 + (5 * i)))) + (l31.length : Int)) + dgs (1 + (drwN K (3 + (5 * i)) 999))) F2_80 ((((tx ++ l30) ++ dgL (idxN K (1 + (5 * i)))) ++ l31) ++ dgL (1 + (drwN K (3 + (5 * i)) 999))) tx32 (by decide) (by omega) hO2_80 (by omega)) rfl rfl 0 rfl rfl (cwV 1 S.2.2.2.2 gL_load_J4_append_15ec4 rfl rfl rfl (by decide +kernel) ⟨Nat.le_of_ble_eq_true rfl, Nat.le_of_ble_eq_true rfl⟩) rfl hl.1 rfl (Nat.le_of_ble_eq_true rfl) dL_load_101 ⟨show ((((kc25 + 1) + 1) + 1) + 1) + 1 ≤ 66 by omega, show ((((ks25 + 640) + 640) + 640) + 640) + 640 ≤ 36643 by omega⟩ (fun _ => Nat.le_of_ble_eq_true rfl) (fun _ => rfl) (fun v u H locs hp hG => ?_)
          obtain ⟨b2_101, cap2_101, F2_101⟩ := u
          obtain ⟨rfl, hc2_101, hO2_101⟩ := hp
          have hc2_101 : ((((n + (l30.length : Int)) + dgs (idxN K (1 + (5 * i)))) + (l31.length : Int)) + dgs (1 + (drwN K (3 + (5 * i)) 999))) + (l32.length : Int) ≤ (cap2_101 : Int) ∧ (cap2_101 : Int) ≤ 602 := hc2_101
          have hO2_101 : OutI F2_101 (((((n + (l30.length : Int)) + dgs (idxN K (1 + (5 * i)))) + (l31.length : Int)) + dgs (1 + (drwN K (3 + (5 * i)) 999))) + (l32.length : Int)) (((((tx ++ l30) ++ dgL (idxN K (1 + (5 * i)))) ++ l31) ++ dgL (1 + (drwN K (3 + (5 * i)) 999))) ++ l32) := hO2_101
          have hG : gW K A s.heap [gRLC K ad, gBuf K (ad 1) (ad 12) 0 B0, gScn K (ad 3) (ad 14) (ad 15) (ad 16) (ad 17) ou mi bo ln LF sn SF, gScn K (ad 4) (ad 18) (ad 19) (ad 20) (ad 21) ou_t mi_t bo_t ln_t LF_t sn_t SF_t, gPrsC K (ad 11) (ad 1) (ad 4) qp qs qk qn qo qb qe qf, gHisC K (ad 5) (ad 22) (0 : Int) 0, gQS K (ad 22) 6 (fun _ => none), gSb K nw9 b2_101 cap2_101 (((((n + (l30.length : Int)) + dgs (idxN K (1 + (5 * i)))) + (l31.length : Int)) + dgs (1 + (drwN K (3 + (5 * i)) 999))) + (l32.length : Int)) F2_101, gArr K N18 nw18 (upI IX i (idxN K (1 + (5 * i))))] _ _ := hG
          have hc_101 := hc2_101
          refine lv_aload_n S.1 S.2.1 dL_load_104 rfl (lv_at hl 1 rfl) ?_
          refine g_iconst S dL_load_105 ?_
          refine g_iconst S dL_load_106 ?_
          refine lv_iload S.1 S.2.1 dL_load_107 (lv_at hl 5 rfl) ?_
          refine g_imul S dL_load_109 rfl ?_
          refine g_iadd S dL_load_110 rfl ?_
          refine g_bipush S dL_load_111 (by decide) ?_
          refine g_invS (As := [.ref (K.2.2.2.2 42), .int (iI (5 + (5 * i))), .int (iI 100)]) (rest := [.ref nw9]) (gs' := (fun u : Unit => [gRLC K ad, gBuf K (ad 1) (ad 12) 0 B0, gScn K (ad 3) (ad 14) (ad 15) (ad 16) (ad 17) ou mi bo ln LF sn SF, gScn K (ad 4) (ad 18) (ad 19) (ad 20) (ad 21) ou_t mi_t bo_t ln_t LF_t sn_t SF_t, gPrsC K (ad 11) (ad 1) (ad 4) qp qs qk qn qo qb qe qf, gHisC K (ad 5) (ad 22) (0 : Int) 0, gQS K (ad 22) 6 (fun _ => none), gSb K nw9 b2_101 cap2_101 (((((n + (l30.length : Int)) + dgs (idxN K (1 + (5 * i)))) + (l31.length : Int)) + dgs (1 + (drwN K (3 + (5 * i)) 999))) + (l32.length : Int)) F2_101, gArr K N18 nw18 (upI IX i (idxN K (1 + (5 * i))))])) S C hG [] (c_L_draw l K (5 + (5 * i)) 100 (by omega) (by omega)) rfl rfl (va_cwS 3 S.2.2.2.2 gL_load_L_draw rfl rfl rfl (by decide +kernel) ⟨Nat.le_of_ble_eq_true rfl, Nat.le_of_ble_eq_true rfl⟩) rfl hl.1 rfl (Nat.le_of_ble_eq_true rfl) dL_load_113 ⟨show (((((kc25 + 1) + 1) + 1) + 1) + 1) + 0 ≤ 66 by omega, show (((((ks25 + 640) + 640) + 640) + 640) + 640) + 0 ≤ 36643 by omega⟩ (fun _ => Nat.le_of_ble_eq_true rfl) (fun _ => rfl) (fun v u H locs hp hG => ?_)
          subst hp
          have hd113 := drwN_bd K (5 + (5 * i)) (n := 100) (by omega)
          have g9 := dgs_bd (drwN K (5 + (5 * i)) 100)
          refine g_invV (As := [.int (iI (drwN K (5 + (5 * i)) 100))]) (rest := []) (gs' := (fun u : Nat × Nat × (Int → Int) => [gRLC K ad, gBuf K (ad 1) (ad 12) 0 B0, gScn K (ad 3) (ad 14) (ad 15) (ad 16) (ad 17) ou mi bo ln LF sn SF, gScn K (ad 4) (ad 18) (ad 19) (ad 20) (ad 21) ou_t mi_t bo_t ln_t LF_t sn_t SF_t, gPrsC K (ad 11) (ad 1) (ad 4) qp qs qk qn qo qb qe qf, gHisC K (ad 5) (ad 22) (0 : Int) 0, gQS K (ad 22) 6 (fun _ => none), gSb K nw9 u.1 u.2.1 ((((((n + (l30.length : Int)) + dgs (idxN K (1 + (5 * i)))) + (l31.length : Int)) + dgs (1 + (drwN K (3 + (5 * i)) 999))) + (l32.length : Int)) + dgs (drwN K (5 + (5 * i)) 100)) u.2.2, gArr K N18 nw18 (upI IX i (idxN K (1 + (5 * i))))])) S C hG [7] (c_J4_append_bf812 l K nw9 b2_101 cap2_101 (((((n + (l30.length : Int)) + dgs (idxN K (1 + (5 * i)))) + (l31.length : Int)) + dgs (1 + (drwN K (3 + (5 * i)) 999))) + (l32.length : Int)) F2_101 (((((tx ++ l30) ++ dgL (idxN K (1 + (5 * i)))) ++ l31) ++ dgL (1 + (drwN K (3 + (5 * i)) 999))) ++ l32) (drwN K (5 + (5 * i)) 100) (by omega) hO2_101 (by omega) (by omega)) rfl rfl 0 rfl rfl (cwV 1 S.2.2.2.2 gL_load_J4_append_bf812 rfl rfl rfl (by decide +kernel) ⟨Nat.le_of_ble_eq_true rfl, Nat.le_of_ble_eq_true rfl⟩) rfl hl.1 rfl (Nat.le_of_ble_eq_true rfl) dL_load_116 ⟨show (((((kc25 + 1) + 1) + 1) + 1) + 1) + 1 ≤ 66 by omega, show (((((ks25 + 640) + 640) + 640) + 640) + 640) + 640 ≤ 36643 by omega⟩ (fun _ => Nat.le_of_ble_eq_true rfl) (fun _ => rfl) (fun v u H locs hp hG => ?_)
          obtain ⟨b2_116, cap2_116, F2_116⟩ := u
          obtain ⟨rfl, hc2_116, hO2_116⟩ := hp
          have hc2_116 : (((((n + (l30.length : Int)) + dgs (idxN K (1 + (5 * i)))) + (l31.length : Int)) + dgs (1 + (drwN K (3 + (5 * i)) 999))) + (l32.length : Int)) + dgs (drwN K (5 + (5 * i)) 100) ≤ (cap2_116 : Int) ∧ (cap2_116 : Int) ≤ 602 := hc2_116
          have hO2_116 : OutI F2_116 ((((((n + (l30.length : Int)) + dgs (idxN K (1 + (5 * i)))) + (l31.length : Int)) + dgs (1 + (drwN K (3 + (5 * i)) 999))) + (l32.length : Int)) + dgs (drwN K (5 + (5 * i)) 100)) ((((((tx ++ l30) ++ dgL (idxN K (1 + (5 * i)))) ++ l31) ++ dgL (1 + (drwN K (3 + (5 * i)) 999))) ++ l32) ++ dgL (drwN K (5 + (5 * i)) 100)) := hO2_116
          have hG : gW K A s.heap [gRLC K ad, gBuf K (ad 1) (ad 12) 0 B0, gScn K (ad 3) (ad 14) (ad 15) (ad 16) (ad 17) ou mi bo ln LF sn SF, gScn K (ad 4) (ad 18) (ad 19) (ad 20) (ad 21) ou_t mi_t bo_t ln_t LF_t sn_t SF_t, gPrsC K (ad 11) (ad 1) (ad 4) qp qs qk qn qo qb qe qf, gHisC K (ad 5) (ad 22) (0 : Int) 0, gQS K (ad 22) 6 (fun _ => none), gSb K nw9 b2_116 cap2_116 ((((((n + (l30.length : Int)) + dgs (idxN K (1 + (5 * i)))) + (l31.length : Int)) + dgs (1 + (drwN K (3 + (5 * i)) 999))) + (l32.length : Int)) + dgs (drwN K (5 + (5 * i)) 100)) F2_116, gArr K N18 nw18 (upI IX i (idxN K (1 + (5 * i))))] _ _ := hG
          have hc_116 := hc2_116
          refine lv_pop S.1 S.2.1 dL_load_119 rfl ?_
          refine lv_aload_n S.1 S.2.1 dL_load_120 rfl (lv_at hl 3 rfl) ?_
          refine va_ldcS (q := K.2.2.2.1 33) S.1 S.2.1 S.2.2.2.1 (C.1.2.2.1 (RL, 63, ";", 33) sw_33) dL_load_121 ?_
          have q9 : (l33.length : Int) = 1 := rfl
          refine g_invV (As := [.ref (K.2.2.2.1 33)]) (rest := []) (gs' := (fun u : Nat × Nat × (Int → Int) => [gRLC K ad, gBuf K (ad 1) (ad 12) 0 B0, gScn K (ad 3) (ad 14) (ad 15) (ad 16) (ad 17) ou mi bo ln LF sn SF, gScn K (ad 4) (ad 18) (ad 19) (ad 20) (ad 21) ou_t mi_t bo_t ln_t LF_t sn_t SF_t, gPrsC K (ad 11) (ad 1) (ad 4) qp qs qk qn qo qb qe qf, gHisC K (ad 5) (ad 22) (0 : Int) 0, gQS K (ad 22) 6 (fun _ => none), gSb K nw9 u.1 u.2.1 (((((((n + (l30.length : Int)) + dgs (idxN K (1 + (5 * i)))) + (l31.length : Int)) + dgs (1 + (drwN K (3 + (5 * i)) 999))) + (l32.length : Int)) + dgs (drwN K (5 + (5 * i)) 100)) + (l33.length : Int)) u.2.2, gArr K N18 nw18 (upI IX i (idxN K (1 + (5 * i))))])) S C hG [7] (c_J4_append_15ec4 l K 33 l33 nw9 b2_116 cap2_116 ((((((n + (l30.length : Int)) + dgs (idxN K (1 + (5 * i)))) + (l31.length : Int)) + dgs (1 + (drwN K (3 + (5 * i)) 999))) + (l32.length : Int)) + dgs (drwN K (5 + (5 * i)) 100)) F2_116 ((((((tx ++ l30) ++ dgL (idxN K (1 + (5 * i)))) ++ l31) ++ dgL (1 + (drwN K (3 + (5 * i)) 999))) ++ l32) ++ dgL (drwN K (5 + (5 * i)) 100)) tx33 (by decide) (by omega) hO2_116 (by omega)) rfl rfl 0 rfl rfl (cwV 1 S.2.2.2.2 gL_load_J4_append_15ec4 rfl rfl rfl (by decide +kernel) ⟨Nat.le_of_ble_eq_true rfl, Nat.le_of_ble_eq_true rfl⟩) rfl hl.1 rfl (Nat.le_of_ble_eq_true rfl) dL_load_123 ⟨show ((((((kc25 + 1) + 1) + 1) + 1) + 1) + 1) + 1 ≤ 66 by omega, show ((((((ks25 + 640) + 640) + 640) + 640) + 640) + 640) + 640 ≤ 36643 by omega⟩ (fun _ => Nat.le_of_ble_eq_true rfl) (fun _ => rfl) (fun v u H locs hp hG => ?_)
          obtain ⟨b2_123, cap2_123, F2_123⟩ := u
          obtain ⟨rfl, hc2_123, hO2_123⟩ := hp
          have hc2_123 : ((((((n + (l30.length : Int)) + dgs (idxN K (1 + (5 * i)))) + (l31.length : Int)) + dgs (1 + (drwN K (3 + (5 * i)) 999))) + (l32.length : Int)) + dgs (drwN K (5 + (5 * i)) 100)) + (l33.length : Int) ≤ (cap2_123 : Int) ∧ (cap2_123 : Int) ≤ 602 := hc2_123
          have hO2_123 : OutI F2_123 (((((((n + (l30.length : Int)) + dgs (idxN K (1 + (5 * i)))) + (l31.length : Int)) + dgs (1 + (drwN K (3 + (5 * i)) 999))) + (l32.length : Int)) + dgs (drwN K (5 + (5 * i)) 100)) + (l33.length : Int)) (((((((tx ++ l30) ++ dgL (idxN K (1 + (5 * i)))) ++ l31) ++ dgL (1 + (drwN K (3 + (5 * i)) 999))) ++ l32) ++ dgL (drwN K (5 + (5 * i)) 100)) ++ l33) := hO2_123
          have hG : gW K A s.heap [gRLC K ad, gBuf K (ad 1) (ad 12) 0 B0, gScn K (ad 3) (ad 14) (ad 15) (ad 16) (ad 17) ou mi bo ln LF sn SF, gScn K (ad 4) (ad 18) (ad 19) (ad 20) (ad 21) ou_t mi_t bo_t ln_t LF_t sn_t SF_t, gPrsC K (ad 11) (ad 1) (ad 4) qp qs qk qn qo qb qe qf, gHisC K (ad 5) (ad 22) (0 : Int) 0, gQS K (ad 22) 6 (fun _ => none), gSb K nw9 b2_123 cap2_123 (((((((n + (l30.length : Int)) + dgs (idxN K (1 + (5 * i)))) + (l31.length : Int)) + dgs (1 + (drwN K (3 + (5 * i)) 999))) + (l32.length : Int)) + dgs (drwN K (5 + (5 * i)) 100)) + (l33.length : Int)) F2_123, gArr K N18 nw18 (upI IX i (idxN K (1 + (5 * i))))] _ _ := hG
          have hc_123 := hc2_123
          refine lv_pop S.1 S.2.1 dL_load_126 rfl ?_
          refine lv_iinc (v := iI (i + 1)) (lv' := [(5, .int (iI (i + 1))), (0, .ref (ad 0)), (1, .ref (K.2.2.2.2 42)), (2, .int (iI nl)), (3, .ref nw9), (4, .ref nw18)]) S.1 S.2.1 dL_load_127 hl (k := 5) rfl (g_iinc rfl) (by decide) rfl (fun ls hl => ?_)
          refine lv_goto (tgt := 25) S.1 S.2.1 dL_load_130 (by decide) ?_
          exact ih (i + 1) (upI IX i (idxN K (1 + (5 * i)))) (((((((n + (l30.length : Int)) + dgs (idxN K (1 + (5 * i)))) + (l31.length : Int)) + dgs (1 + (drwN K (3 + (5 * i)) 999))) + (l32.length : Int)) + dgs (drwN K (5 + (5 * i)) 100)) + (l33.length : Int)) F2_123 b2_123 cap2_123 (((((((tx ++ l30) ++ dgL (idxN K (1 + (5 * i)))) ++ l31) ++ dgL (1 + (drwN K (3 + (5 * i)) 999))) ++ l32) ++ dgL (drwN K (5 + (5 * i)) 100)) ++ l33) (addLN M (idxN K (1 + (5 * i))) (1 + (drwN K (3 + (5 * i)) 999)) (drwN K (5 + (5 * i)) 100)) (((((((kc25 + 1) + 1) + 1) + 1) + 1) + 1) + 1) (((((((ks25 + 640) + 640) + 640) + 640) + 640) + 640) + 640) _ _ _ (by omega) (by omega) hO2_123 (by omega) (by omega) (hT9.lay5 (by have := hI.1; omega) (by omega) (by omega) (by omega)) (hI.lay (a := (idxN K (1 + (5 * i)))) (b := (1 + (drwN K (3 + (5 * i)) 999))) (c := (drwN K (5 + (5 * i)) 100)) (by omega) (by omega) (by omega) (by omega)) (by omega) (lv_sub hl [1, 2, 3, 4, 5, 0] rfl) hG
  have hG : gW K A s.heap [gRLC K ad, gBuf K (ad 1) (ad 12) 0 B0, gScn K (ad 3) (ad 14) (ad 15) (ad 16) (ad 17) ou mi bo ln LF sn SF, gScn K (ad 4) (ad 18) (ad 19) (ad 20) (ad 21) ou_t mi_t bo_t ln_t LF_t sn_t SF_t, gPrsC K (ad 11) (ad 1) (ad 4) qp qs qk qn qo qb qe qf, gHisC K (ad 5) (ad 22) (0 : Int) 0, gQS K (ad 22) 6 (fun _ => none), gSb K nw9 b2_13 16 0 (fun _ : Int => 0), gArr K N18 nw18 (fun _ => 0)] _ _ := hG
  exact L25 (Nat.succ ((nl - 0).toNat)) 0 (fun _ => 0) 0 (fun _ : Int => 0) b2_13 16 ([]) eN0 (((0 + 1) + 1) + 1) (((0 + 4) + 16) + 10) _ _ _ (Nat.lt_succ_self _) (by omega) (OutI.nil _) (by omega) (by omega) TxS.nil (ScnI.nil _) (by omega) (lv_sub hl [4, 5, 3, 2, 1, 0] rfl) hG
