set_option maxHeartbeats 1000000 in
set_option maxRecDepth 100000 in
theorem c_X2_isWord (l : Launch) (K : KC) (qa : Nat) (tx : Nat) (sc : Nat) (qp : Int) (qs : Int) (qk : Int) (qn : Int) (qo : Int) (qb : Int) (qe : Int) (qf : Int) (bb : Nat) (n : Int) (F : Int → Int) (tp : Int) (i : Nat) (wd : List Int) (h0 : 0 ≤ n ∧ n ≤ 400) (h1 : 0 ≤ tp ∧ tp ≤ n) (htk : TokI F n tp qp qs qk qn) (hT : txI i wd) (hl9 : wd.length ≤ 100) : mG l yX2_isWord wsX2_isWord 4 85 K [.ref qa, .ref (K.2.2.2.1 i)] [gPrsC K qa tx sc qp qs qk qn qo qb qe qf, gBuf K tx bb n F] (fun (v : Value) (u : Unit) => (v = .int (iI (bI (isWd F n tp wd))))) (fun (u : Unit) => [gPrsC K qa tx sc qp qs qk qn qo qb qe qf, gBuf K tx bb n F]) 0 0 := by
  refine mG_of cX2_isWord 3 (by decide) rfl (Nat.le_of_ble_eq_true rfl) ?_
  intro p e s m below meth c A ls Q S C hG hl hr hlk hin hQ
  have S : CallFix p m c cX2_isWord 3 s ([.ref qa, .ref (K.2.2.2.1 i)] : List Value).toArray wsX2_isWord RX2 := S
  have iX20 : ∀ w ∈ wsX20, w ∈ wsX2_isWord := fun _ h => List.mem_cons_of_mem _ (List.mem_append_left _ (List.mem_append_left _ (List.mem_append_right _ (h))))
  have iX00 : ∀ w ∈ wsX00, w ∈ wsX2_isWord := fun _ h => List.mem_cons_of_mem _ (List.mem_append_right _ (h))
  have hl : lv_has ls 3 [(0, .ref qa), (1, .ref (K.2.2.2.1 i))] := hl
  have hG : gW K A s.heap [gPrsC K qa tx sc qp qs qk qn qo qb qe qf, gBuf K tx bb n F] s.heap [] := hG
  obtain ⟨x1, x2, x3, x4⟩ := id htk
  have xb := htk.bd h1.1 h1.2
  refine lv_aload_n S.1 S.2.1 dX2_isWord_0 rfl (lv_at hl 0 rfl) ?_
  refine g_get S C hG iX20 0 rfl rfl 4 (by decide) (List.mem_of_getElem? (i := 1) rfl) rfl dX2_isWord_1 ?_
  refine g_iconst S dX2_isWord_4 ?_
  refine g_icmp_ne (tgt := 24) S dX2_isWord_5 (by decide) (by omega) (by omega) (fun q5 => ?_) (fun q5 => ?_)
  · skip
    refine g_iconst S dX2_isWord_24 ?_
    have hG : gW K A s.heap [gPrsC K qa tx sc qp qs qk qn qo qb qe qf, gBuf K tx bb n F] _ _ := hG
    exact g_zret S hr hlk hQ (Or.inl rfl) dX2_isWord_25 (Nat.le_of_ble_eq_true rfl) (Nat.le_of_ble_eq_true rfl) (() : Unit) (congrArg (fun z : Int => Value.int (iI z)) (bI_f (fun q => by have z := isWd_iff.mp q <;> omega)).symm) hG
  · skip
    refine lv_aload_n S.1 S.2.1 dX2_isWord_8 rfl (lv_at hl 0 rfl) ?_
    refine g_get S C hG iX20 0 rfl rfl 2 (by decide) (List.mem_of_getElem? (i := 2) rfl) rfl dX2_isWord_9 ?_
    refine lv_aload_n S.1 S.2.1 dX2_isWord_12 rfl (lv_at hl 0 rfl) ?_
    refine g_get S C hG iX20 0 rfl rfl 3 (by decide) (List.mem_of_getElem? (i := 3) rfl) rfl dX2_isWord_13 ?_
    refine g_isub S dX2_isWord_16 rfl ?_
    refine lv_aload_n S.1 S.2.1 dX2_isWord_17 rfl (lv_at hl 1 rfl) ?_
    refine g_invVO (As := []) (rest := [.int (iI (qp - qs))]) (gs' := (fun u : Unit => [gPrsC K qa tx sc qp qs qk qn qo qb qe qf, gBuf K tx bb n F])) S C hG [] (c_J0_length_8abf5 l K i wd hT hl9) rfl rfl hT (cwV 0 S.2.2.2.2 gX2_isWord_J0_length_8abf5 rfl rfl rfl (by decide +kernel) ⟨Nat.le_of_ble_eq_true rfl, Nat.le_of_ble_eq_true rfl⟩) rfl hl.1 rfl (Nat.le_of_ble_eq_true rfl) dX2_isWord_18 ⟨Nat.le_of_ble_eq_true rfl, Nat.le_of_ble_eq_true rfl⟩ (fun _ => Nat.le_of_ble_eq_true rfl) (fun _ => rfl) (fun v u H locs hp hG => ?_)
    subst hp
    refine g_icmp_eq (tgt := 26) S dX2_isWord_21 (by decide) (by omega) (by omega) (fun q21 => ?_) (fun q21 => ?_)
    · skip
      refine g_iconst S dX2_isWord_26 ?_
      refine lv_istore_n (lv' := [(2, .int (iI 0)), (0, .ref qa), (1, .ref (K.2.2.2.1 i))]) S.1 S.2.1 dX2_isWord_27 rfl hl (by decide) rfl (fun ls hl => ?_)
      have L28 : ∀ (fu : Nat) (w : Int) (H : Heap) (locs : List Loc) (ls : Array Slot), (((wd.length : Int) - w).toNat) < fu → (0 ≤ w ∧ w ≤ wd.length) → (∀ j : Nat, (j : Int) < w → bget F n (qs + j) = wd.getD j 0) → lv_has ls 3 [(0, .ref qa), (1, .ref (K.2.2.2.1 i)), (2, .int (iI w))] → gW K A s.heap [gPrsC K qa tx sc qp qs qk qn qo qb qe qf, gBuf K tx bb n F] H locs → W p l e { frames := 4, cells := 0, slots := 0, locals := 85 } s m ([.ref qa, .ref (K.2.2.2.1 i)] : List Value).toArray below meth c H locs 0 0 Q (F0 m 28 ls []) := by
        intro fu
        induction fu with
        | zero => intro w H locs ls hfu; exact absurd hfu (Nat.not_lt_zero _)
        | succ fu ih =>
          intro w H locs ls hfu hw hz hl hG
          refine lv_iload_n S.1 S.2.1 dX2_isWord_28 rfl (lv_at hl 2 rfl) ?_
          refine lv_aload_n S.1 S.2.1 dX2_isWord_29 rfl (lv_at hl 1 rfl) ?_
          refine g_invVO (As := []) (rest := [.int (iI w)]) (gs' := (fun u : Unit => [gPrsC K qa tx sc qp qs qk qn qo qb qe qf, gBuf K tx bb n F])) S C hG [] (c_J0_length_8abf5 l K i wd hT hl9) rfl rfl hT (cwV 0 S.2.2.2.2 gX2_isWord_J0_length_8abf5 rfl rfl rfl (by decide +kernel) ⟨Nat.le_of_ble_eq_true rfl, Nat.le_of_ble_eq_true rfl⟩) rfl hl.1 rfl (Nat.le_of_ble_eq_true rfl) dX2_isWord_30 ⟨Nat.le_of_ble_eq_true rfl, Nat.le_of_ble_eq_true rfl⟩ (fun _ => Nat.le_of_ble_eq_true rfl) (fun _ => rfl) (fun v u H locs hp hG => ?_)
          subst hp
          refine g_icmp_ge (tgt := 65) S dX2_isWord_33 (by decide) (by omega) (by omega) (fun q33 => ?_) (fun q33 => ?_)
          · skip
            refine g_iconst S dX2_isWord_65 ?_
            have hG : gW K A s.heap [gPrsC K qa tx sc qp qs qk qn qo qb qe qf, gBuf K tx bb n F] _ _ := hG
            exact g_zret S hr hlk hQ (Or.inr rfl) dX2_isWord_66 (Nat.le_of_ble_eq_true rfl) (Nat.le_of_ble_eq_true rfl) (() : Unit) (congrArg (fun z : Int => Value.int (iI z)) (bI_t (isWd_iff.mpr ⟨by omega, by omega, fun j hj => by rw [← x2] <;> exact hz j (by omega)⟩)).symm) hG
          · skip
            refine lv_aload_n S.1 S.2.1 dX2_isWord_36 rfl (lv_at hl 0 rfl) ?_
            refine g_get S C hG iX20 0 rfl rfl 0 (by decide) (List.mem_of_getElem? (i := 4) rfl) rfl dX2_isWord_37 ?_
            refine lv_aload_n S.1 S.2.1 dX2_isWord_40 rfl (lv_at hl 0 rfl) ?_
            refine g_get S C hG iX20 0 rfl rfl 3 (by decide) (List.mem_of_getElem? (i := 3) rfl) rfl dX2_isWord_41 ?_
            refine lv_iload_n S.1 S.2.1 dX2_isWord_44 rfl (lv_at hl 2 rfl) ?_
            refine g_iadd S dX2_isWord_45 rfl ?_
            have bb9 := bget_bd F n (qs + w)
            refine g_invV (As := [.int (iI (qs + w))]) (rest := []) (gs' := (fun u : Unit => [gPrsC K qa tx sc qp qs qk qn qo qb qe qf, gBuf K tx bb n F])) S C hG [1] (c_X0_get l K tx bb n F (qs + w) h0 (by omega)) rfl rfl 0 rfl rfl (cwV 1 S.2.2.2.2 gX2_isWord_X0_get rfl rfl rfl (by decide +kernel) ⟨Nat.le_of_ble_eq_true rfl, Nat.le_of_ble_eq_true rfl⟩) rfl hl.1 rfl (Nat.le_of_ble_eq_true rfl) dX2_isWord_46 ⟨Nat.le_of_ble_eq_true rfl, Nat.le_of_ble_eq_true rfl⟩ (fun _ => Nat.le_of_ble_eq_true rfl) (fun _ => rfl) (fun v u H locs hp hG => ?_)
            subst hp
            refine lv_aload_n S.1 S.2.1 dX2_isWord_49 rfl (lv_at hl 1 rfl) ?_
            refine lv_iload_n S.1 S.2.1 dX2_isWord_50 rfl (lv_at hl 2 rfl) ?_
            refine g_invVO (As := [.int (iI w)]) (rest := [.int (iI (bget F n (qs + w)))]) (gs' := (fun u : Unit => [gPrsC K qa tx sc qp qs qk qn qo qb qe qf, gBuf K tx bb n F])) S C hG [] (c_J0_charAt_5068e l K i wd w hT hl9 (by omega)) rfl rfl hT (cwV 1 S.2.2.2.2 gX2_isWord_J0_charAt_5068e rfl rfl rfl (by decide +kernel) ⟨Nat.le_of_ble_eq_true rfl, Nat.le_of_ble_eq_true rfl⟩) rfl hl.1 rfl (Nat.le_of_ble_eq_true rfl) dX2_isWord_51 ⟨Nat.le_of_ble_eq_true rfl, Nat.le_of_ble_eq_true rfl⟩ (fun _ => Nat.le_of_ble_eq_true rfl) (fun _ => rfl) (fun v u H locs hp hG => ?_)
            subst hp
            have bw := wd_bd hT.2 w.toNat
            have bb9 := bget_bd F n (qs + w)
            refine g_icmp_eq (tgt := 59) S dX2_isWord_54 (by decide) (by omega) (by omega) (fun q54 => ?_) (fun q54 => ?_)
            · skip
              refine lv_iinc (v := iI (w + 1)) (lv' := [(2, .int (iI (w + 1))), (0, .ref qa), (1, .ref (K.2.2.2.1 i))]) S.1 S.2.1 dX2_isWord_59 hl (k := 2) rfl (g_iinc rfl) (by decide) rfl (fun ls hl => ?_)
              refine lv_goto (tgt := 28) S.1 S.2.1 dX2_isWord_62 (by decide) ?_
              exact ih (w + 1) _ _ _ (by omega) (by omega) (fun j hj => if q : (j : Int) < w then hz j q else (by rw [show j = w.toNat by omega, Int.toNat_of_nonneg hw.1] <;> exact q54)) (lv_sub hl [1, 2, 0] rfl) hG
            · skip
              refine g_iconst S dX2_isWord_57 ?_
              have hG : gW K A s.heap [gPrsC K qa tx sc qp qs qk qn qo qb qe qf, gBuf K tx bb n F] _ _ := hG
              exact g_zret S hr hlk hQ (Or.inl rfl) dX2_isWord_58 (Nat.le_of_ble_eq_true rfl) (Nat.le_of_ble_eq_true rfl) (() : Unit) (congrArg (fun z : Int => Value.int (iI z)) (bI_f (fun q => q54 (by have z := (isWd_iff.mp q).2.2 w.toNat (by omega) <;> rw [Int.toNat_of_nonneg hw.1, ← x2] at z <;> exact z))).symm) hG
      exact L28 (Nat.succ (((wd.length : Int) - 0).toNat)) 0 _ _ _ (Nat.lt_succ_self _) (by omega) (fun j hj => by omega) (lv_sub hl [1, 2, 0] rfl) hG
    · skip
      refine g_iconst S dX2_isWord_24 ?_
      have hG : gW K A s.heap [gPrsC K qa tx sc qp qs qk qn qo qb qe qf, gBuf K tx bb n F] _ _ := hG
      exact g_zret S hr hlk hQ (Or.inl rfl) dX2_isWord_25 (Nat.le_of_ble_eq_true rfl) (Nat.le_of_ble_eq_true rfl) (() : Unit) (congrArg (fun z : Int => Value.int (iI z)) (bI_f (fun q => by have z := isWd_iff.mp q <;> omega)).symm) hG
set_option maxHeartbeats 1000000 in
set_option maxRecDepth 100000 in
theorem c_X2_isNumber (l : Launch) (K : KC) (qa : Nat) (tx : Nat) (sc : Nat) (qp : Int) (qs : Int) (qk : Int) (qn : Int) (qo : Int) (qb : Int) (qe : Int) (qf : Int) (bb : Nat) (n : Int) (F : Int → Int) (tp : Int) (zlo : Int) (zhi : Int) (h0 : 0 ≤ n ∧ n ≤ 400) (h1 : 0 ≤ tp ∧ tp ≤ n) (htk : TokI F n tp qp qs qk qn) (h2 : 0 ≤ zlo ∧ zlo ≤ 4000) (h3 : 0 ≤ zhi ∧ zhi ≤ 4000) : mG l yX2_isNumber wsX2_isNumber 1 21 K [.ref qa, .int (iI zlo), .int (iI zhi)] [gPrsC K qa tx sc qp qs qk qn qo qb 0 (-1)] (fun (v : Value) (u : Int × Int) => (v = .int (iI (bI (okE (numE F n tp zlo zhi))))) ∧ (ErI (numE F n tp zlo zhi) u.1 u.2)) (fun (u : Int × Int) => [gPrsC K qa tx sc qp qs qk qn qo qb u.1 u.2]) 0 0 := by
  refine mG_of cX2_isNumber 3 (by decide) rfl (Nat.le_of_ble_eq_true rfl) ?_
  intro p e s m below meth c A ls Q S C hG hl hr hlk hin hQ
  have S : CallFix p m c cX2_isNumber 3 s ([.ref qa, .int (iI zlo), .int (iI zhi)] : List Value).toArray wsX2_isNumber RX2 := S
  have iX20 : ∀ w ∈ wsX20, w ∈ wsX2_isNumber := fun _ h => List.mem_cons_of_mem _ (List.mem_append_right _ (h))
  have hl : lv_has ls 3 [(0, .ref qa), (1, .int (iI zlo)), (2, .int (iI zhi))] := hl
  have hG : gW K A s.heap [gPrsC K qa tx sc qp qs qk qn qo qb 0 (-1)] s.heap [] := hG
  obtain ⟨x1, x2, x3, x4⟩ := id htk
  have xb := htk.bd h1.1 h1.2
  refine lv_aload_n S.1 S.2.1 dX2_isNumber_0 rfl (lv_at hl 0 rfl) ?_
  refine g_get S C hG iX20 0 rfl rfl 4 (by decide) (List.mem_of_getElem? (i := 1) rfl) rfl dX2_isNumber_1 ?_
  refine g_iconst S dX2_isNumber_4 ?_
  refine g_icmp_eq (tgt := 14) S dX2_isNumber_5 (by decide) (by omega) (by omega) (fun q5 => ?_) (fun q5 => ?_)
  · skip
    have x5 := x4 q5
    refine lv_aload_n S.1 S.2.1 dX2_isNumber_14 rfl (lv_at hl 0 rfl) ?_
    refine g_get S C hG iX20 0 rfl rfl 5 (by decide) (List.mem_of_getElem? (i := 2) rfl) rfl dX2_isNumber_15 ?_
    refine lv_iload_n S.1 S.2.1 dX2_isNumber_18 rfl (lv_at hl 1 rfl) ?_
    refine g_icmp_lt (tgt := 30) S dX2_isNumber_19 (by decide) (by omega) (by omega) (fun q19 => ?_) (fun q19 => ?_)
    · skip
      refine lv_aload_n S.1 S.2.1 dX2_isNumber_30 rfl (lv_at hl 0 rfl) ?_
      refine g_iconst S dX2_isNumber_31 ?_
      refine g_invV (As := [.int (iI 2)]) (rest := []) (gs' := (fun u : Unit => [gPrsC K qa tx sc qp qs qk qn qo qb 2 qs])) S C hG [0] (c_X2_fail l K qa tx sc qp qs qk qn qo qb 0 (-1) 2) rfl rfl 0 rfl rfl (cwV 1 S.2.2.2.2 gX2_isNumber_X2_fail rfl rfl rfl (by decide +kernel) ⟨Nat.le_of_ble_eq_true rfl, Nat.le_of_ble_eq_true rfl⟩) rfl hl.1 rfl (Nat.le_of_ble_eq_true rfl) dX2_isNumber_32 ⟨Nat.le_of_ble_eq_true rfl, Nat.le_of_ble_eq_true rfl⟩ (fun _ => Nat.le_of_ble_eq_true rfl) (fun _ => rfl) (fun v u H locs hp hG => ?_)
      subst hp
      refine g_if_eq (tgt := 42) S dX2_isNumber_35 (by decide) (by omega) (fun q35 => ?_) (fun q35 => ?_)
      · skip
        refine g_iconst S dX2_isNumber_42 ?_
        have hG : gW K A s.heap [gPrsC K qa tx sc qp qs qk qn qo qb 2 qs] _ _ := hG
        exact g_zret S hr hlk hQ (Or.inl rfl) dX2_isNumber_43 (Nat.le_of_ble_eq_true rfl) (Nat.le_of_ble_eq_true rfl) ((2, qs) : Int × Int) ⟨(congrArg (fun z : Int => Value.int (iI z)) (bI_f (by rw [numE_2 (by omega) (by omega)] <;> exact (fl_er F n tp 2).1)).symm), (by rw [numE_2 (by omega) (by omega)] <;> exact ⟨rfl, x2⟩)⟩ hG
      · skip
        exact absurd q35 (by decide)
    · skip
      refine lv_aload_n S.1 S.2.1 dX2_isNumber_22 rfl (lv_at hl 0 rfl) ?_
      refine g_get S C hG iX20 0 rfl rfl 5 (by decide) (List.mem_of_getElem? (i := 2) rfl) rfl dX2_isNumber_23 ?_
      refine lv_iload_n S.1 S.2.1 dX2_isNumber_26 rfl (lv_at hl 2 rfl) ?_
      refine g_icmp_le (tgt := 38) S dX2_isNumber_27 (by decide) (by omega) (by omega) (fun q27 => ?_) (fun q27 => ?_)
      · skip
        refine g_iconst S dX2_isNumber_38 ?_
        refine lv_goto (tgt := 43) S.1 S.2.1 dX2_isNumber_39 (by decide) ?_
        have hG : gW K A s.heap [gPrsC K qa tx sc qp qs qk qn qo qb 0 (-1)] _ _ := hG
        exact g_zret S hr hlk hQ (Or.inr rfl) dX2_isNumber_43 (Nat.le_of_ble_eq_true rfl) (Nat.le_of_ble_eq_true rfl) ((0, (-1)) : Int × Int) ⟨(congrArg (fun z : Int => Value.int (iI z)) (bI_t (by rw [numE_3 (by omega) (by omega)] <;> rfl)).symm), (by rw [numE_3 (by omega) (by omega)] <;> exact ⟨rfl, rfl⟩)⟩ hG
      · skip
        refine lv_aload_n S.1 S.2.1 dX2_isNumber_30 rfl (lv_at hl 0 rfl) ?_
        refine g_iconst S dX2_isNumber_31 ?_
        refine g_invV (As := [.int (iI 2)]) (rest := []) (gs' := (fun u : Unit => [gPrsC K qa tx sc qp qs qk qn qo qb 2 qs])) S C hG [0] (c_X2_fail l K qa tx sc qp qs qk qn qo qb 0 (-1) 2) rfl rfl 0 rfl rfl (cwV 1 S.2.2.2.2 gX2_isNumber_X2_fail rfl rfl rfl (by decide +kernel) ⟨Nat.le_of_ble_eq_true rfl, Nat.le_of_ble_eq_true rfl⟩) rfl hl.1 rfl (Nat.le_of_ble_eq_true rfl) dX2_isNumber_32 ⟨Nat.le_of_ble_eq_true rfl, Nat.le_of_ble_eq_true rfl⟩ (fun _ => Nat.le_of_ble_eq_true rfl) (fun _ => rfl) (fun v u H locs hp hG => ?_)
        subst hp
        refine g_if_eq (tgt := 42) S dX2_isNumber_35 (by decide) (by omega) (fun q35 => ?_) (fun q35 => ?_)
        · skip
          refine g_iconst S dX2_isNumber_42 ?_
          have hG : gW K A s.heap [gPrsC K qa tx sc qp qs qk qn qo qb 2 qs] _ _ := hG
          exact g_zret S hr hlk hQ (Or.inl rfl) dX2_isNumber_43 (Nat.le_of_ble_eq_true rfl) (Nat.le_of_ble_eq_true rfl) ((2, qs) : Int × Int) ⟨(congrArg (fun z : Int => Value.int (iI z)) (bI_f (by rw [numE_2 (by omega) (by omega)] <;> exact (fl_er F n tp 2).1)).symm), (by rw [numE_2 (by omega) (by omega)] <;> exact ⟨rfl, x2⟩)⟩ hG
        · skip
          exact absurd q35 (by decide)
  · skip
    refine lv_aload_n S.1 S.2.1 dX2_isNumber_8 rfl (lv_at hl 0 rfl) ?_
    refine g_iconst S dX2_isNumber_9 ?_
    refine g_invV (As := [.int (iI 1)]) (rest := []) (gs' := (fun u : Unit => [gPrsC K qa tx sc qp qs qk qn qo qb 1 qs])) S C hG [0] (c_X2_fail l K qa tx sc qp qs qk qn qo qb 0 (-1) 1) rfl rfl 0 rfl rfl (cwV 1 S.2.2.2.2 gX2_isNumber_X2_fail rfl rfl rfl (by decide +kernel) ⟨Nat.le_of_ble_eq_true rfl, Nat.le_of_ble_eq_true rfl⟩) rfl hl.1 rfl (Nat.le_of_ble_eq_true rfl) dX2_isNumber_10 ⟨Nat.le_of_ble_eq_true rfl, Nat.le_of_ble_eq_true rfl⟩ (fun _ => Nat.le_of_ble_eq_true rfl) (fun _ => rfl) (fun v u H locs hp hG => ?_)
    subst hp
    have hG : gW K A s.heap [gPrsC K qa tx sc qp qs qk qn qo qb 1 qs] _ _ := hG
    exact g_zret S hr hlk hQ (Or.inl rfl) dX2_isNumber_13 (Nat.le_of_ble_eq_true rfl) (Nat.le_of_ble_eq_true rfl) ((1, qs) : Int × Int) ⟨(congrArg (fun z : Int => Value.int (iI z)) (bI_f (by rw [numE_1 (by omega)] <;> exact (fl_er F n tp 1).1)).symm), (by rw [numE_1 (by omega)] <;> exact ⟨rfl, x2⟩)⟩ hG
set_option maxHeartbeats 1000000 in
set_option maxRecDepth 100000 in
theorem c_X2_takeWord (l : Launch) (K : KC) (qa : Nat) (tx : Nat) (sc : Nat) (qp : Int) (qs : Int) (qk : Int) (qn : Int) (qo : Int) (qb : Int) (qe : Int) (qf : Int) (bb : Nat) (n : Int) (F : Int → Int) (tp : Int) (i : Nat) (wd : List Int) (h0 : 0 ≤ n ∧ n ≤ 400) (h1 : 0 ≤ tp ∧ tp ≤ n) (htk : TokI F n tp qp qs qk qn) (hT : txI i wd) (hl9 : wd.length ≤ 100) : mG l yX2_takeWord wsX2_takeWord 5 107 K [.ref qa, .ref (K.2.2.2.1 i)] [gPrsC K qa tx sc qp qs qk qn qo qb 0 (-1), gBuf K tx bb n F] (fun (v : Value) (u : Int × Int × Int × Int × Int × Int) => (v = .int (iI (bI (okE (wdE F n tp wd))))) ∧ (ErI (wdE F n tp wd) u.2.2.2.2.1 u.2.2.2.2.2) ∧ (okE (wdE F n tp wd) → TokI F n (tkE F n tp) u.1 u.2.1 u.2.2.1 u.2.2.2.1)) (fun (u : Int × Int × Int × Int × Int × Int) => [gPrsC K qa tx sc u.1 u.2.1 u.2.2.1 u.2.2.2.1 qo qb u.2.2.2.2.1 u.2.2.2.2.2, gBuf K tx bb n F]) 0 0 := by
  refine mG_of cX2_takeWord 2 (by decide) rfl (Nat.le_of_ble_eq_true rfl) ?_
  intro p e s m below meth c A ls Q S C hG hl hr hlk hin hQ
  have S : CallFix p m c cX2_takeWord 2 s ([.ref qa, .ref (K.2.2.2.1 i)] : List Value).toArray wsX2_takeWord RX2 := S
  have iX20 : ∀ w ∈ wsX20, w ∈ wsX2_takeWord := fun _ h => List.mem_cons_of_mem _ (List.mem_append_left _ (List.mem_append_left _ (List.mem_append_right _ (h))))
  have iX00 : ∀ w ∈ wsX00, w ∈ wsX2_takeWord := fun _ h => List.mem_cons_of_mem _ (List.mem_append_right _ (h))
  have hl : lv_has ls 2 [(0, .ref qa), (1, .ref (K.2.2.2.1 i))] := hl
  have hG : gW K A s.heap [gPrsC K qa tx sc qp qs qk qn qo qb 0 (-1), gBuf K tx bb n F] s.heap [] := hG
  obtain ⟨x1, x2, x3, x4⟩ := id htk
  have xb := htk.bd h1.1 h1.2
  refine lv_aload_n S.1 S.2.1 dX2_takeWord_0 rfl (lv_at hl 0 rfl) ?_
  refine lv_aload_n S.1 S.2.1 dX2_takeWord_1 rfl (lv_at hl 1 rfl) ?_
  refine g_invV (As := [.ref (K.2.2.2.1 i)]) (rest := []) (gs' := (fun u : Unit => [gPrsC K qa tx sc qp qs qk qn qo qb 0 (-1), gBuf K tx bb n F])) S C hG [0, 1] (c_X2_isWord l K qa tx sc qp qs qk qn qo qb 0 (-1) bb n F tp i wd h0 h1 htk hT hl9) rfl rfl 0 rfl rfl (cwV 1 S.2.2.2.2 gX2_takeWord_X2_isWord rfl rfl rfl (by decide +kernel) ⟨Nat.le_of_ble_eq_true rfl, Nat.le_of_ble_eq_true rfl⟩) rfl hl.1 rfl (Nat.le_of_ble_eq_true rfl) dX2_takeWord_2 ⟨Nat.le_of_ble_eq_true rfl, Nat.le_of_ble_eq_true rfl⟩ (fun _ => Nat.le_of_ble_eq_true rfl) (fun _ => rfl) (fun v u H locs hp hG => ?_)
  subst hp
  refine g_ifne_b (B := (isWd F n tp wd)) (tgt := 14) S dX2_takeWord_5 (by decide) (fun q5 => ?_) (fun q5 => ?_)
  · skip
    refine lv_aload_n S.1 S.2.1 dX2_takeWord_14 rfl (lv_at hl 0 rfl) ?_
    refine g_invVv (As := []) (rest := []) (gs' := (fun u : Int × Int × Int × Int => [gPrsC K qa tx sc u.1 u.2.1 u.2.2.1 u.2.2.2 qo qb 0 (-1), gBuf K tx bb n F])) S C hG [0, 1] (c_X2_readToken l K qa tx sc qp qs qk qn qo qb 0 (-1) bb n F h0 (by omega)) rfl rfl 0 rfl rfl (cwV 0 S.2.2.2.2 gX2_takeWord_X2_readToken rfl rfl rfl (by decide +kernel) ⟨Nat.le_of_ble_eq_true rfl, Nat.le_of_ble_eq_true rfl⟩) rfl hl.1 rfl (Nat.le_of_ble_eq_true rfl) dX2_takeWord_15 ⟨Nat.le_of_ble_eq_true rfl, Nat.le_of_ble_eq_true rfl⟩ (fun _ => Nat.le_of_ble_eq_true rfl) (fun _ => rfl) (fun u H locs hp hG => ?_)
    obtain ⟨qp2_15, qs2_15, qk2_15, qn2_15⟩ := u
    have ht_15 := hp
    have ht_15 : TokI F n qp qp2_15 qs2_15 qk2_15 qn2_15 := ht_15
    have hG : gW K A s.heap [gPrsC K qa tx sc qp2_15 qs2_15 qk2_15 qn2_15 qo qb 0 (-1), gBuf K tx bb n F] _ _ := hG
    refine g_iconst S dX2_takeWord_18 ?_
    have hG : gW K A s.heap [gPrsC K qa tx sc qp2_15 qs2_15 qk2_15 qn2_15 qo qb 0 (-1), gBuf K tx bb n F] _ _ := hG
    exact g_zret S hr hlk hQ (Or.inr rfl) dX2_takeWord_19 (Nat.le_of_ble_eq_true rfl) (Nat.le_of_ble_eq_true rfl) ((qp2_15, qs2_15, qk2_15, qn2_15, 0, (-1)) : Int × Int × Int × Int × Int × Int) ⟨(congrArg (fun z : Int => Value.int (iI z)) (bI_t (by rw [wdE_t q5] <;> rfl)).symm), (by rw [wdE_t q5] <;> exact ⟨rfl, rfl⟩), (fun _ => by rw [← x1] <;> exact ht_15)⟩ hG
  · skip
    refine lv_aload_n S.1 S.2.1 dX2_takeWord_8 rfl (lv_at hl 0 rfl) ?_
    refine g_iconst S dX2_takeWord_9 ?_
    refine g_invV (As := [.int (iI 1)]) (rest := []) (gs' := (fun u : Unit => [gPrsC K qa tx sc qp qs qk qn qo qb 1 qs, gBuf K tx bb n F])) S C hG [0] (c_X2_fail l K qa tx sc qp qs qk qn qo qb 0 (-1) 1) rfl rfl 0 rfl rfl (cwV 1 S.2.2.2.2 gX2_takeWord_X2_fail rfl rfl rfl (by decide +kernel) ⟨Nat.le_of_ble_eq_true rfl, Nat.le_of_ble_eq_true rfl⟩) rfl hl.1 rfl (Nat.le_of_ble_eq_true rfl) dX2_takeWord_10 ⟨Nat.le_of_ble_eq_true rfl, Nat.le_of_ble_eq_true rfl⟩ (fun _ => Nat.le_of_ble_eq_true rfl) (fun _ => rfl) (fun v u H locs hp hG => ?_)
    subst hp
    have hG : gW K A s.heap [gPrsC K qa tx sc qp qs qk qn qo qb 1 qs, gBuf K tx bb n F] _ _ := hG
    exact g_zret S hr hlk hQ (Or.inl rfl) dX2_takeWord_13 (Nat.le_of_ble_eq_true rfl) (Nat.le_of_ble_eq_true rfl) ((qp, qs, qk, qn, 1, qs) : Int × Int × Int × Int × Int × Int) ⟨(congrArg (fun z : Int => Value.int (iI z)) (bI_f (by rw [wdE_f q5] <;> exact (fl_er F n tp 1).1)).symm), (by rw [wdE_f q5] <;> exact ⟨rfl, x2⟩), (fun q => absurd q (by rw [wdE_f q5] <;> exact (fl_er F n tp 1).1))⟩ hG
set_option maxHeartbeats 1000000 in
set_option maxRecDepth 100000 in
theorem c_X2_takeSemicolon (l : Launch) (K : KC) (qa : Nat) (tx : Nat) (sc : Nat) (qp : Int) (qs : Int) (qk : Int) (qn : Int) (qo : Int) (qb : Int) (qe : Int) (qf : Int) (bb : Nat) (n : Int) (F : Int → Int) (tp : Int) (h0 : 0 ≤ n ∧ n ≤ 400) (h1 : 0 ≤ tp ∧ tp ≤ n) (htk : TokI F n tp qp qs qk qn) : mG l yX2_takeSemicolon wsX2_takeSemicolon 2 45 K [.ref qa] [gPrsC K qa tx sc qp qs qk qn qo qb 0 (-1), gBuf K tx bb n F] (fun (v : Value) (u : Int × Int × Int × Int × Int × Int) => (v = .int (iI (bI (okE (smE F n tp))))) ∧ (ErI (smE F n tp) u.2.2.2.2.1 u.2.2.2.2.2) ∧ (okE (smE F n tp) → TokI F n (tkE F n tp) u.1 u.2.1 u.2.2.1 u.2.2.2.1)) (fun (u : Int × Int × Int × Int × Int × Int) => [gPrsC K qa tx sc u.1 u.2.1 u.2.2.1 u.2.2.2.1 qo qb u.2.2.2.2.1 u.2.2.2.2.2, gBuf K tx bb n F]) 0 0 := by
  refine mG_of cX2_takeSemicolon 1 (by decide) rfl (Nat.le_of_ble_eq_true rfl) ?_
  intro p e s m below meth c A ls Q S C hG hl hr hlk hin hQ
  have S : CallFix p m c cX2_takeSemicolon 1 s ([.ref qa] : List Value).toArray wsX2_takeSemicolon RX2 := S
  have iX20 : ∀ w ∈ wsX20, w ∈ wsX2_takeSemicolon := fun _ h => List.mem_cons_of_mem _ (List.mem_append_left _ (List.mem_append_right _ (h)))
  have iX00 : ∀ w ∈ wsX00, w ∈ wsX2_takeSemicolon := fun _ h => List.mem_cons_of_mem _ (List.mem_append_right _ (h))
  have hl : lv_has ls 1 [(0, .ref qa)] := hl
  have hG : gW K A s.heap [gPrsC K qa tx sc qp qs qk qn qo qb 0 (-1), gBuf K tx bb n F] s.heap [] := hG
  obtain ⟨x1, x2, x3, x4⟩ := id htk
  have xb := htk.bd h1.1 h1.2
  have xc : tkC F n tp = bget F n qs := by rw [x2] <;> rfl
  have bb9 := bget_bd F n qs
  refine lv_aload_n S.1 S.2.1 dX2_takeSemicolon_0 rfl (lv_at hl 0 rfl) ?_
  refine g_get S C hG iX20 0 rfl rfl 4 (by decide) (List.mem_of_getElem? (i := 1) rfl) rfl dX2_takeSemicolon_1 ?_
  refine g_iconst S dX2_takeSemicolon_4 ?_
  refine g_icmp_ne (tgt := 24) S dX2_takeSemicolon_5 (by decide) (by omega) (by omega) (fun q5 => ?_) (fun q5 => ?_)
  · skip
    refine lv_aload_n S.1 S.2.1 dX2_takeSemicolon_24 rfl (lv_at hl 0 rfl) ?_
    refine g_iconst S dX2_takeSemicolon_25 ?_
    refine g_invV (As := [.int (iI 1)]) (rest := []) (gs' := (fun u : Unit => [gPrsC K qa tx sc qp qs qk qn qo qb 1 qs, gBuf K tx bb n F])) S C hG [0] (c_X2_fail l K qa tx sc qp qs qk qn qo qb 0 (-1) 1) rfl rfl 0 rfl rfl (cwV 1 S.2.2.2.2 gX2_takeSemicolon_X2_fail rfl rfl rfl (by decide +kernel) ⟨Nat.le_of_ble_eq_true rfl, Nat.le_of_ble_eq_true rfl⟩) rfl hl.1 rfl (Nat.le_of_ble_eq_true rfl) dX2_takeSemicolon_26 ⟨Nat.le_of_ble_eq_true rfl, Nat.le_of_ble_eq_true rfl⟩ (fun _ => Nat.le_of_ble_eq_true rfl) (fun _ => rfl) (fun v u H locs hp hG => ?_)
    subst hp
    have hG : gW K A s.heap [gPrsC K qa tx sc qp qs qk qn qo qb 1 qs, gBuf K tx bb n F] _ _ := hG
    exact g_zret S hr hlk hQ (Or.inl rfl) dX2_takeSemicolon_29 (Nat.le_of_ble_eq_true rfl) (Nat.le_of_ble_eq_true rfl) ((qp, qs, qk, qn, 1, qs) : Int × Int × Int × Int × Int × Int) ⟨(congrArg (fun z : Int => Value.int (iI z)) (bI_f (by rw [smE_f (by omega)] <;> exact (fl_er F n tp 1).1)).symm), (by rw [smE_f (by omega)] <;> exact ⟨rfl, x2⟩), (fun q => absurd q (by rw [smE_f (by omega)] <;> exact (fl_er F n tp 1).1))⟩ hG
  · skip
    refine lv_aload_n S.1 S.2.1 dX2_takeSemicolon_8 rfl (lv_at hl 0 rfl) ?_
    refine g_get S C hG iX20 0 rfl rfl 0 (by decide) (List.mem_of_getElem? (i := 2) rfl) rfl dX2_takeSemicolon_9 ?_
    refine lv_aload_n S.1 S.2.1 dX2_takeSemicolon_12 rfl (lv_at hl 0 rfl) ?_
    refine g_get S C hG iX20 0 rfl rfl 3 (by decide) (List.mem_of_getElem? (i := 3) rfl) rfl dX2_takeSemicolon_13 ?_
    refine g_invV (As := [.int (iI qs)]) (rest := []) (gs' := (fun u : Unit => [gPrsC K qa tx sc qp qs qk qn qo qb 0 (-1), gBuf K tx bb n F])) S C hG [1] (c_X0_get l K tx bb n F qs h0 (by omega)) rfl rfl 0 rfl rfl (cwV 1 S.2.2.2.2 gX2_takeSemicolon_X0_get rfl rfl rfl (by decide +kernel) ⟨Nat.le_of_ble_eq_true rfl, Nat.le_of_ble_eq_true rfl⟩) rfl hl.1 rfl (Nat.le_of_ble_eq_true rfl) dX2_takeSemicolon_16 ⟨Nat.le_of_ble_eq_true rfl, Nat.le_of_ble_eq_true rfl⟩ (fun _ => Nat.le_of_ble_eq_true rfl) (fun _ => rfl) (fun v u H locs hp hG => ?_)
    subst hp
    refine g_bipush S dX2_takeSemicolon_19 (by decide) ?_
    refine g_icmp_eq (tgt := 30) S dX2_takeSemicolon_21 (by decide) (by omega) (by omega) (fun q21 => ?_) (fun q21 => ?_)
    · skip
      refine lv_aload_n S.1 S.2.1 dX2_takeSemicolon_30 rfl (lv_at hl 0 rfl) ?_
      refine g_invVv (As := []) (rest := []) (gs' := (fun u : Int × Int × Int × Int => [gPrsC K qa tx sc u.1 u.2.1 u.2.2.1 u.2.2.2 qo qb 0 (-1), gBuf K tx bb n F])) S C hG [0, 1] (c_X2_readToken l K qa tx sc qp qs qk qn qo qb 0 (-1) bb n F h0 (by omega)) rfl rfl 0 rfl rfl (cwV 0 S.2.2.2.2 gX2_takeSemicolon_X2_readToken rfl rfl rfl (by decide +kernel) ⟨Nat.le_of_ble_eq_true rfl, Nat.le_of_ble_eq_true rfl⟩) rfl hl.1 rfl (Nat.le_of_ble_eq_true rfl) dX2_takeSemicolon_31 ⟨Nat.le_of_ble_eq_true rfl, Nat.le_of_ble_eq_true rfl⟩ (fun _ => Nat.le_of_ble_eq_true rfl) (fun _ => rfl) (fun u H locs hp hG => ?_)
      obtain ⟨qp2_31, qs2_31, qk2_31, qn2_31⟩ := u
      have ht_31 := hp
      have ht_31 : TokI F n qp qp2_31 qs2_31 qk2_31 qn2_31 := ht_31
      have hG : gW K A s.heap [gPrsC K qa tx sc qp2_31 qs2_31 qk2_31 qn2_31 qo qb 0 (-1), gBuf K tx bb n F] _ _ := hG
      refine g_iconst S dX2_takeSemicolon_34 ?_
      have hG : gW K A s.heap [gPrsC K qa tx sc qp2_31 qs2_31 qk2_31 qn2_31 qo qb 0 (-1), gBuf K tx bb n F] _ _ := hG
      exact g_zret S hr hlk hQ (Or.inr rfl) dX2_takeSemicolon_35 (Nat.le_of_ble_eq_true rfl) (Nat.le_of_ble_eq_true rfl) ((qp2_31, qs2_31, qk2_31, qn2_31, 0, (-1)) : Int × Int × Int × Int × Int × Int) ⟨(congrArg (fun z : Int => Value.int (iI z)) (bI_t (by rw [smE_t (by omega)] <;> rfl)).symm), (by rw [smE_t (by omega)] <;> exact ⟨rfl, rfl⟩), (fun _ => by rw [← x1] <;> exact ht_31)⟩ hG
    · skip
      refine lv_aload_n S.1 S.2.1 dX2_takeSemicolon_24 rfl (lv_at hl 0 rfl) ?_
      refine g_iconst S dX2_takeSemicolon_25 ?_
      refine g_invV (As := [.int (iI 1)]) (rest := []) (gs' := (fun u : Unit => [gPrsC K qa tx sc qp qs qk qn qo qb 1 qs, gBuf K tx bb n F])) S C hG [0] (c_X2_fail l K qa tx sc qp qs qk qn qo qb 0 (-1) 1) rfl rfl 0 rfl rfl (cwV 1 S.2.2.2.2 gX2_takeSemicolon_X2_fail rfl rfl rfl (by decide +kernel) ⟨Nat.le_of_ble_eq_true rfl, Nat.le_of_ble_eq_true rfl⟩) rfl hl.1 rfl (Nat.le_of_ble_eq_true rfl) dX2_takeSemicolon_26 ⟨Nat.le_of_ble_eq_true rfl, Nat.le_of_ble_eq_true rfl⟩ (fun _ => Nat.le_of_ble_eq_true rfl) (fun _ => rfl) (fun v u H locs hp hG => ?_)
      subst hp
      have hG : gW K A s.heap [gPrsC K qa tx sc qp qs qk qn qo qb 1 qs, gBuf K tx bb n F] _ _ := hG
      exact g_zret S hr hlk hQ (Or.inl rfl) dX2_takeSemicolon_29 (Nat.le_of_ble_eq_true rfl) (Nat.le_of_ble_eq_true rfl) ((qp, qs, qk, qn, 1, qs) : Int × Int × Int × Int × Int × Int) ⟨(congrArg (fun z : Int => Value.int (iI z)) (bI_f (by rw [smE_f (by omega)] <;> exact (fl_er F n tp 1).1)).symm), (by rw [smE_f (by omega)] <;> exact ⟨rfl, x2⟩), (fun q => absurd q (by rw [smE_f (by omega)] <;> exact (fl_er F n tp 1).1))⟩ hG
