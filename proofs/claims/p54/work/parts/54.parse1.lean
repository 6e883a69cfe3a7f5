set_option maxHeartbeats 1000000 in
set_option maxRecDepth 100000 in
theorem c_X2_isBlank (l : Launch) (K : KC) (c0 : Int) (h0 : -1 ≤ c0 ∧ c0 ≤ 255) : mG l yX2_isBlank wsX2_isBlank 0 0 K [.int (iI c0)] [] (fun (v : Value) (u : Unit) => (v = .int (iI (bI (c0 = 32 ∨ c0 = 10))))) (fun (u : Unit) => []) 0 0 := by
  refine mG_of cX2_isBlank 1 (by decide) rfl (Nat.le_of_ble_eq_true rfl) ?_
  intro p e s m below meth c A ls Q S C hG hl hr hlk hin hQ
  have S : CallFix p m c cX2_isBlank 1 s ([.int (iI c0)] : List Value).toArray wsX2_isBlank RX2 := S
  have hl : lv_has ls 1 [(0, .int (iI c0))] := hl
  have hG : gW K A s.heap [] s.heap [] := hG
  refine lv_iload_n S.1 S.2.1 dX2_isBlank_0 rfl (lv_at hl 0 rfl) ?_
  refine g_bipush S dX2_isBlank_1 (by decide) ?_
  refine g_icmp_eq (tgt := 12) S dX2_isBlank_3 (by decide) (by omega) (by omega) (fun q3 => ?_) (fun q3 => ?_)
  · skip
    refine g_iconst S dX2_isBlank_12 ?_
    refine lv_goto (tgt := 17) S.1 S.2.1 dX2_isBlank_13 (by decide) ?_
    have hG : gW K A s.heap [] _ _ := hG
    exact g_zret S hr hlk hQ (Or.inr rfl) dX2_isBlank_17 (Nat.le_of_ble_eq_true rfl) (Nat.le_of_ble_eq_true rfl) (() : Unit) (congrArg (fun z : Int => Value.int (iI z)) (bI_t (by omega)).symm) hG
  · skip
    refine lv_iload_n S.1 S.2.1 dX2_isBlank_6 rfl (lv_at hl 0 rfl) ?_
    refine g_bipush S dX2_isBlank_7 (by decide) ?_
    refine g_icmp_ne (tgt := 16) S dX2_isBlank_9 (by decide) (by omega) (by omega) (fun q9 => ?_) (fun q9 => ?_)
    · skip
      refine g_iconst S dX2_isBlank_16 ?_
      have hG : gW K A s.heap [] _ _ := hG
      exact g_zret S hr hlk hQ (Or.inl rfl) dX2_isBlank_17 (Nat.le_of_ble_eq_true rfl) (Nat.le_of_ble_eq_true rfl) (() : Unit) (congrArg (fun z : Int => Value.int (iI z)) (bI_f (by omega)).symm) hG
    · skip
      refine g_iconst S dX2_isBlank_12 ?_
      refine lv_goto (tgt := 17) S.1 S.2.1 dX2_isBlank_13 (by decide) ?_
      have hG : gW K A s.heap [] _ _ := hG
      exact g_zret S hr hlk hQ (Or.inr rfl) dX2_isBlank_17 (Nat.le_of_ble_eq_true rfl) (Nat.le_of_ble_eq_true rfl) (() : Unit) (congrArg (fun z : Int => Value.int (iI z)) (bI_t (by omega)).symm) hG
set_option maxHeartbeats 1000000 in
set_option maxRecDepth 100000 in
theorem c_X2_isLetter (l : Launch) (K : KC) (c0 : Int) (h0 : -1 ≤ c0 ∧ c0 ≤ 255) : mG l yX2_isLetter wsX2_isLetter 0 0 K [.int (iI c0)] [] (fun (v : Value) (u : Unit) => (v = .int (iI (bI (97 ≤ c0 ∧ c0 ≤ 122))))) (fun (u : Unit) => []) 0 0 := by
  refine mG_of cX2_isLetter 1 (by decide) rfl (Nat.le_of_ble_eq_true rfl) ?_
  intro p e s m below meth c A ls Q S C hG hl hr hlk hin hQ
  have S : CallFix p m c cX2_isLetter 1 s ([.int (iI c0)] : List Value).toArray wsX2_isLetter RX2 := S
  have hl : lv_has ls 1 [(0, .int (iI c0))] := hl
  have hG : gW K A s.heap [] s.heap [] := hG
  refine lv_iload_n S.1 S.2.1 dX2_isLetter_0 rfl (lv_at hl 0 rfl) ?_
  refine g_bipush S dX2_isLetter_1 (by decide) ?_
  refine g_icmp_lt (tgt := 16) S dX2_isLetter_3 (by decide) (by omega) (by omega) (fun q3 => ?_) (fun q3 => ?_)
  · skip
    refine g_iconst S dX2_isLetter_16 ?_
    have hG : gW K A s.heap [] _ _ := hG
    exact g_zret S hr hlk hQ (Or.inl rfl) dX2_isLetter_17 (Nat.le_of_ble_eq_true rfl) (Nat.le_of_ble_eq_true rfl) (() : Unit) (congrArg (fun z : Int => Value.int (iI z)) (bI_f (by omega)).symm) hG
  · skip
    refine lv_iload_n S.1 S.2.1 dX2_isLetter_6 rfl (lv_at hl 0 rfl) ?_
    refine g_bipush S dX2_isLetter_7 (by decide) ?_
    refine g_icmp_gt (tgt := 16) S dX2_isLetter_9 (by decide) (by omega) (by omega) (fun q9 => ?_) (fun q9 => ?_)
    · skip
      refine g_iconst S dX2_isLetter_16 ?_
      have hG : gW K A s.heap [] _ _ := hG
      exact g_zret S hr hlk hQ (Or.inl rfl) dX2_isLetter_17 (Nat.le_of_ble_eq_true rfl) (Nat.le_of_ble_eq_true rfl) (() : Unit) (congrArg (fun z : Int => Value.int (iI z)) (bI_f (by omega)).symm) hG
    · skip
      refine g_iconst S dX2_isLetter_12 ?_
      refine lv_goto (tgt := 17) S.1 S.2.1 dX2_isLetter_13 (by decide) ?_
      have hG : gW K A s.heap [] _ _ := hG
      exact g_zret S hr hlk hQ (Or.inr rfl) dX2_isLetter_17 (Nat.le_of_ble_eq_true rfl) (Nat.le_of_ble_eq_true rfl) (() : Unit) (congrArg (fun z : Int => Value.int (iI z)) (bI_t (by omega)).symm) hG
set_option maxHeartbeats 1000000 in
set_option maxRecDepth 100000 in
theorem c_X2_isDigit (l : Launch) (K : KC) (c0 : Int) (h0 : -1 ≤ c0 ∧ c0 ≤ 255) : mG l yX2_isDigit wsX2_isDigit 0 0 K [.int (iI c0)] [] (fun (v : Value) (u : Unit) => (v = .int (iI (bI (48 ≤ c0 ∧ c0 ≤ 57))))) (fun (u : Unit) => []) 0 0 := by
  refine mG_of cX2_isDigit 1 (by decide) rfl (Nat.le_of_ble_eq_true rfl) ?_
  intro p e s m below meth c A ls Q S C hG hl hr hlk hin hQ
  have S : CallFix p m c cX2_isDigit 1 s ([.int (iI c0)] : List Value).toArray wsX2_isDigit RX2 := S
  have hl : lv_has ls 1 [(0, .int (iI c0))] := hl
  have hG : gW K A s.heap [] s.heap [] := hG
  refine lv_iload_n S.1 S.2.1 dX2_isDigit_0 rfl (lv_at hl 0 rfl) ?_
  refine g_bipush S dX2_isDigit_1 (by decide) ?_
  refine g_icmp_lt (tgt := 16) S dX2_isDigit_3 (by decide) (by omega) (by omega) (fun q3 => ?_) (fun q3 => ?_)
  · skip
    refine g_iconst S dX2_isDigit_16 ?_
    have hG : gW K A s.heap [] _ _ := hG
    exact g_zret S hr hlk hQ (Or.inl rfl) dX2_isDigit_17 (Nat.le_of_ble_eq_true rfl) (Nat.le_of_ble_eq_true rfl) (() : Unit) (congrArg (fun z : Int => Value.int (iI z)) (bI_f (by omega)).symm) hG
  · skip
    refine lv_iload_n S.1 S.2.1 dX2_isDigit_6 rfl (lv_at hl 0 rfl) ?_
    refine g_bipush S dX2_isDigit_7 (by decide) ?_
    refine g_icmp_gt (tgt := 16) S dX2_isDigit_9 (by decide) (by omega) (by omega) (fun q9 => ?_) (fun q9 => ?_)
    · skip
      refine g_iconst S dX2_isDigit_16 ?_
      have hG : gW K A s.heap [] _ _ := hG
      exact g_zret S hr hlk hQ (Or.inl rfl) dX2_isDigit_17 (Nat.le_of_ble_eq_true rfl) (Nat.le_of_ble_eq_true rfl) (() : Unit) (congrArg (fun z : Int => Value.int (iI z)) (bI_f (by omega)).symm) hG
    · skip
      refine g_iconst S dX2_isDigit_12 ?_
      refine lv_goto (tgt := 17) S.1 S.2.1 dX2_isDigit_13 (by decide) ?_
      have hG : gW K A s.heap [] _ _ := hG
      exact g_zret S hr hlk hQ (Or.inr rfl) dX2_isDigit_17 (Nat.le_of_ble_eq_true rfl) (Nat.le_of_ble_eq_true rfl) (() : Unit) (congrArg (fun z : Int => Value.int (iI z)) (bI_t (by omega)).symm) hG
set_option maxHeartbeats 1000000 in
set_option maxRecDepth 100000 in
theorem c_X2_fail (l : Launch) (K : KC) (qa : Nat) (tx : Nat) (sc : Nat) (qp : Int) (qs : Int) (qk : Int) (qn : Int) (qo : Int) (qb : Int) (qe : Int) (qf : Int) (c0 : Int) : mG l yX2_fail wsX2_fail 0 0 K [.ref qa, .int (iI c0)] [gPrsC K qa tx sc qp qs qk qn qo qb qe qf] (fun (v : Value) (u : Unit) => (v = .int (iI 0))) (fun (u : Unit) => [gPrsC K qa tx sc qp qs qk qn qo qb c0 qs]) 0 0 := by
  refine mG_of cX2_fail 2 (by decide) rfl (Nat.le_of_ble_eq_true rfl) ?_
  intro p e s m below meth c A ls Q S C hG hl hr hlk hin hQ
  have S : CallFix p m c cX2_fail 2 s ([.ref qa, .int (iI c0)] : List Value).toArray wsX2_fail RX2 := S
  have iX20 : ∀ w ∈ wsX20, w ∈ wsX2_fail := fun _ h => List.mem_cons_of_mem _ (List.mem_append_right _ (h))
  have hl : lv_has ls 2 [(0, .ref qa), (1, .int (iI c0))] := hl
  have hG : gW K A s.heap [gPrsC K qa tx sc qp qs qk qn qo qb qe qf] s.heap [] := hG
  refine lv_aload_n S.1 S.2.1 dX2_fail_0 rfl (lv_at hl 0 rfl) ?_
  refine lv_iload_n S.1 S.2.1 dX2_fail_1 rfl (lv_at hl 1 rfl) ?_
  refine g_put (gs' := [gPrsC K qa tx sc qp qs qk qn qo qb c0 qf]) S C hG iX20 tyX2 tyX2_ok nmX2 0 rfl rfl 8 (by decide) (List.mem_of_getElem? (i := 1) rfl) rfl rfl rfl (Nat.le_of_ble_eq_true rfl) rfl dX2_fail_2 (fun H locs hG => ?_)
  refine lv_aload_n S.1 S.2.1 dX2_fail_5 rfl (lv_at hl 0 rfl) ?_
  refine lv_aload_n S.1 S.2.1 dX2_fail_6 rfl (lv_at hl 0 rfl) ?_
  refine g_get S C hG iX20 0 rfl rfl 3 (by decide) (List.mem_of_getElem? (i := 2) rfl) rfl dX2_fail_7 ?_
  refine g_put (gs' := [gPrsC K qa tx sc qp qs qk qn qo qb c0 qs]) S C hG iX20 tyX2 tyX2_ok nmX2 0 rfl rfl 9 (by decide) (List.mem_of_getElem? (i := 3) rfl) rfl rfl rfl (Nat.le_of_ble_eq_true rfl) rfl dX2_fail_10 (fun H locs hG => ?_)
  refine g_iconst S dX2_fail_13 ?_
  have hG : gW K A s.heap [gPrsC K qa tx sc qp qs qk qn qo qb c0 qs] _ _ := hG
  exact g_zret S hr hlk hQ (Or.inl rfl) dX2_fail_14 (Nat.le_of_ble_eq_true rfl) (Nat.le_of_ble_eq_true rfl) (() : Unit) rfl hG
set_option maxHeartbeats 1000000 in
set_option maxRecDepth 100000 in
theorem c_X2_readToken (l : Launch) (K : KC) (qa : Nat) (tx : Nat) (sc : Nat) (qp : Int) (qs : Int) (qk : Int) (qn : Int) (qo : Int) (qb : Int) (qe : Int) (qf : Int) (bb : Nat) (n : Int) (F : Int → Int) (h0 : 0 ≤ n ∧ n ≤ 400) (h1 : 0 ≤ qp ∧ qp ≤ n) : mV l yX2_readToken wsX2_readToken 1 24 K [.ref qa] [gPrsC K qa tx sc qp qs qk qn qo qb qe qf, gBuf K tx bb n F] (fun (u : Int × Int × Int × Int) => (TokI F n qp u.1 u.2.1 u.2.2.1 u.2.2.2)) (fun (u : Int × Int × Int × Int) => [gPrsC K qa tx sc u.1 u.2.1 u.2.2.1 u.2.2.2 qo qb qe qf, gBuf K tx bb n F]) 0 0 := by
  refine mV_of cX2_readToken 2 (by decide) rfl (Nat.le_of_ble_eq_true rfl) ?_
  intro p e s m below meth c A ls Q S C hG hl hr hlk hin hQ
  have S : CallFix p m c cX2_readToken 2 s ([.ref qa] : List Value).toArray wsX2_readToken RX2 := S
  have iX20 : ∀ w ∈ wsX20, w ∈ wsX2_readToken := fun _ h => List.mem_cons_of_mem _ (List.mem_append_left _ (List.mem_append_right _ (h)))
  have iX00 : ∀ w ∈ wsX00, w ∈ wsX2_readToken := fun _ h => List.mem_cons_of_mem _ (List.mem_append_right _ (h))
  have hl : lv_has ls 2 [(0, .ref qa)] := hl
  have hG : gW K A s.heap [gPrsC K qa tx sc qp qs qk qn qo qb qe qf, gBuf K tx bb n F] s.heap [] := hG
  have J44 : ∀ (zs : Int) (H : Heap) (locs : List Loc) (ls : Array Slot), (zs = tkS F n qp) → (0 ≤ zs ∧ zs ≤ n) → lv_has ls 2 [(0, .ref qa)] → gW K A s.heap [gPrsC K qa tx sc zs qs qk qn qo qb qe qf, gBuf K tx bb n F] H locs → W p l e { frames := 1, cells := 0, slots := 0, locals := 24 } s m ([.ref qa] : List Value).toArray below meth c H locs 0 0 Q (F0 m 44 ls []) := by
    intro zs H locs ls hzs hzr hl hG
    have bb9 := bget_bd F n zs
    refine lv_aload_n S.1 S.2.1 dX2_readToken_44 rfl (lv_at hl 0 rfl) ?_
    refine lv_aload_n S.1 S.2.1 dX2_readToken_45 rfl (lv_at hl 0 rfl) ?_
    refine g_get S C hG iX20 0 rfl rfl 2 (by decide) (List.mem_of_getElem? (i := 1) rfl) rfl dX2_readToken_46 ?_
    refine g_put (gs' := [gPrsC K qa tx sc zs zs qk qn qo qb qe qf, gBuf K tx bb n F]) S C hG iX20 tyX2 tyX2_ok nmX2 0 rfl rfl 3 (by decide) (List.mem_of_getElem? (i := 4) rfl) rfl rfl rfl (Nat.le_of_ble_eq_true rfl) rfl dX2_readToken_49 (fun H locs hG => ?_)
    refine lv_aload_n S.1 S.2.1 dX2_readToken_52 rfl (lv_at hl 0 rfl) ?_
    refine g_get S C hG iX20 0 rfl rfl 0 (by decide) (List.mem_of_getElem? (i := 2) rfl) rfl dX2_readToken_53 ?_
    refine lv_aload_n S.1 S.2.1 dX2_readToken_56 rfl (lv_at hl 0 rfl) ?_
    refine g_get S C hG iX20 0 rfl rfl 2 (by decide) (List.mem_of_getElem? (i := 1) rfl) rfl dX2_readToken_57 ?_
    refine g_invV (As := [.int (iI zs)]) (rest := []) (gs' := (fun u : Unit => [gPrsC K qa tx sc zs zs qk qn qo qb qe qf, gBuf K tx bb n F])) S C hG [1] (c_X0_get l K tx bb n F zs h0 (by omega)) rfl rfl 0 rfl rfl (cwV 1 S.2.2.2.2 gX2_readToken_X0_get rfl rfl rfl (by decide +kernel) ⟨Nat.le_of_ble_eq_true rfl, Nat.le_of_ble_eq_true rfl⟩) rfl hl.1 rfl (Nat.le_of_ble_eq_true rfl) dX2_readToken_60 ⟨Nat.le_of_ble_eq_true rfl, Nat.le_of_ble_eq_true rfl⟩ (fun _ => Nat.le_of_ble_eq_true rfl) (fun _ => rfl) (fun v u H locs hp hG => ?_)
    subst hp
    refine g_top (w := .int (iI (tkC F n qp))) (congrArg (fun z : Int => Value.int (iI z)) ((by rw [hzs] <;> rfl))) ?_
    refine lv_istore_n (lv' := [(1, .int (iI (tkC F n qp))), (0, .ref qa)]) S.1 S.2.1 dX2_readToken_63 rfl hl (by decide) rfl (fun ls hl => ?_)
    refine lv_iload_n S.1 S.2.1 dX2_readToken_64 rfl (lv_at hl 0 rfl) ?_
    refine g_iconst S dX2_readToken_65 ?_
    have bc9 : -1 ≤ tkC F n qp ∧ tkC F n qp ≤ 255 := bget_bd F n _
    refine g_icmp_ne (tgt := 77) S dX2_readToken_66 (by decide) (by omega) (by omega) (fun q66 => ?_) (fun q66 => ?_)
    · skip
      refine lv_iload_n S.1 S.2.1 dX2_readToken_77 rfl (lv_at hl 0 rfl) ?_
      refine g_invS (As := [.int (iI (tkC F n qp))]) (rest := []) (gs' := (fun u : Unit => [gPrsC K qa tx sc zs zs qk qn qo qb qe qf, gBuf K tx bb n F])) S C hG [] (c_X2_isLetter l K (tkC F n qp) (by omega)) rfl rfl (va_cwS 1 S.2.2.2.2 gX2_readToken_X2_isLetter rfl rfl rfl (by decide +kernel) ⟨Nat.le_of_ble_eq_true rfl, Nat.le_of_ble_eq_true rfl⟩) rfl hl.1 rfl (Nat.le_of_ble_eq_true rfl) dX2_readToken_78 ⟨Nat.le_of_ble_eq_true rfl, Nat.le_of_ble_eq_true rfl⟩ (fun _ => Nat.le_of_ble_eq_true rfl) (fun _ => rfl) (fun v u H locs hp hG => ?_)
      subst hp
      refine g_ifeq_b (B := (97 ≤ (tkC F n qp) ∧ (tkC F n qp) ≤ 122)) (tgt := 133) S dX2_readToken_81 (by decide) (fun q81 => ?_) (fun q81 => ?_)
      · skip
        refine lv_iload_n S.1 S.2.1 dX2_readToken_133 rfl (lv_at hl 0 rfl) ?_
        refine g_invS (As := [.int (iI (tkC F n qp))]) (rest := []) (gs' := (fun u : Unit => [gPrsC K qa tx sc zs zs qk qn qo qb qe qf, gBuf K tx bb n F])) S C hG [] (c_X2_isDigit l K (tkC F n qp) (by omega)) rfl rfl (va_cwS 1 S.2.2.2.2 gX2_readToken_X2_isDigit rfl rfl rfl (by decide +kernel) ⟨Nat.le_of_ble_eq_true rfl, Nat.le_of_ble_eq_true rfl⟩) rfl hl.1 rfl (Nat.le_of_ble_eq_true rfl) dX2_readToken_134 ⟨Nat.le_of_ble_eq_true rfl, Nat.le_of_ble_eq_true rfl⟩ (fun _ => Nat.le_of_ble_eq_true rfl) (fun _ => rfl) (fun v u H locs hp hG => ?_)
        subst hp
        refine g_ifeq_b (B := (48 ≤ (tkC F n qp) ∧ (tkC F n qp) ≤ 57)) (tgt := 225) S dX2_readToken_137 (by decide) (fun q137 => ?_) (fun q137 => ?_)
        · skip
          refine lv_aload_n S.1 S.2.1 dX2_readToken_225 rfl (lv_at hl 1 rfl) ?_
          refine g_iconst S dX2_readToken_226 ?_
          refine g_put (gs' := [gPrsC K qa tx sc zs zs 3 qn qo qb qe qf, gBuf K tx bb n F]) S C hG iX20 tyX2 tyX2_ok nmX2 0 rfl rfl 4 (by decide) (List.mem_of_getElem? (i := 5) rfl) rfl rfl rfl (Nat.le_of_ble_eq_true rfl) rfl dX2_readToken_227 (fun H locs hG => ?_)
          refine lv_aload_n S.1 S.2.1 dX2_readToken_230 rfl (lv_at hl 1 rfl) ?_
          refine lv_dup S.1 S.2.1 dX2_readToken_231 rfl ?_
          refine g_get S C hG iX20 0 rfl rfl 2 (by decide) (List.mem_of_getElem? (i := 1) rfl) rfl dX2_readToken_232 ?_
          refine g_iconst S dX2_readToken_235 ?_
          refine g_iadd S dX2_readToken_236 rfl ?_
          refine g_put (gs' := [gPrsC K qa tx sc (zs + 1) zs 3 qn qo qb qe qf, gBuf K tx bb n F]) S C hG iX20 tyX2 tyX2_ok nmX2 0 rfl rfl 2 (by decide) (List.mem_of_getElem? (i := 1) rfl) rfl rfl rfl (Nat.le_of_ble_eq_true rfl) rfl dX2_readToken_237 (fun H locs hG => ?_)
          have hG : gW K A s.heap [gPrsC K qa tx sc (zs + 1) zs 3 qn qo qb qe qf, gBuf K tx bb n F] _ _ := hG
          exact g_vret S hr hlk hQ dX2_readToken_240 (Nat.le_of_ble_eq_true rfl) (Nat.le_of_ble_eq_true rfl) ((zs + 1, zs, 3, qn) : Int × Int × Int × Int) (TokI.c3 hzs q66 q81 q137) hG
        · skip
          refine lv_aload_n S.1 S.2.1 dX2_readToken_140 rfl (lv_at hl 1 rfl) ?_
          refine g_iconst S dX2_readToken_141 ?_
          refine g_put (gs' := [gPrsC K qa tx sc zs zs 2 qn qo qb qe qf, gBuf K tx bb n F]) S C hG iX20 tyX2 tyX2_ok nmX2 0 rfl rfl 4 (by decide) (List.mem_of_getElem? (i := 5) rfl) rfl rfl rfl (Nat.le_of_ble_eq_true rfl) rfl dX2_readToken_142 (fun H locs hG => ?_)
          refine lv_aload_n S.1 S.2.1 dX2_readToken_145 rfl (lv_at hl 1 rfl) ?_
          refine g_iconst S dX2_readToken_146 ?_
          refine g_put (gs' := [gPrsC K qa tx sc zs zs 2 0 qo qb qe qf, gBuf K tx bb n F]) S C hG iX20 tyX2 tyX2_ok nmX2 0 rfl rfl 5 (by decide) (List.mem_of_getElem? (i := 6) rfl) rfl rfl rfl (Nat.le_of_ble_eq_true rfl) rfl dX2_readToken_147 (fun H locs hG => ?_)
          have L150 : ∀ (fu : Nat) (zp : Int) (zv : Int) (H : Heap) (locs : List Loc) (ls : Array Slot), ((n - zp).toNat) < fu → (0 ≤ zp ∧ zp ≤ n) → (skp F n 2 zp = skp F n 2 zs) → (nmb F n 1000000 zp zv = nmb F n 1000000 zs 0) → (0 ≤ zv ∧ zv ≤ 1000000) → lv_has ls 2 [(0, .ref qa), (1, .int (iI (tkC F n qp)))] → gW K A s.heap [gPrsC K qa tx sc zp zs 2 zv qo qb qe qf, gBuf K tx bb n F] H locs → W p l e { frames := 1, cells := 0, slots := 0, locals := 24 } s m ([.ref qa] : List Value).toArray below meth c H locs 0 0 Q (F0 m 150 ls []) := by
            intro fu
            induction fu with
            | zero => intro zp zv H locs ls hfu; exact absurd hfu (Nat.not_lt_zero _)
            | succ fu ih =>
              intro zp zv H locs ls hfu hz hk2 hv2 hzv hl hG
              have bb9 := bget_bd F n zp
              refine lv_aload_n S.1 S.2.1 dX2_readToken_150 rfl (lv_at hl 0 rfl) ?_
              refine g_get S C hG iX20 0 rfl rfl 2 (by decide) (List.mem_of_getElem? (i := 1) rfl) rfl dX2_readToken_151 ?_
              refine lv_aload_n S.1 S.2.1 dX2_readToken_154 rfl (lv_at hl 0 rfl) ?_
              refine g_get S C hG iX20 0 rfl rfl 0 (by decide) (List.mem_of_getElem? (i := 2) rfl) rfl dX2_readToken_155 ?_
              refine g_get S C hG iX00 1 rfl rfl 1 (by decide) (List.mem_of_getElem? (i := 3) rfl) rfl dX2_readToken_158 ?_
              refine g_icmp_ge (tgt := 240) S dX2_readToken_161 (by decide) (by omega) (by omega) (fun q161 => ?_) (fun q161 => ?_)
              · skip
                have hG : gW K A s.heap [gPrsC K qa tx sc zp zs 2 zv qo qb qe qf, gBuf K tx bb n F] _ _ := hG
                exact g_vret S hr hlk hQ dX2_readToken_240 (Nat.le_of_ble_eq_true rfl) (Nat.le_of_ble_eq_true rfl) ((zp, zs, 2, zv) : Int × Int × Int × Int) (TokI.c2 hzs q66 q81 q137 (by rw [← hk2, skp_f (by omega)]) (by rw [← hv2, nmb_f (by omega)])) hG
              · skip
                refine lv_aload_n S.1 S.2.1 dX2_readToken_164 rfl (lv_at hl 0 rfl) ?_
                refine g_get S C hG iX20 0 rfl rfl 0 (by decide) (List.mem_of_getElem? (i := 2) rfl) rfl dX2_readToken_165 ?_
                refine lv_aload_n S.1 S.2.1 dX2_readToken_168 rfl (lv_at hl 0 rfl) ?_
                refine g_get S C hG iX20 0 rfl rfl 2 (by decide) (List.mem_of_getElem? (i := 1) rfl) rfl dX2_readToken_169 ?_
                refine g_invV (As := [.int (iI zp)]) (rest := []) (gs' := (fun u : Unit => [gPrsC K qa tx sc zp zs 2 zv qo qb qe qf, gBuf K tx bb n F])) S C hG [1] (c_X0_get l K tx bb n F zp h0 (by omega)) rfl rfl 0 rfl rfl (cwV 1 S.2.2.2.2 gX2_readToken_X0_get rfl rfl rfl (by decide +kernel) ⟨Nat.le_of_ble_eq_true rfl, Nat.le_of_ble_eq_true rfl⟩) rfl hl.1 rfl (Nat.le_of_ble_eq_true rfl) dX2_readToken_172 ⟨Nat.le_of_ble_eq_true rfl, Nat.le_of_ble_eq_true rfl⟩ (fun _ => Nat.le_of_ble_eq_true rfl) (fun _ => rfl) (fun v u H locs hp hG => ?_)
                subst hp
                refine g_invS (As := [.int (iI (bget F n zp))]) (rest := []) (gs' := (fun u : Unit => [gPrsC K qa tx sc zp zs 2 zv qo qb qe qf, gBuf K tx bb n F])) S C hG [] (c_X2_isDigit l K (bget F n zp) (by omega)) rfl rfl (va_cwS 1 S.2.2.2.2 gX2_readToken_X2_isDigit rfl rfl rfl (by decide +kernel) ⟨Nat.le_of_ble_eq_true rfl, Nat.le_of_ble_eq_true rfl⟩) rfl hl.1 rfl (Nat.le_of_ble_eq_true rfl) dX2_readToken_175 ⟨Nat.le_of_ble_eq_true rfl, Nat.le_of_ble_eq_true rfl⟩ (fun _ => Nat.le_of_ble_eq_true rfl) (fun _ => rfl) (fun v u H locs hp hG => ?_)
                subst hp
                refine g_ifeq_b (B := (48 ≤ (bget F n zp) ∧ (bget F n zp) ≤ 57)) (tgt := 240) S dX2_readToken_178 (by decide) (fun q178 => ?_) (fun q178 => ?_)
                · skip
                  have hG : gW K A s.heap [gPrsC K qa tx sc zp zs 2 zv qo qb qe qf, gBuf K tx bb n F] _ _ := hG
                  exact g_vret S hr hlk hQ dX2_readToken_240 (Nat.le_of_ble_eq_true rfl) (Nat.le_of_ble_eq_true rfl) ((zp, zs, 2, zv) : Int × Int × Int × Int) (TokI.c2 hzs q66 q81 q137 (by rw [← hk2, skp_f (fun q => q178 (isCl2.mp q.2))]) (by rw [← hv2, nmb_f (fun q => q178 q.2)])) hG
                · skip
                  refine lv_aload_n S.1 S.2.1 dX2_readToken_181 rfl (lv_at hl 0 rfl) ?_
                  refine g_ldc (z := 1000000) S dX2_readToken_182 (List.mem_of_getElem? (i := 7) rfl) rfl ?_
                  refine lv_aload_n S.1 S.2.1 dX2_readToken_184 rfl (lv_at hl 0 rfl) ?_
                  refine g_get S C hG iX20 0 rfl rfl 5 (by decide) (List.mem_of_getElem? (i := 6) rfl) rfl dX2_readToken_185 ?_
                  refine g_bipush S dX2_readToken_188 (by decide) ?_
                  refine g_imul S dX2_readToken_190 rfl ?_
                  refine lv_aload_n S.1 S.2.1 dX2_readToken_191 rfl (lv_at hl 0 rfl) ?_
                  refine g_get S C hG iX20 0 rfl rfl 0 (by decide) (List.mem_of_getElem? (i := 2) rfl) rfl dX2_readToken_192 ?_
                  refine lv_aload_n S.1 S.2.1 dX2_readToken_195 rfl (lv_at hl 0 rfl) ?_
                  refine g_get S C hG iX20 0 rfl rfl 2 (by decide) (List.mem_of_getElem? (i := 1) rfl) rfl dX2_readToken_196 ?_
                  refine g_invV (As := [.int (iI zp)]) (rest := [.int (iI (zv * 10)), .int (iI 1000000), .ref qa]) (gs' := (fun u : Unit => [gPrsC K qa tx sc zp zs 2 zv qo qb qe qf, gBuf K tx bb n F])) S C hG [1] (c_X0_get l K tx bb n F zp h0 (by omega)) rfl rfl 0 rfl rfl (cwV 1 S.2.2.2.2 gX2_readToken_X0_get rfl rfl rfl (by decide +kernel) ⟨Nat.le_of_ble_eq_true rfl, Nat.le_of_ble_eq_true rfl⟩) rfl hl.1 rfl (Nat.le_of_ble_eq_true rfl) dX2_readToken_199 ⟨Nat.le_of_ble_eq_true rfl, Nat.le_of_ble_eq_true rfl⟩ (fun _ => Nat.le_of_ble_eq_true rfl) (fun _ => rfl) (fun v u H locs hp hG => ?_)
                  subst hp
                  refine g_iadd S dX2_readToken_202 rfl ?_
                  refine g_bipush S dX2_readToken_203 (by decide) ?_
                  refine g_isub S dX2_readToken_205 rfl ?_
                  refine va_mmin S.1 S.2.1 (by rw [S.2.2.1]; exact hl.1.symm) S.2.2.2.1 (S.2.2.2.2 _ (List.mem_of_getElem? (i := 8) rfl)) (S.2.2.2.2 _ (List.mem_of_getElem? (i := 9) rfl)) (S.2.2.2.2 _ (List.mem_of_getElem? (i := 10) rfl)) (S.2.2.2.2 _ (List.mem_of_getElem? (i := 11) rfl)) (Nat.le_of_ble_eq_true rfl) (Nat.le_of_ble_eq_true rfl) (Nat.le_of_ble_eq_true rfl) (Nat.le_of_ble_eq_true rfl) dX2_readToken_206 ?_
                  refine g_top (w := .int (iI (min 1000000 (((zv * 10) + (bget F n zp)) - 48)))) (imin_eq (by omega) (by omega)) ?_
                  refine g_put (gs' := [gPrsC K qa tx sc zp zs 2 (min 1000000 (((zv * 10) + (bget F n zp)) - 48)) qo qb qe qf, gBuf K tx bb n F]) S C hG iX20 tyX2 tyX2_ok nmX2 0 rfl rfl 5 (by decide) (List.mem_of_getElem? (i := 6) rfl) rfl rfl rfl (Nat.le_of_ble_eq_true rfl) rfl dX2_readToken_209 (fun H locs hG => ?_)
                  refine lv_aload_n S.1 S.2.1 dX2_readToken_212 rfl (lv_at hl 0 rfl) ?_
                  refine lv_dup S.1 S.2.1 dX2_readToken_213 rfl ?_
                  refine g_get S C hG iX20 0 rfl rfl 2 (by decide) (List.mem_of_getElem? (i := 1) rfl) rfl dX2_readToken_214 ?_
                  refine g_iconst S dX2_readToken_217 ?_
                  refine g_iadd S dX2_readToken_218 rfl ?_
                  refine g_put (gs' := [gPrsC K qa tx sc (zp + 1) zs 2 (min 1000000 (((zv * 10) + (bget F n zp)) - 48)) qo qb qe qf, gBuf K tx bb n F]) S C hG iX20 tyX2 tyX2_ok nmX2 0 rfl rfl 2 (by decide) (List.mem_of_getElem? (i := 1) rfl) rfl rfl rfl (Nat.le_of_ble_eq_true rfl) rfl dX2_readToken_219 (fun H locs hG => ?_)
                  refine lv_goto (tgt := 150) S.1 S.2.1 dX2_readToken_222 (by decide) ?_
                  exact ih (zp + 1) (min 1000000 (((zv * 10) + (bget F n zp)) - 48)) _ _ _ (by omega) (by omega) (by rw [← skp_t (by omega) (isCl2.mpr q178)] <;> exact hk2) (by rw [← nmb_t (by omega) q178] <;> exact hv2) (by omega) (lv_sub hl [0, 1] rfl) hG
          exact L150 (Nat.succ ((n - zs).toNat)) zs 0 _ _ _ (Nat.lt_succ_self _) (by omega) rfl rfl (by omega) (lv_sub hl [1, 0] rfl) hG
      · skip
        refine lv_aload_n S.1 S.2.1 dX2_readToken_84 rfl (lv_at hl 1 rfl) ?_
        refine g_iconst S dX2_readToken_85 ?_
        refine g_put (gs' := [gPrsC K qa tx sc zs zs 1 qn qo qb qe qf, gBuf K tx bb n F]) S C hG iX20 tyX2 tyX2_ok nmX2 0 rfl rfl 4 (by decide) (List.mem_of_getElem? (i := 5) rfl) rfl rfl rfl (Nat.le_of_ble_eq_true rfl) rfl dX2_readToken_86 (fun H locs hG => ?_)
        have L89 : ∀ (fu : Nat) (zp : Int) (H : Heap) (locs : List Loc) (ls : Array Slot), ((n - zp).toNat) < fu → (0 ≤ zp ∧ zp ≤ n) → (skp F n 1 zp = skp F n 1 zs) → lv_has ls 2 [(0, .ref qa), (1, .int (iI (tkC F n qp)))] → gW K A s.heap [gPrsC K qa tx sc zp zs 1 qn qo qb qe qf, gBuf K tx bb n F] H locs → W p l e { frames := 1, cells := 0, slots := 0, locals := 24 } s m ([.ref qa] : List Value).toArray below meth c H locs 0 0 Q (F0 m 89 ls []) := by
          intro fu
          induction fu with
          | zero => intro zp H locs ls hfu; exact absurd hfu (Nat.not_lt_zero _)
          | succ fu ih =>
            intro zp H locs ls hfu hz hk1 hl hG
            have bb9 := bget_bd F n zp
            refine lv_aload_n S.1 S.2.1 dX2_readToken_89 rfl (lv_at hl 0 rfl) ?_
            refine g_get S C hG iX20 0 rfl rfl 2 (by decide) (List.mem_of_getElem? (i := 1) rfl) rfl dX2_readToken_90 ?_
            refine lv_aload_n S.1 S.2.1 dX2_readToken_93 rfl (lv_at hl 0 rfl) ?_
            refine g_get S C hG iX20 0 rfl rfl 0 (by decide) (List.mem_of_getElem? (i := 2) rfl) rfl dX2_readToken_94 ?_
            refine g_get S C hG iX00 1 rfl rfl 1 (by decide) (List.mem_of_getElem? (i := 3) rfl) rfl dX2_readToken_97 ?_
            refine g_icmp_ge (tgt := 240) S dX2_readToken_100 (by decide) (by omega) (by omega) (fun q100 => ?_) (fun q100 => ?_)
            · skip
              have hG : gW K A s.heap [gPrsC K qa tx sc zp zs 1 qn qo qb qe qf, gBuf K tx bb n F] _ _ := hG
              exact g_vret S hr hlk hQ dX2_readToken_240 (Nat.le_of_ble_eq_true rfl) (Nat.le_of_ble_eq_true rfl) ((zp, zs, 1, qn) : Int × Int × Int × Int) (TokI.c1 hzs q66 q81 (by rw [← hk1, skp_f (by omega)])) hG
            · skip
              refine lv_aload_n S.1 S.2.1 dX2_readToken_103 rfl (lv_at hl 0 rfl) ?_
              refine g_get S C hG iX20 0 rfl rfl 0 (by decide) (List.mem_of_getElem? (i := 2) rfl) rfl dX2_readToken_104 ?_
              refine lv_aload_n S.1 S.2.1 dX2_readToken_107 rfl (lv_at hl 0 rfl) ?_
              refine g_get S C hG iX20 0 rfl rfl 2 (by decide) (List.mem_of_getElem? (i := 1) rfl) rfl dX2_readToken_108 ?_
              refine g_invV (As := [.int (iI zp)]) (rest := []) (gs' := (fun u : Unit => [gPrsC K qa tx sc zp zs 1 qn qo qb qe qf, gBuf K tx bb n F])) S C hG [1] (c_X0_get l K tx bb n F zp h0 (by omega)) rfl rfl 0 rfl rfl (cwV 1 S.2.2.2.2 gX2_readToken_X0_get rfl rfl rfl (by decide +kernel) ⟨Nat.le_of_ble_eq_true rfl, Nat.le_of_ble_eq_true rfl⟩) rfl hl.1 rfl (Nat.le_of_ble_eq_true rfl) dX2_readToken_111 ⟨Nat.le_of_ble_eq_true rfl, Nat.le_of_ble_eq_true rfl⟩ (fun _ => Nat.le_of_ble_eq_true rfl) (fun _ => rfl) (fun v u H locs hp hG => ?_)
              subst hp
              refine g_invS (As := [.int (iI (bget F n zp))]) (rest := []) (gs' := (fun u : Unit => [gPrsC K qa tx sc zp zs 1 qn qo qb qe qf, gBuf K tx bb n F])) S C hG [] (c_X2_isLetter l K (bget F n zp) (by omega)) rfl rfl (va_cwS 1 S.2.2.2.2 gX2_readToken_X2_isLetter rfl rfl rfl (by decide +kernel) ⟨Nat.le_of_ble_eq_true rfl, Nat.le_of_ble_eq_true rfl⟩) rfl hl.1 rfl (Nat.le_of_ble_eq_true rfl) dX2_readToken_114 ⟨Nat.le_of_ble_eq_true rfl, Nat.le_of_ble_eq_true rfl⟩ (fun _ => Nat.le_of_ble_eq_true rfl) (fun _ => rfl) (fun v u H locs hp hG => ?_)
              subst hp
              refine g_ifeq_b (B := (97 ≤ (bget F n zp) ∧ (bget F n zp) ≤ 122)) (tgt := 240) S dX2_readToken_117 (by decide) (fun q117 => ?_) (fun q117 => ?_)
              · skip
                have hG : gW K A s.heap [gPrsC K qa tx sc zp zs 1 qn qo qb qe qf, gBuf K tx bb n F] _ _ := hG
                exact g_vret S hr hlk hQ dX2_readToken_240 (Nat.le_of_ble_eq_true rfl) (Nat.le_of_ble_eq_true rfl) ((zp, zs, 1, qn) : Int × Int × Int × Int) (TokI.c1 hzs q66 q81 (by rw [← hk1, skp_f (fun q => q117 (isCl1.mp q.2))])) hG
              · skip
                refine lv_aload_n S.1 S.2.1 dX2_readToken_120 rfl (lv_at hl 0 rfl) ?_
                refine lv_dup S.1 S.2.1 dX2_readToken_121 rfl ?_
                refine g_get S C hG iX20 0 rfl rfl 2 (by decide) (List.mem_of_getElem? (i := 1) rfl) rfl dX2_readToken_122 ?_
                refine g_iconst S dX2_readToken_125 ?_
                refine g_iadd S dX2_readToken_126 rfl ?_
                refine g_put (gs' := [gPrsC K qa tx sc (zp + 1) zs 1 qn qo qb qe qf, gBuf K tx bb n F]) S C hG iX20 tyX2 tyX2_ok nmX2 0 rfl rfl 2 (by decide) (List.mem_of_getElem? (i := 1) rfl) rfl rfl rfl (Nat.le_of_ble_eq_true rfl) rfl dX2_readToken_127 (fun H locs hG => ?_)
                refine lv_goto (tgt := 89) S.1 S.2.1 dX2_readToken_130 (by decide) ?_
                exact ih (zp + 1) _ _ _ (by omega) (by omega) (by rw [← skp_t (by omega) (isCl1.mpr q117)] <;> exact hk1) (lv_sub hl [0, 1] rfl) hG
        exact L89 (Nat.succ ((n - zs).toNat)) zs _ _ _ (Nat.lt_succ_self _) (by omega) rfl (lv_sub hl [1, 0] rfl) hG
    · skip
      refine lv_aload_n S.1 S.2.1 dX2_readToken_69 rfl (lv_at hl 1 rfl) ?_
      refine g_iconst S dX2_readToken_70 ?_
      refine g_put (gs' := [gPrsC K qa tx sc zs zs 0 qn qo qb qe qf, gBuf K tx bb n F]) S C hG iX20 tyX2 tyX2_ok nmX2 0 rfl rfl 4 (by decide) (List.mem_of_getElem? (i := 5) rfl) rfl rfl rfl (Nat.le_of_ble_eq_true rfl) rfl dX2_readToken_71 (fun H locs hG => ?_)
      refine lv_goto (tgt := 240) S.1 S.2.1 dX2_readToken_74 (by decide) ?_
      have hG : gW K A s.heap [gPrsC K qa tx sc zs zs 0 qn qo qb qe qf, gBuf K tx bb n F] _ _ := hG
      exact g_vret S hr hlk hQ dX2_readToken_240 (Nat.le_of_ble_eq_true rfl) (Nat.le_of_ble_eq_true rfl) ((zs, zs, 0, qn) : Int × Int × Int × Int) (TokI.c0 hzs q66) hG
  have L0 : ∀ (fu : Nat) (zp : Int) (H : Heap) (locs : List Loc) (ls : Array Slot), ((n - zp).toNat) < fu → (0 ≤ zp ∧ zp ≤ n) → (skp F n 0 zp = skp F n 0 qp) → lv_has ls 2 [(0, .ref qa)] → gW K A s.heap [gPrsC K qa tx sc zp qs qk qn qo qb qe qf, gBuf K tx bb n F] H locs → W p l e { frames := 1, cells := 0, slots := 0, locals := 24 } s m ([.ref qa] : List Value).toArray below meth c H locs 0 0 Q (F0 m 0 ls []) := by
    intro fu
    induction fu with
    | zero => intro zp H locs ls hfu; exact absurd hfu (Nat.not_lt_zero _)
    | succ fu ih =>
      intro zp H locs ls hfu hz hk0 hl hG
      have bb9 := bget_bd F n zp
      refine lv_aload_n S.1 S.2.1 dX2_readToken_0 rfl (lv_at hl 0 rfl) ?_
      refine g_get S C hG iX20 0 rfl rfl 2 (by decide) (List.mem_of_getElem? (i := 1) rfl) rfl dX2_readToken_1 ?_
      refine lv_aload_n S.1 S.2.1 dX2_readToken_4 rfl (lv_at hl 0 rfl) ?_
      refine g_get S C hG iX20 0 rfl rfl 0 (by decide) (List.mem_of_getElem? (i := 2) rfl) rfl dX2_readToken_5 ?_
      refine g_get S C hG iX00 1 rfl rfl 1 (by decide) (List.mem_of_getElem? (i := 3) rfl) rfl dX2_readToken_8 ?_
      refine g_icmp_ge (tgt := 44) S dX2_readToken_11 (by decide) (by omega) (by omega) (fun q11 => ?_) (fun q11 => ?_)
      · skip
        exact J44 zp _ _ _ (by unfold tkS <;> rw [← hk0, skp_f (by omega)]) (by omega) (lv_sub hl [0] rfl) hG
      · skip
        refine lv_aload_n S.1 S.2.1 dX2_readToken_14 rfl (lv_at hl 0 rfl) ?_
        refine g_get S C hG iX20 0 rfl rfl 0 (by decide) (List.mem_of_getElem? (i := 2) rfl) rfl dX2_readToken_15 ?_
        refine lv_aload_n S.1 S.2.1 dX2_readToken_18 rfl (lv_at hl 0 rfl) ?_
        refine g_get S C hG iX20 0 rfl rfl 2 (by decide) (List.mem_of_getElem? (i := 1) rfl) rfl dX2_readToken_19 ?_
        refine g_invV (As := [.int (iI zp)]) (rest := []) (gs' := (fun u : Unit => [gPrsC K qa tx sc zp qs qk qn qo qb qe qf, gBuf K tx bb n F])) S C hG [1] (c_X0_get l K tx bb n F zp h0 (by omega)) rfl rfl 0 rfl rfl (cwV 1 S.2.2.2.2 gX2_readToken_X0_get rfl rfl rfl (by decide +kernel) ⟨Nat.le_of_ble_eq_true rfl, Nat.le_of_ble_eq_true rfl⟩) rfl hl.1 rfl (Nat.le_of_ble_eq_true rfl) dX2_readToken_22 ⟨Nat.le_of_ble_eq_true rfl, Nat.le_of_ble_eq_true rfl⟩ (fun _ => Nat.le_of_ble_eq_true rfl) (fun _ => rfl) (fun v u H locs hp hG => ?_)
        subst hp
        refine g_invS (As := [.int (iI (bget F n zp))]) (rest := []) (gs' := (fun u : Unit => [gPrsC K qa tx sc zp qs qk qn qo qb qe qf, gBuf K tx bb n F])) S C hG [] (c_X2_isBlank l K (bget F n zp) (by omega)) rfl rfl (va_cwS 1 S.2.2.2.2 gX2_readToken_X2_isBlank rfl rfl rfl (by decide +kernel) ⟨Nat.le_of_ble_eq_true rfl, Nat.le_of_ble_eq_true rfl⟩) rfl hl.1 rfl (Nat.le_of_ble_eq_true rfl) dX2_readToken_25 ⟨Nat.le_of_ble_eq_true rfl, Nat.le_of_ble_eq_true rfl⟩ (fun _ => Nat.le_of_ble_eq_true rfl) (fun _ => rfl) (fun v u H locs hp hG => ?_)
        subst hp
        refine g_ifeq_b (B := ((bget F n zp) = 32 ∨ (bget F n zp) = 10)) (tgt := 44) S dX2_readToken_28 (by decide) (fun q28 => ?_) (fun q28 => ?_)
        · skip
          exact J44 zp _ _ _ (by unfold tkS <;> rw [← hk0, skp_f (fun q => q28 (isCl0.mp q.2))]) (by omega) (lv_sub hl [0] rfl) hG
        · skip
          refine lv_aload_n S.1 S.2.1 dX2_readToken_31 rfl (lv_at hl 0 rfl) ?_
          refine lv_dup S.1 S.2.1 dX2_readToken_32 rfl ?_
          refine g_get S C hG iX20 0 rfl rfl 2 (by decide) (List.mem_of_getElem? (i := 1) rfl) rfl dX2_readToken_33 ?_
          refine g_iconst S dX2_readToken_36 ?_
          refine g_iadd S dX2_readToken_37 rfl ?_
          refine g_put (gs' := [gPrsC K qa tx sc (zp + 1) qs qk qn qo qb qe qf, gBuf K tx bb n F]) S C hG iX20 tyX2 tyX2_ok nmX2 0 rfl rfl 2 (by decide) (List.mem_of_getElem? (i := 1) rfl) rfl rfl rfl (Nat.le_of_ble_eq_true rfl) rfl dX2_readToken_38 (fun H locs hG => ?_)
          refine lv_goto (tgt := 0) S.1 S.2.1 dX2_readToken_41 (by decide) ?_
          exact ih (zp + 1) _ _ _ (by omega) (by omega) (by rw [← skp_t (by omega) (isCl0.mpr q28)] <;> exact hk0) (lv_sub hl [0] rfl) hG
  exact L0 (Nat.succ ((n - qp).toNat)) qp _ _ _ (Nat.lt_succ_self _) (by omega) rfl (lv_sub hl [0] rfl) hG
set_option maxHeartbeats 1000000 in
set_option maxRecDepth 100000 in
theorem c_X2_takeNumber (l : Launch) (K : KC) (qa : Nat) (tx : Nat) (sc : Nat) (qp : Int) (qs : Int) (qk : Int) (qn : Int) (qo : Int) (qb : Int) (qe : Int) (qf : Int) (bb : Nat) (n : Int) (F : Int → Int) (h0 : 0 ≤ n ∧ n ≤ 400) (h1 : 0 ≤ qp ∧ qp ≤ n) (hqn : -2147483648 ≤ qn ∧ qn < 2147483648) : mG l yX2_takeNumber wsX2_takeNumber 2 45 K [.ref qa] [gPrsC K qa tx sc qp qs qk qn qo qb qe qf, gBuf K tx bb n F] (fun (v : Value) (u : Int × Int × Int × Int) => (v = .int (iI qn)) ∧ (TokI F n qp u.1 u.2.1 u.2.2.1 u.2.2.2)) (fun (u : Int × Int × Int × Int) => [gPrsC K qa tx sc u.1 u.2.1 u.2.2.1 u.2.2.2 qo qb qe qf, gBuf K tx bb n F]) 0 0 := by
  refine mG_of cX2_takeNumber 2 (by decide) rfl (Nat.le_of_ble_eq_true rfl) ?_
  intro p e s m below meth c A ls Q S C hG hl hr hlk hin hQ
  have S : CallFix p m c cX2_takeNumber 2 s ([.ref qa] : List Value).toArray wsX2_takeNumber RX2 := S
  have iX20 : ∀ w ∈ wsX20, w ∈ wsX2_takeNumber := fun _ h => List.mem_cons_of_mem _ (List.mem_append_left _ (List.mem_append_right _ (h)))
  have iX00 : ∀ w ∈ wsX00, w ∈ wsX2_takeNumber := fun _ h => List.mem_cons_of_mem _ (List.mem_append_right _ (h))
  have hl : lv_has ls 2 [(0, .ref qa)] := hl
  have hG : gW K A s.heap [gPrsC K qa tx sc qp qs qk qn qo qb qe qf, gBuf K tx bb n F] s.heap [] := hG
  refine lv_aload_n S.1 S.2.1 dX2_takeNumber_0 rfl (lv_at hl 0 rfl) ?_
  refine g_get S C hG iX20 0 rfl rfl 5 (by decide) (List.mem_of_getElem? (i := 1) rfl) rfl dX2_takeNumber_1 ?_
  refine lv_istore_n (lv' := [(1, .int (iI qn)), (0, .ref qa)]) S.1 S.2.1 dX2_takeNumber_4 rfl hl (by decide) rfl (fun ls hl => ?_)
  refine lv_aload_n S.1 S.2.1 dX2_takeNumber_5 rfl (lv_at hl 1 rfl) ?_
  refine g_invVv (As := []) (rest := []) (gs' := (fun u : Int × Int × Int × Int => [gPrsC K qa tx sc u.1 u.2.1 u.2.2.1 u.2.2.2 qo qb qe qf, gBuf K tx bb n F])) S C hG [0, 1] (c_X2_readToken l K qa tx sc qp qs qk qn qo qb qe qf bb n F h0 h1) rfl rfl 0 rfl rfl (cwV 0 S.2.2.2.2 gX2_takeNumber_X2_readToken rfl rfl rfl (by decide +kernel) ⟨Nat.le_of_ble_eq_true rfl, Nat.le_of_ble_eq_true rfl⟩) rfl hl.1 rfl (Nat.le_of_ble_eq_true rfl) dX2_takeNumber_6 ⟨Nat.le_of_ble_eq_true rfl, Nat.le_of_ble_eq_true rfl⟩ (fun _ => Nat.le_of_ble_eq_true rfl) (fun _ => rfl) (fun u H locs hp hG => ?_)
  obtain ⟨qp2_6, qs2_6, qk2_6, qn2_6⟩ := u
  have ht_6 := hp
  have ht_6 : TokI F n qp qp2_6 qs2_6 qk2_6 qn2_6 := ht_6
  have hG : gW K A s.heap [gPrsC K qa tx sc qp2_6 qs2_6 qk2_6 qn2_6 qo qb qe qf, gBuf K tx bb n F] _ _ := hG
  refine lv_iload_n S.1 S.2.1 dX2_takeNumber_9 rfl (lv_at hl 0 rfl) ?_
  have hG : gW K A s.heap [gPrsC K qa tx sc qp2_6 qs2_6 qk2_6 qn2_6 qo qb qe qf, gBuf K tx bb n F] _ _ := hG
  exact g_iret S hr hlk hQ dX2_takeNumber_10 (Nat.le_of_ble_eq_true rfl) (Nat.le_of_ble_eq_true rfl) ((qp2_6, qs2_6, qk2_6, qn2_6) : Int × Int × Int × Int) ⟨rfl, ht_6⟩ hG
