set_option maxHeartbeats 1000000 in
set_option maxRecDepth 100000 in
theorem c_X9_byteAt (l : Launch) (K : KC) (am : Nat → Nat) (th : Int) (rw : Nat) (lg : Int) (mr : Int) (en : Int) (pw : Int) (sl : Int) (ly : Int) (dn : Int) (iz : Int) (tz : Int) (nx : Int) (st : Int) (tk : Int) (vl : Int) (ef : Int) (ep : Int) (hO : Int) (hB : Int) (ol : Int) (rm : Int) (oz : Int) (IF : Int → Int) (i : Int) (htz : 0 ≤ tz ∧ tz ≤ 400) (hi : 0 ≤ i ∧ i < 2147483648) : mG l yX9_byteAt wsX9_byteAt 0 0 K [.ref (am 0), .int (iI i)] [gMdl K am th rw lg mr en pw sl ly dn iz tz nx st tk vl ef ep hO hB ol rm oz, gArrB K 400 (am 10) IF] (fun (v : Value) (u : Unit) => (v = .int (iI (bget IF tz i)))) (fun (u : Unit) => [gMdl K am th rw lg mr en pw sl ly dn iz tz nx st tk vl ef ep hO hB ol rm oz, gArrB K 400 (am 10) IF]) 0 0 := by
  refine mG_of cX9_byteAt 2 (by decide) rfl (Nat.le_of_ble_eq_true rfl) ?_
  intro p e s m below meth c A ls Q S C hG hl hr hlk hin hQ
  have S : CallFix p m c cX9_byteAt 2 s ([.ref (am 0), .int (iI i)] : List Value).toArray wsX9_byteAt RX9 := S
  have iX90 : ∀ w ∈ wsX90, w ∈ wsX9_byteAt := fun _ h => List.mem_cons_of_mem _ (List.mem_append_right _ (h))
  have hl : lv_has ls 2 [(0, .ref (am 0)), (1, .int (iI i))] := hl
  have hG : gW K A s.heap [gMdl K am th rw lg mr en pw sl ly dn iz tz nx st tk vl ef ep hO hB ol rm oz, gArrB K 400 (am 10) IF] s.heap [] := hG
  refine lv_iload_n S.1 S.2.1 dX9_byteAt_0 rfl (lv_at hl 1 rfl) ?_
  refine lv_aload_n S.1 S.2.1 dX9_byteAt_1 rfl (lv_at hl 0 rfl) ?_
  refine g_get S C hG iX90 0 rfl rfl 20 (by decide) (List.mem_of_getElem? (i := 1) rfl) rfl dX9_byteAt_2 ?_
  refine g_icmp_ge (tgt := 21) S dX9_byteAt_5 (by decide) (by omega) (by omega) (fun q5 => ?_) (fun q5 => ?_)
  · skip
    refine g_iconst S dX9_byteAt_21 ?_
    have hG : gW K A s.heap [gMdl K am th rw lg mr en pw sl ly dn iz tz nx st tk vl ef ep hO hB ol rm oz, gArrB K 400 (am 10) IF] _ _ := hG
    exact g_iret S hr hlk hQ dX9_byteAt_22 (Nat.le_of_ble_eq_true rfl) (Nat.le_of_ble_eq_true rfl) (() : Unit) (congrArg (fun z : Int => Value.int (iI z)) (by first | exact (bget_in (by omega)).symm | exact (bget_out (by omega)).symm)) hG
  · skip
    refine lv_aload_n S.1 S.2.1 dX9_byteAt_8 rfl (lv_at hl 0 rfl) ?_
    refine g_get S C hG iX90 0 rfl rfl 18 (by decide) (List.mem_of_getElem? (i := 2) rfl) rfl dX9_byteAt_9 ?_
    refine lv_iload_n S.1 S.2.1 dX9_byteAt_12 rfl (lv_at hl 1 rfl) ?_
    refine g_bald S C hG 1 rfl (by omega) (by omega) (by omega) dX9_byteAt_13 ?_
    refine g_sipush S dX9_byteAt_14 (by decide) ?_
    refine g_b255 S dX9_byteAt_17 ?_
    refine lv_goto (tgt := 22) S.1 S.2.1 dX9_byteAt_18 (by decide) ?_
    have hG : gW K A s.heap [gMdl K am th rw lg mr en pw sl ly dn iz tz nx st tk vl ef ep hO hB ol rm oz, gArrB K 400 (am 10) IF] _ _ := hG
    exact g_iret S hr hlk hQ dX9_byteAt_22 (Nat.le_of_ble_eq_true rfl) (Nat.le_of_ble_eq_true rfl) (() : Unit) (congrArg (fun z : Int => Value.int (iI z)) (by first | exact (bget_in (by omega)).symm | exact (bget_out (by omega)).symm)) hG

set_option maxHeartbeats 1000000 in
set_option maxRecDepth 100000 in
theorem c_X9_scan (l : Launch) (K : KC) (am : Nat → Nat) (th : Int) (rw : Nat) (lg : Int) (mr : Int) (en : Int) (pw : Int) (sl : Int) (ly : Int) (dn : Int) (iz : Int) (tz : Int) (nx : Int) (st : Int) (tk : Int) (vl : Int) (ef : Int) (ep : Int) (hO : Int) (hB : Int) (ol : Int) (rm : Int) (oz : Int) (IF : Int → Int) (htz : 0 ≤ tz ∧ tz ≤ 400) (h1 : 0 ≤ nx ∧ nx ≤ tz) : mV l yX9_scan wsX9_scan 1 25 K [.ref (am 0)] [gMdl K am th rw lg mr en pw sl ly dn iz tz nx st tk vl ef ep hO hB ol rm oz, gArrB K 400 (am 10) IF] (fun (u : Int × Int × Int × Int) => (TokM IF tz nx u.1 u.2.1 u.2.2.1 u.2.2.2)) (fun (u : Int × Int × Int × Int) => [gMdl K am th rw lg mr en pw sl ly dn iz tz u.1 u.2.1 u.2.2.1 u.2.2.2 ef ep hO hB ol rm oz, gArrB K 400 (am 10) IF]) 0 0 := by
  refine mV_of cX9_scan 2 (by decide) rfl (Nat.le_of_ble_eq_true rfl) ?_
  intro p e s m below meth c A ls Q S C hG hl hr hlk hin hQ
  have S : CallFix p m c cX9_scan 2 s ([.ref (am 0)] : List Value).toArray wsX9_scan RX9 := S
  have iX90 : ∀ w ∈ wsX90, w ∈ wsX9_scan := fun _ h => List.mem_cons_of_mem _ (List.mem_append_right _ (h))
  have hl : lv_has ls 2 [(0, .ref (am 0))] := hl
  have hG : gW K A s.heap [gMdl K am th rw lg mr en pw sl ly dn iz tz nx st tk vl ef ep hO hB ol rm oz, gArrB K 400 (am 10) IF] s.heap [] := hG
  have J39 : ∀ (zs : Int) (H : Heap) (locs : List Loc) (ls : Array Slot), (zs = tkS IF tz nx) → (0 ≤ zs ∧ zs ≤ tz) → lv_has ls 2 [(0, .ref (am 0))] → gW K A s.heap [gMdl K am th rw lg mr en pw sl ly dn iz tz zs st tk vl ef ep hO hB ol rm oz, gArrB K 400 (am 10) IF] H locs → W p l e { frames := 1, cells := 0, slots := 0, locals := 25 } s m ([.ref (am 0)] : List Value).toArray below meth c H locs 0 0 Q (F0 m 39 ls []) := by
    intro zs H locs ls hzs hzr hl hG
    have bb9 := bget_bd IF tz zs
    refine lv_aload_n S.1 S.2.1 dX9_scan_39 rfl (lv_at hl 0 rfl) ?_
    refine lv_aload_n S.1 S.2.1 dX9_scan_40 rfl (lv_at hl 0 rfl) ?_
    refine g_get S C hG iX90 0 rfl rfl 21 (by decide) (List.mem_of_getElem? (i := 1) rfl) rfl dX9_scan_41 ?_
    refine g_put (gs' := [gMdl K am th rw lg mr en pw sl ly dn iz tz zs zs tk vl ef ep hO hB ol rm oz, gArrB K 400 (am 10) IF]) S C hG iX90 tyX9 tyX9_ok nmX9 0 rfl rfl 22 (by decide) (List.mem_of_getElem? (i := 2) rfl) rfl rfl rfl (Nat.le_of_ble_eq_true rfl) rfl dX9_scan_44 (fun H locs hG => ?_)
    refine lv_aload_n S.1 S.2.1 dX9_scan_47 rfl (lv_at hl 0 rfl) ?_
    refine lv_aload_n S.1 S.2.1 dX9_scan_48 rfl (lv_at hl 0 rfl) ?_
    refine g_get S C hG iX90 0 rfl rfl 21 (by decide) (List.mem_of_getElem? (i := 1) rfl) rfl dX9_scan_49 ?_
    refine g_invV (As := [.int (iI zs)]) (rest := []) (gs' := (fun u : Unit => [gMdl K am th rw lg mr en pw sl ly dn iz tz zs zs tk vl ef ep hO hB ol rm oz, gArrB K 400 (am 10) IF])) S C hG [0, 1] (c_X9_byteAt l K am th rw lg mr en pw sl ly dn iz tz zs zs tk vl ef ep hO hB ol rm oz IF zs htz (by omega)) rfl rfl 0 rfl rfl (cwV 1 S.2.2.2.2 gX9_scan_X9_byteAt rfl rfl rfl (by decide +kernel) ⟨Nat.le_of_ble_eq_true rfl, Nat.le_of_ble_eq_true rfl⟩) rfl hl.1 rfl (Nat.le_of_ble_eq_true rfl) dX9_scan_52 ⟨Nat.le_of_ble_eq_true rfl, Nat.le_of_ble_eq_true rfl⟩ (fun _ => Nat.le_of_ble_eq_true rfl) (fun _ => rfl) (fun v u H locs hp hG => ?_)
    subst hp
    refine g_top (w := .int (iI (tkC IF tz nx))) (congrArg (fun z : Int => Value.int (iI z)) ((by rw [hzs] <;> rfl))) ?_
    refine lv_istore_n (lv' := [(1, .int (iI (tkC IF tz nx))), (0, .ref (am 0))]) S.1 S.2.1 dX9_scan_55 rfl hl (by decide) rfl (fun ls hl => ?_)
    refine lv_iload_n S.1 S.2.1 dX9_scan_56 rfl (lv_at hl 0 rfl) ?_
    refine g_iconst S dX9_scan_57 ?_
    have bc9 : -1 ≤ tkC IF tz nx ∧ tkC IF tz nx ≤ 255 := bget_bd IF tz _
    refine g_icmp_ne (tgt := 69) S dX9_scan_58 (by decide) (by omega) (by omega) (fun q58 => ?_) (fun q58 => ?_)
    · skip
      refine lv_iload_n S.1 S.2.1 dX9_scan_69 rfl (lv_at hl 0 rfl) ?_
      refine g_i2l S dX9_scan_70 (by omega) ?_
      refine g_ldc2 (z := 97) S dX9_scan_71 (List.mem_of_getElem? (i := 4) rfl) rfl ?_
      refine g_ldc2 (z := 122) S dX9_scan_74 (List.mem_of_getElem? (i := 5) rfl) rfl ?_
      refine g_invS (As := [.long (iL (tkC IF tz nx)), .long (iL 97), .long (iL 122)]) (rest := []) (gs' := (fun u : Unit => [gMdl K am th rw lg mr en pw sl ly dn iz tz zs zs tk vl ef ep hO hB ol rm oz, gArrB K 400 (am 10) IF])) S C hG [] (c_X9_in l K (tkC IF tz nx) 97 122 (by omega) (by decide) (by decide)) rfl rfl (va_cwS 3 S.2.2.2.2 gX9_scan_X9_in rfl rfl rfl (by decide +kernel) ⟨Nat.le_of_ble_eq_true rfl, Nat.le_of_ble_eq_true rfl⟩) rfl hl.1 rfl (Nat.le_of_ble_eq_true rfl) dX9_scan_77 ⟨Nat.le_of_ble_eq_true rfl, Nat.le_of_ble_eq_true rfl⟩ (fun _ => Nat.le_of_ble_eq_true rfl) (fun _ => rfl) (fun v u H locs hp hG => ?_)
      subst hp
      refine g_ifeq_b (B := (97 ≤ (tkC IF tz nx) ∧ (tkC IF tz nx) ≤ 122)) (tgt := 125) S dX9_scan_80 (by decide) (fun q80 => ?_) (fun q80 => ?_)
      · skip
        refine lv_iload_n S.1 S.2.1 dX9_scan_125 rfl (lv_at hl 0 rfl) ?_
        refine g_i2l S dX9_scan_126 (by omega) ?_
        refine g_ldc2 (z := 48) S dX9_scan_127 (List.mem_of_getElem? (i := 6) rfl) rfl ?_
        refine g_ldc2 (z := 57) S dX9_scan_130 (List.mem_of_getElem? (i := 7) rfl) rfl ?_
        refine g_invS (As := [.long (iL (tkC IF tz nx)), .long (iL 48), .long (iL 57)]) (rest := []) (gs' := (fun u : Unit => [gMdl K am th rw lg mr en pw sl ly dn iz tz zs zs tk vl ef ep hO hB ol rm oz, gArrB K 400 (am 10) IF])) S C hG [] (c_X9_in l K (tkC IF tz nx) 48 57 (by omega) (by decide) (by decide)) rfl rfl (va_cwS 3 S.2.2.2.2 gX9_scan_X9_in rfl rfl rfl (by decide +kernel) ⟨Nat.le_of_ble_eq_true rfl, Nat.le_of_ble_eq_true rfl⟩) rfl hl.1 rfl (Nat.le_of_ble_eq_true rfl) dX9_scan_133 ⟨Nat.le_of_ble_eq_true rfl, Nat.le_of_ble_eq_true rfl⟩ (fun _ => Nat.le_of_ble_eq_true rfl) (fun _ => rfl) (fun v u H locs hp hG => ?_)
        subst hp
        refine g_ifeq_b (B := (48 ≤ (tkC IF tz nx) ∧ (tkC IF tz nx) ≤ 57)) (tgt := 215) S dX9_scan_136 (by decide) (fun q136 => ?_) (fun q136 => ?_)
        · skip
          refine lv_aload_n S.1 S.2.1 dX9_scan_215 rfl (lv_at hl 1 rfl) ?_
          refine g_iconst S dX9_scan_216 ?_
          refine g_put (gs' := [gMdl K am th rw lg mr en pw sl ly dn iz tz zs zs 3 vl ef ep hO hB ol rm oz, gArrB K 400 (am 10) IF]) S C hG iX90 tyX9 tyX9_ok nmX9 0 rfl rfl 23 (by decide) (List.mem_of_getElem? (i := 3) rfl) rfl rfl rfl (Nat.le_of_ble_eq_true rfl) rfl dX9_scan_217 (fun H locs hG => ?_)
          refine lv_aload_n S.1 S.2.1 dX9_scan_220 rfl (lv_at hl 1 rfl) ?_
          refine lv_iload_n S.1 S.2.1 dX9_scan_221 rfl (lv_at hl 0 rfl) ?_
          refine g_put (gs' := [gMdl K am th rw lg mr en pw sl ly dn iz tz zs zs 3 (tkC IF tz nx) ef ep hO hB ol rm oz, gArrB K 400 (am 10) IF]) S C hG iX90 tyX9 tyX9_ok nmX9 0 rfl rfl 24 (by decide) (List.mem_of_getElem? (i := 8) rfl) rfl rfl rfl (Nat.le_of_ble_eq_true rfl) rfl dX9_scan_222 (fun H locs hG => ?_)
          refine lv_aload_n S.1 S.2.1 dX9_scan_225 rfl (lv_at hl 1 rfl) ?_
          refine lv_dup S.1 S.2.1 dX9_scan_226 rfl ?_
          refine g_get S C hG iX90 0 rfl rfl 21 (by decide) (List.mem_of_getElem? (i := 1) rfl) rfl dX9_scan_227 ?_
          refine g_iconst S dX9_scan_230 ?_
          refine g_iadd S dX9_scan_231 rfl ?_
          refine g_put (gs' := [gMdl K am th rw lg mr en pw sl ly dn iz tz (zs + 1) zs 3 (tkC IF tz nx) ef ep hO hB ol rm oz, gArrB K 400 (am 10) IF]) S C hG iX90 tyX9 tyX9_ok nmX9 0 rfl rfl 21 (by decide) (List.mem_of_getElem? (i := 1) rfl) rfl rfl rfl (Nat.le_of_ble_eq_true rfl) rfl dX9_scan_232 (fun H locs hG => ?_)
          have hG : gW K A s.heap [gMdl K am th rw lg mr en pw sl ly dn iz tz (zs + 1) zs 3 (tkC IF tz nx) ef ep hO hB ol rm oz, gArrB K 400 (am 10) IF] _ _ := hG
          exact g_vret S hr hlk hQ dX9_scan_235 (Nat.le_of_ble_eq_true rfl) (Nat.le_of_ble_eq_true rfl) ((zs + 1, zs, 3, tkC IF tz nx) : Int × Int × Int × Int) (TokM.c3 hzs (by omega) q80 q136 rfl) hG
        · skip
          refine lv_aload_n S.1 S.2.1 dX9_scan_139 rfl (lv_at hl 1 rfl) ?_
          refine g_iconst S dX9_scan_140 ?_
          refine g_put (gs' := [gMdl K am th rw lg mr en pw sl ly dn iz tz zs zs tk 0 ef ep hO hB ol rm oz, gArrB K 400 (am 10) IF]) S C hG iX90 tyX9 tyX9_ok nmX9 0 rfl rfl 24 (by decide) (List.mem_of_getElem? (i := 8) rfl) rfl rfl rfl (Nat.le_of_ble_eq_true rfl) rfl dX9_scan_141 (fun H locs hG => ?_)
          have L144 : ∀ (fu : Nat) (zp : Int) (zv : Int) (H : Heap) (locs : List Loc) (ls : Array Slot), ((tz - zp).toNat) < fu → (0 ≤ zp ∧ zp ≤ tz) → (skp IF tz 2 zp = skp IF tz 2 zs) → (nmb IF tz 9999 zp zv = nmb IF tz 9999 zs 0) → (0 ≤ zv ∧ zv ≤ 9999) → lv_has ls 2 [(0, .ref (am 0)), (1, .int (iI (tkC IF tz nx)))] → gW K A s.heap [gMdl K am th rw lg mr en pw sl ly dn iz tz zp zs tk zv ef ep hO hB ol rm oz, gArrB K 400 (am 10) IF] H locs → W p l e { frames := 1, cells := 0, slots := 0, locals := 25 } s m ([.ref (am 0)] : List Value).toArray below meth c H locs 0 0 Q (F0 m 144 ls []) := by
            intro fu
            induction fu with
            | zero => intro zp zv H locs ls hfu; exact absurd hfu (Nat.not_lt_zero _)
            | succ fu ih =>
              intro zp zv H locs ls hfu hz hk2 hv2 hzv hl hG
              have bb9 := bget_bd IF tz zp
              refine lv_aload_n S.1 S.2.1 dX9_scan_144 rfl (lv_at hl 0 rfl) ?_
              refine lv_aload_n S.1 S.2.1 dX9_scan_145 rfl (lv_at hl 0 rfl) ?_
              refine g_get S C hG iX90 0 rfl rfl 21 (by decide) (List.mem_of_getElem? (i := 1) rfl) rfl dX9_scan_146 ?_
              refine g_invV (As := [.int (iI zp)]) (rest := []) (gs' := (fun u : Unit => [gMdl K am th rw lg mr en pw sl ly dn iz tz zp zs tk zv ef ep hO hB ol rm oz, gArrB K 400 (am 10) IF])) S C hG [0, 1] (c_X9_byteAt l K am th rw lg mr en pw sl ly dn iz tz zp zs tk zv ef ep hO hB ol rm oz IF zp htz (by omega)) rfl rfl 0 rfl rfl (cwV 1 S.2.2.2.2 gX9_scan_X9_byteAt rfl rfl rfl (by decide +kernel) ⟨Nat.le_of_ble_eq_true rfl, Nat.le_of_ble_eq_true rfl⟩) rfl hl.1 rfl (Nat.le_of_ble_eq_true rfl) dX9_scan_149 ⟨Nat.le_of_ble_eq_true rfl, Nat.le_of_ble_eq_true rfl⟩ (fun _ => Nat.le_of_ble_eq_true rfl) (fun _ => rfl) (fun v u H locs hp hG => ?_)
              subst hp
              refine g_i2l S dX9_scan_152 (by omega) ?_
              refine g_ldc2 (z := 48) S dX9_scan_153 (List.mem_of_getElem? (i := 6) rfl) rfl ?_
              refine g_ldc2 (z := 57) S dX9_scan_156 (List.mem_of_getElem? (i := 7) rfl) rfl ?_
              refine g_invS (As := [.long (iL (bget IF tz zp)), .long (iL 48), .long (iL 57)]) (rest := []) (gs' := (fun u : Unit => [gMdl K am th rw lg mr en pw sl ly dn iz tz zp zs tk zv ef ep hO hB ol rm oz, gArrB K 400 (am 10) IF])) S C hG [] (c_X9_in l K (bget IF tz zp) 48 57 (by omega) (by decide) (by decide)) rfl rfl (va_cwS 3 S.2.2.2.2 gX9_scan_X9_in rfl rfl rfl (by decide +kernel) ⟨Nat.le_of_ble_eq_true rfl, Nat.le_of_ble_eq_true rfl⟩) rfl hl.1 rfl (Nat.le_of_ble_eq_true rfl) dX9_scan_159 ⟨Nat.le_of_ble_eq_true rfl, Nat.le_of_ble_eq_true rfl⟩ (fun _ => Nat.le_of_ble_eq_true rfl) (fun _ => rfl) (fun v u H locs hp hG => ?_)
              subst hp
              refine g_ifeq_b (B := (48 ≤ (bget IF tz zp) ∧ (bget IF tz zp) ≤ 57)) (tgt := 207) S dX9_scan_162 (by decide) (fun q162 => ?_) (fun q162 => ?_)
              · skip
                refine lv_aload_n S.1 S.2.1 dX9_scan_207 rfl (lv_at hl 0 rfl) ?_
                refine g_iconst S dX9_scan_208 ?_
                refine g_put (gs' := [gMdl K am th rw lg mr en pw sl ly dn iz tz zp zs 2 zv ef ep hO hB ol rm oz, gArrB K 400 (am 10) IF]) S C hG iX90 tyX9 tyX9_ok nmX9 0 rfl rfl 23 (by decide) (List.mem_of_getElem? (i := 3) rfl) rfl rfl rfl (Nat.le_of_ble_eq_true rfl) rfl dX9_scan_209 (fun H locs hG => ?_)
                refine lv_goto (tgt := 235) S.1 S.2.1 dX9_scan_212 (by decide) ?_
                have hG : gW K A s.heap [gMdl K am th rw lg mr en pw sl ly dn iz tz zp zs 2 zv ef ep hO hB ol rm oz, gArrB K 400 (am 10) IF] _ _ := hG
                exact g_vret S hr hlk hQ dX9_scan_235 (Nat.le_of_ble_eq_true rfl) (Nat.le_of_ble_eq_true rfl) ((zp, zs, 2, zv) : Int × Int × Int × Int) (TokM.c2 hzs (by omega) q80 q136 (by rw [← hk2, skp_f (fun q => q162 (isCl2.mp q.2))]) (by rw [← hv2, nmb_f (fun q => q162 q.2)])) hG
              · skip
                refine lv_aload_n S.1 S.2.1 dX9_scan_165 rfl (lv_at hl 0 rfl) ?_
                refine g_sipush S dX9_scan_166 (by decide) ?_
                refine g_bipush S dX9_scan_169 (by decide) ?_
                refine lv_aload_n S.1 S.2.1 dX9_scan_171 rfl (lv_at hl 0 rfl) ?_
                refine g_get S C hG iX90 0 rfl rfl 24 (by decide) (List.mem_of_getElem? (i := 8) rfl) rfl dX9_scan_172 ?_
                refine g_imul S dX9_scan_175 rfl ?_
                refine lv_aload_n S.1 S.2.1 dX9_scan_176 rfl (lv_at hl 0 rfl) ?_
                refine lv_aload_n S.1 S.2.1 dX9_scan_177 rfl (lv_at hl 0 rfl) ?_
                refine g_get S C hG iX90 0 rfl rfl 21 (by decide) (List.mem_of_getElem? (i := 1) rfl) rfl dX9_scan_178 ?_
                refine g_invV (As := [.int (iI zp)]) (rest := [.int (iI (10 * zv)), .int (iI 9999), .ref (am 0)]) (gs' := (fun u : Unit => [gMdl K am th rw lg mr en pw sl ly dn iz tz zp zs tk zv ef ep hO hB ol rm oz, gArrB K 400 (am 10) IF])) S C hG [0, 1] (c_X9_byteAt l K am th rw lg mr en pw sl ly dn iz tz zp zs tk zv ef ep hO hB ol rm oz IF zp htz (by omega)) rfl rfl 0 rfl rfl (cwV 1 S.2.2.2.2 gX9_scan_X9_byteAt rfl rfl rfl (by decide +kernel) ⟨Nat.le_of_ble_eq_true rfl, Nat.le_of_ble_eq_true rfl⟩) rfl hl.1 rfl (Nat.le_of_ble_eq_true rfl) dX9_scan_181 ⟨Nat.le_of_ble_eq_true rfl, Nat.le_of_ble_eq_true rfl⟩ (fun _ => Nat.le_of_ble_eq_true rfl) (fun _ => rfl) (fun v u H locs hp hG => ?_)
                subst hp
                refine g_iadd S dX9_scan_184 rfl ?_
                refine g_bipush S dX9_scan_185 (by decide) ?_
                refine g_isub S dX9_scan_187 rfl ?_
                refine va_mmin S.1 S.2.1 (by rw [S.2.2.1]; exact hl.1.symm) S.2.2.2.1 (S.2.2.2.2 _ (List.mem_of_getElem? (i := 9) rfl)) (S.2.2.2.2 _ (List.mem_of_getElem? (i := 10) rfl)) (S.2.2.2.2 _ (List.mem_of_getElem? (i := 11) rfl)) (S.2.2.2.2 _ (List.mem_of_getElem? (i := 12) rfl)) (Nat.le_of_ble_eq_true rfl) (Nat.le_of_ble_eq_true rfl) (Nat.le_of_ble_eq_true rfl) (Nat.le_of_ble_eq_true rfl) dX9_scan_188 ?_
                refine g_top (w := .int (iI (min 9999 (((10 * zv) + (bget IF tz zp)) - 48)))) (imin_eq (by omega) (by omega)) ?_
                refine g_top (w := .int (iI (min 9999 (zv * 10 + bget IF tz zp - 48)))) (congrArg (fun z : Int => Value.int (iI z)) ((by rw [Int.mul_comm 10 zv]))) ?_
                refine g_put (gs' := [gMdl K am th rw lg mr en pw sl ly dn iz tz zp zs tk (min 9999 (zv * 10 + bget IF tz zp - 48)) ef ep hO hB ol rm oz, gArrB K 400 (am 10) IF]) S C hG iX90 tyX9 tyX9_ok nmX9 0 rfl rfl 24 (by decide) (List.mem_of_getElem? (i := 8) rfl) rfl rfl rfl (Nat.le_of_ble_eq_true rfl) rfl dX9_scan_191 (fun H locs hG => ?_)
                refine lv_aload_n S.1 S.2.1 dX9_scan_194 rfl (lv_at hl 0 rfl) ?_
                refine lv_dup S.1 S.2.1 dX9_scan_195 rfl ?_
                refine g_get S C hG iX90 0 rfl rfl 21 (by decide) (List.mem_of_getElem? (i := 1) rfl) rfl dX9_scan_196 ?_
                refine g_iconst S dX9_scan_199 ?_
                refine g_iadd S dX9_scan_200 rfl ?_
                refine g_put (gs' := [gMdl K am th rw lg mr en pw sl ly dn iz tz (zp + 1) zs tk (min 9999 (zv * 10 + bget IF tz zp - 48)) ef ep hO hB ol rm oz, gArrB K 400 (am 10) IF]) S C hG iX90 tyX9 tyX9_ok nmX9 0 rfl rfl 21 (by decide) (List.mem_of_getElem? (i := 1) rfl) rfl rfl rfl (Nat.le_of_ble_eq_true rfl) rfl dX9_scan_201 (fun H locs hG => ?_)
                refine lv_goto (tgt := 144) S.1 S.2.1 dX9_scan_204 (by decide) ?_
                have lt9 : zp < tz := Decidable.byContradiction fun z => by (have z2 := bget_out (F := IF) (n := tz) (i := zp) (by omega) <;> omega)
                exact ih (zp + 1) (min 9999 (zv * 10 + bget IF tz zp - 48)) _ _ _ (by omega) (by omega) (by rw [← skp_t lt9 (isCl2.mpr q162)] <;> exact hk2) (by rw [← nmb_t lt9 q162] <;> exact hv2) (by omega) (lv_sub hl [0, 1] rfl) hG
          exact L144 (Nat.succ ((tz - zs).toNat)) zs 0 _ _ _ (Nat.lt_succ_self _) (by omega) rfl rfl (by omega) (lv_sub hl [1, 0] rfl) hG
      · skip
        have L83 : ∀ (fu : Nat) (zp : Int) (H : Heap) (locs : List Loc) (ls : Array Slot), ((tz - zp).toNat) < fu → (0 ≤ zp ∧ zp ≤ tz) → (skp IF tz 1 zp = skp IF tz 1 zs) → lv_has ls 2 [(0, .ref (am 0)), (1, .int (iI (tkC IF tz nx)))] → gW K A s.heap [gMdl K am th rw lg mr en pw sl ly dn iz tz zp zs tk vl ef ep hO hB ol rm oz, gArrB K 400 (am 10) IF] H locs → W p l e { frames := 1, cells := 0, slots := 0, locals := 25 } s m ([.ref (am 0)] : List Value).toArray below meth c H locs 0 0 Q (F0 m 83 ls []) := by
          intro fu
          induction fu with
          | zero => intro zp H locs ls hfu; exact absurd hfu (Nat.not_lt_zero _)
          | succ fu ih =>
            intro zp H locs ls hfu hz hk1 hl hG
            have bb9 := bget_bd IF tz zp
            refine lv_aload_n S.1 S.2.1 dX9_scan_83 rfl (lv_at hl 0 rfl) ?_
            refine lv_aload_n S.1 S.2.1 dX9_scan_84 rfl (lv_at hl 0 rfl) ?_
            refine g_get S C hG iX90 0 rfl rfl 21 (by decide) (List.mem_of_getElem? (i := 1) rfl) rfl dX9_scan_85 ?_
            refine g_invV (As := [.int (iI zp)]) (rest := []) (gs' := (fun u : Unit => [gMdl K am th rw lg mr en pw sl ly dn iz tz zp zs tk vl ef ep hO hB ol rm oz, gArrB K 400 (am 10) IF])) S C hG [0, 1] (c_X9_byteAt l K am th rw lg mr en pw sl ly dn iz tz zp zs tk vl ef ep hO hB ol rm oz IF zp htz (by omega)) rfl rfl 0 rfl rfl (cwV 1 S.2.2.2.2 gX9_scan_X9_byteAt rfl rfl rfl (by decide +kernel) ⟨Nat.le_of_ble_eq_true rfl, Nat.le_of_ble_eq_true rfl⟩) rfl hl.1 rfl (Nat.le_of_ble_eq_true rfl) dX9_scan_88 ⟨Nat.le_of_ble_eq_true rfl, Nat.le_of_ble_eq_true rfl⟩ (fun _ => Nat.le_of_ble_eq_true rfl) (fun _ => rfl) (fun v u H locs hp hG => ?_)
            subst hp
            refine g_i2l S dX9_scan_91 (by omega) ?_
            refine g_ldc2 (z := 97) S dX9_scan_92 (List.mem_of_getElem? (i := 4) rfl) rfl ?_
            refine g_ldc2 (z := 122) S dX9_scan_95 (List.mem_of_getElem? (i := 5) rfl) rfl ?_
            refine g_invS (As := [.long (iL (bget IF tz zp)), .long (iL 97), .long (iL 122)]) (rest := []) (gs' := (fun u : Unit => [gMdl K am th rw lg mr en pw sl ly dn iz tz zp zs tk vl ef ep hO hB ol rm oz, gArrB K 400 (am 10) IF])) S C hG [] (c_X9_in l K (bget IF tz zp) 97 122 (by omega) (by decide) (by decide)) rfl rfl (va_cwS 3 S.2.2.2.2 gX9_scan_X9_in rfl rfl rfl (by decide +kernel) ⟨Nat.le_of_ble_eq_true rfl, Nat.le_of_ble_eq_true rfl⟩) rfl hl.1 rfl (Nat.le_of_ble_eq_true rfl) dX9_scan_98 ⟨Nat.le_of_ble_eq_true rfl, Nat.le_of_ble_eq_true rfl⟩ (fun _ => Nat.le_of_ble_eq_true rfl) (fun _ => rfl) (fun v u H locs hp hG => ?_)
            subst hp
            refine g_ifeq_b (B := (97 ≤ (bget IF tz zp) ∧ (bget IF tz zp) ≤ 122)) (tgt := 117) S dX9_scan_101 (by decide) (fun q101 => ?_) (fun q101 => ?_)
            · skip
              refine lv_aload_n S.1 S.2.1 dX9_scan_117 rfl (lv_at hl 0 rfl) ?_
              refine g_iconst S dX9_scan_118 ?_
              refine g_put (gs' := [gMdl K am th rw lg mr en pw sl ly dn iz tz zp zs 1 vl ef ep hO hB ol rm oz, gArrB K 400 (am 10) IF]) S C hG iX90 tyX9 tyX9_ok nmX9 0 rfl rfl 23 (by decide) (List.mem_of_getElem? (i := 3) rfl) rfl rfl rfl (Nat.le_of_ble_eq_true rfl) rfl dX9_scan_119 (fun H locs hG => ?_)
              refine lv_goto (tgt := 235) S.1 S.2.1 dX9_scan_122 (by decide) ?_
              have hG : gW K A s.heap [gMdl K am th rw lg mr en pw sl ly dn iz tz zp zs 1 vl ef ep hO hB ol rm oz, gArrB K 400 (am 10) IF] _ _ := hG
              exact g_vret S hr hlk hQ dX9_scan_235 (Nat.le_of_ble_eq_true rfl) (Nat.le_of_ble_eq_true rfl) ((zp, zs, 1, vl) : Int × Int × Int × Int) (TokM.c1 hzs (by omega) q80 (by rw [← hk1, skp_f (fun q => q101 (isCl1.mp q.2))])) hG
            · skip
              refine lv_aload_n S.1 S.2.1 dX9_scan_104 rfl (lv_at hl 0 rfl) ?_
              refine lv_dup S.1 S.2.1 dX9_scan_105 rfl ?_
              refine g_get S C hG iX90 0 rfl rfl 21 (by decide) (List.mem_of_getElem? (i := 1) rfl) rfl dX9_scan_106 ?_
              refine g_iconst S dX9_scan_109 ?_
              refine g_iadd S dX9_scan_110 rfl ?_
              refine g_put (gs' := [gMdl K am th rw lg mr en pw sl ly dn iz tz (zp + 1) zs tk vl ef ep hO hB ol rm oz, gArrB K 400 (am 10) IF]) S C hG iX90 tyX9 tyX9_ok nmX9 0 rfl rfl 21 (by decide) (List.mem_of_getElem? (i := 1) rfl) rfl rfl rfl (Nat.le_of_ble_eq_true rfl) rfl dX9_scan_111 (fun H locs hG => ?_)
              refine lv_goto (tgt := 83) S.1 S.2.1 dX9_scan_114 (by decide) ?_
              have lt9 : zp < tz := Decidable.byContradiction fun z => by (have z2 := bget_out (F := IF) (n := tz) (i := zp) (by omega) <;> omega)
              exact ih (zp + 1) _ _ _ (by omega) (by omega) (by rw [← skp_t lt9 (isCl1.mpr q101)] <;> exact hk1) (lv_sub hl [0, 1] rfl) hG
        exact L83 (Nat.succ ((tz - zs).toNat)) zs _ _ _ (Nat.lt_succ_self _) (by omega) rfl (lv_sub hl [1, 0] rfl) hG
    · skip
      refine lv_aload_n S.1 S.2.1 dX9_scan_61 rfl (lv_at hl 1 rfl) ?_
      refine g_iconst S dX9_scan_62 ?_
      refine g_put (gs' := [gMdl K am th rw lg mr en pw sl ly dn iz tz zs zs 0 vl ef ep hO hB ol rm oz, gArrB K 400 (am 10) IF]) S C hG iX90 tyX9 tyX9_ok nmX9 0 rfl rfl 23 (by decide) (List.mem_of_getElem? (i := 3) rfl) rfl rfl rfl (Nat.le_of_ble_eq_true rfl) rfl dX9_scan_63 (fun H locs hG => ?_)
      refine lv_goto (tgt := 235) S.1 S.2.1 dX9_scan_66 (by decide) ?_
      have hG : gW K A s.heap [gMdl K am th rw lg mr en pw sl ly dn iz tz zs zs 0 vl ef ep hO hB ol rm oz, gArrB K 400 (am 10) IF] _ _ := hG
      exact g_vret S hr hlk hQ dX9_scan_235 (Nat.le_of_ble_eq_true rfl) (Nat.le_of_ble_eq_true rfl) ((zs, zs, 0, vl) : Int × Int × Int × Int) (TokM.c0 hzs (by omega)) hG
  have L0 : ∀ (fu : Nat) (zp : Int) (H : Heap) (locs : List Loc) (ls : Array Slot), ((tz - zp).toNat) < fu → (0 ≤ zp ∧ zp ≤ tz) → (skp IF tz 0 zp = skp IF tz 0 nx) → lv_has ls 2 [(0, .ref (am 0))] → gW K A s.heap [gMdl K am th rw lg mr en pw sl ly dn iz tz zp st tk vl ef ep hO hB ol rm oz, gArrB K 400 (am 10) IF] H locs → W p l e { frames := 1, cells := 0, slots := 0, locals := 25 } s m ([.ref (am 0)] : List Value).toArray below meth c H locs 0 0 Q (F0 m 0 ls []) := by
    intro fu
    induction fu with
    | zero => intro zp H locs ls hfu; exact absurd hfu (Nat.not_lt_zero _)
    | succ fu ih =>
      intro zp H locs ls hfu hz hk0 hl hG
      have bb9 := bget_bd IF tz zp
      refine lv_aload_n S.1 S.2.1 dX9_scan_0 rfl (lv_at hl 0 rfl) ?_
      refine lv_aload_n S.1 S.2.1 dX9_scan_1 rfl (lv_at hl 0 rfl) ?_
      refine g_get S C hG iX90 0 rfl rfl 21 (by decide) (List.mem_of_getElem? (i := 1) rfl) rfl dX9_scan_2 ?_
      refine g_invV (As := [.int (iI zp)]) (rest := []) (gs' := (fun u : Unit => [gMdl K am th rw lg mr en pw sl ly dn iz tz zp st tk vl ef ep hO hB ol rm oz, gArrB K 400 (am 10) IF])) S C hG [0, 1] (c_X9_byteAt l K am th rw lg mr en pw sl ly dn iz tz zp st tk vl ef ep hO hB ol rm oz IF zp htz (by omega)) rfl rfl 0 rfl rfl (cwV 1 S.2.2.2.2 gX9_scan_X9_byteAt rfl rfl rfl (by decide +kernel) ⟨Nat.le_of_ble_eq_true rfl, Nat.le_of_ble_eq_true rfl⟩) rfl hl.1 rfl (Nat.le_of_ble_eq_true rfl) dX9_scan_5 ⟨Nat.le_of_ble_eq_true rfl, Nat.le_of_ble_eq_true rfl⟩ (fun _ => Nat.le_of_ble_eq_true rfl) (fun _ => rfl) (fun v u H locs hp hG => ?_)
      subst hp
      refine g_bipush S dX9_scan_8 (by decide) ?_
      refine g_icmp_eq (tgt := 26) S dX9_scan_10 (by decide) (by omega) (by omega) (fun q10 => ?_) (fun q10 => ?_)
      · skip
        refine lv_aload_n S.1 S.2.1 dX9_scan_26 rfl (lv_at hl 0 rfl) ?_
        refine lv_dup S.1 S.2.1 dX9_scan_27 rfl ?_
        refine g_get S C hG iX90 0 rfl rfl 21 (by decide) (List.mem_of_getElem? (i := 1) rfl) rfl dX9_scan_28 ?_
        refine g_iconst S dX9_scan_31 ?_
        refine g_iadd S dX9_scan_32 rfl ?_
        refine g_put (gs' := [gMdl K am th rw lg mr en pw sl ly dn iz tz (zp + 1) st tk vl ef ep hO hB ol rm oz, gArrB K 400 (am 10) IF]) S C hG iX90 tyX9 tyX9_ok nmX9 0 rfl rfl 21 (by decide) (List.mem_of_getElem? (i := 1) rfl) rfl rfl rfl (Nat.le_of_ble_eq_true rfl) rfl dX9_scan_33 (fun H locs hG => ?_)
        refine lv_goto (tgt := 0) S.1 S.2.1 dX9_scan_36 (by decide) ?_
        have lt9 : zp < tz := Decidable.byContradiction fun z => by (have z2 := bget_out (F := IF) (n := tz) (i := zp) (by omega) <;> omega)
        exact ih (zp + 1) _ _ _ (by omega) (by omega) (by rw [← skp_t lt9 (isCl0.mpr (by omega))] <;> exact hk0) (lv_sub hl [0] rfl) hG
      · skip
        refine lv_aload_n S.1 S.2.1 dX9_scan_13 rfl (lv_at hl 0 rfl) ?_
        refine lv_aload_n S.1 S.2.1 dX9_scan_14 rfl (lv_at hl 0 rfl) ?_
        refine g_get S C hG iX90 0 rfl rfl 21 (by decide) (List.mem_of_getElem? (i := 1) rfl) rfl dX9_scan_15 ?_
        refine g_invV (As := [.int (iI zp)]) (rest := []) (gs' := (fun u : Unit => [gMdl K am th rw lg mr en pw sl ly dn iz tz zp st tk vl ef ep hO hB ol rm oz, gArrB K 400 (am 10) IF])) S C hG [0, 1] (c_X9_byteAt l K am th rw lg mr en pw sl ly dn iz tz zp st tk vl ef ep hO hB ol rm oz IF zp htz (by omega)) rfl rfl 0 rfl rfl (cwV 1 S.2.2.2.2 gX9_scan_X9_byteAt rfl rfl rfl (by decide +kernel) ⟨Nat.le_of_ble_eq_true rfl, Nat.le_of_ble_eq_true rfl⟩) rfl hl.1 rfl (Nat.le_of_ble_eq_true rfl) dX9_scan_18 ⟨Nat.le_of_ble_eq_true rfl, Nat.le_of_ble_eq_true rfl⟩ (fun _ => Nat.le_of_ble_eq_true rfl) (fun _ => rfl) (fun v u H locs hp hG => ?_)
        subst hp
        refine g_bipush S dX9_scan_21 (by decide) ?_
        refine g_icmp_ne (tgt := 39) S dX9_scan_23 (by decide) (by omega) (by omega) (fun q23 => ?_) (fun q23 => ?_)
        · skip
          exact J39 zp _ _ _ (by unfold tkS <;> rw [← hk0, skp_f (fun q => by have z := isCl0.mp q.2 <;> omega)]) (by omega) (lv_sub hl [0] rfl) hG
        · skip
          refine lv_aload_n S.1 S.2.1 dX9_scan_26 rfl (lv_at hl 0 rfl) ?_
          refine lv_dup S.1 S.2.1 dX9_scan_27 rfl ?_
          refine g_get S C hG iX90 0 rfl rfl 21 (by decide) (List.mem_of_getElem? (i := 1) rfl) rfl dX9_scan_28 ?_
          refine g_iconst S dX9_scan_31 ?_
          refine g_iadd S dX9_scan_32 rfl ?_
          refine g_put (gs' := [gMdl K am th rw lg mr en pw sl ly dn iz tz (zp + 1) st tk vl ef ep hO hB ol rm oz, gArrB K 400 (am 10) IF]) S C hG iX90 tyX9 tyX9_ok nmX9 0 rfl rfl 21 (by decide) (List.mem_of_getElem? (i := 1) rfl) rfl rfl rfl (Nat.le_of_ble_eq_true rfl) rfl dX9_scan_33 (fun H locs hG => ?_)
          refine lv_goto (tgt := 0) S.1 S.2.1 dX9_scan_36 (by decide) ?_
          have lt9 : zp < tz := Decidable.byContradiction fun z => by (have z2 := bget_out (F := IF) (n := tz) (i := zp) (by omega) <;> omega)
          exact ih (zp + 1) _ _ _ (by omega) (by omega) (by rw [← skp_t lt9 (isCl0.mpr (by omega))] <;> exact hk0) (lv_sub hl [0] rfl) hG
  exact L0 (Nat.succ ((tz - nx).toNat)) nx _ _ _ (Nat.lt_succ_self _) (by omega) rfl (lv_sub hl [0] rfl) hG

set_option maxHeartbeats 1000000 in
set_option maxRecDepth 100000 in
theorem c_X9_good (l : Launch) (K : KC) (am : Nat → Nat) (th : Int) (rw : Nat) (lg : Int) (mr : Int) (en : Int) (pw : Int) (sl : Int) (ly : Int) (dn : Int) (iz : Int) (tz : Int) (nx : Int) (st : Int) (tk : Int) (vl : Int) (ef : Int) (ep : Int) (hO : Int) (hB : Int) (ol : Int) (rm : Int) (oz : Int) (hrg : 0 ≤ ef ∧ ef ≤ 6) : mG l yX9_good wsX9_good 0 0 K [.ref (am 0)] [gMdl K am th rw lg mr en pw sl ly dn iz tz nx st tk vl ef ep hO hB ol rm oz] (fun (v : Value) (u : Unit) => (v = .int (iI (bI (ef = 0))))) (fun (u : Unit) => [gMdl K am th rw lg mr en pw sl ly dn iz tz nx st tk vl ef ep hO hB ol rm oz]) 0 0 := by
  refine mG_of cX9_good 1 (by decide) rfl (Nat.le_of_ble_eq_true rfl) ?_
  intro p e s m below meth c A ls Q S C hG hl hr hlk hin hQ
  have S : CallFix p m c cX9_good 1 s ([.ref (am 0)] : List Value).toArray wsX9_good RX9 := S
  have iX90 : ∀ w ∈ wsX90, w ∈ wsX9_good := fun _ h => List.mem_cons_of_mem _ (List.mem_append_right _ (h))
  have hl : lv_has ls 1 [(0, .ref (am 0))] := hl
  have hG : gW K A s.heap [gMdl K am th rw lg mr en pw sl ly dn iz tz nx st tk vl ef ep hO hB ol rm oz] s.heap [] := hG
  refine lv_aload_n S.1 S.2.1 dX9_good_0 rfl (lv_at hl 0 rfl) ?_
  refine g_get S C hG iX90 0 rfl rfl 25 (by decide) (List.mem_of_getElem? (i := 1) rfl) rfl dX9_good_1 ?_
  refine g_if_ne (tgt := 11) S dX9_good_4 (by decide) (by omega) (fun q4 => ?_) (fun q4 => ?_)
  · skip
    refine g_iconst S dX9_good_11 ?_
    have hG : gW K A s.heap [gMdl K am th rw lg mr en pw sl ly dn iz tz nx st tk vl ef ep hO hB ol rm oz] _ _ := hG
    exact g_zret S hr hlk hQ (Or.inl rfl) dX9_good_12 (Nat.le_of_ble_eq_true rfl) (Nat.le_of_ble_eq_true rfl) (() : Unit) (congrArg (fun z : Int => Value.int (iI z)) (bI_f (by omega)).symm) hG
  · skip
    refine g_iconst S dX9_good_7 ?_
    refine lv_goto (tgt := 12) S.1 S.2.1 dX9_good_8 (by decide) ?_
    have hG : gW K A s.heap [gMdl K am th rw lg mr en pw sl ly dn iz tz nx st tk vl ef ep hO hB ol rm oz] _ _ := hG
    exact g_zret S hr hlk hQ (Or.inr rfl) dX9_good_12 (Nat.le_of_ble_eq_true rfl) (Nat.le_of_ble_eq_true rfl) (() : Unit) (congrArg (fun z : Int => Value.int (iI z)) (bI_t (by omega)).symm) hG

set_option maxHeartbeats 1000000 in
set_option maxRecDepth 100000 in
theorem c_X9_errs (l : Launch) (K : KC) (am : Nat → Nat) (th : Int) (rw : Nat) (lg : Int) (mr : Int) (en : Int) (pw : Int) (sl : Int) (ly : Int) (dn : Int) (iz : Int) (tz : Int) (nx : Int) (st : Int) (tk : Int) (vl : Int) (ef : Int) (ep : Int) (hO : Int) (hB : Int) (ol : Int) (rm : Int) (oz : Int) (IF : Int → Int) (x9 : PE Int) (d : Int) (hM : MSt IF tz x9 nx st tk vl ef ep) (hd : 1 ≤ d ∧ d ≤ 6) : mV l yX9_errs wsX9_errs 1 20 K [.ref (am 0), .int (iI d)] [gMdl K am th rw lg mr en pw sl ly dn iz tz nx st tk vl ef ep hO hB ol rm oz] (fun (u : Int × Int) => (MSt IF tz (pb x9 fun i => fl IF tz i d) nx st tk vl u.1 u.2)) (fun (u : Int × Int) => [gMdl K am th rw lg mr en pw sl ly dn iz tz nx st tk vl u.1 u.2 hO hB ol rm oz]) 0 0 := by
  refine mV_of cX9_errs 2 (by decide) rfl (Nat.le_of_ble_eq_true rfl) ?_
  intro p e s m below meth c A ls Q S C hG hl hr hlk hin hQ
  have S : CallFix p m c cX9_errs 2 s ([.ref (am 0), .int (iI d)] : List Value).toArray wsX9_errs RX9 := S
  have iX90 : ∀ w ∈ wsX90, w ∈ wsX9_errs := fun _ h => List.mem_cons_of_mem _ (List.mem_append_right _ (h))
  have hl : lv_has ls 2 [(0, .ref (am 0)), (1, .int (iI d))] := hl
  have hG : gW K A s.heap [gMdl K am th rw lg mr en pw sl ly dn iz tz nx st tk vl ef ep hO hB ol rm oz] s.heap [] := hG
  have xr := hM.rg
  refine lv_aload_n S.1 S.2.1 dX9_errs_0 rfl (lv_at hl 0 rfl) ?_
  refine g_invV (As := []) (rest := []) (gs' := (fun u : Unit => [gMdl K am th rw lg mr en pw sl ly dn iz tz nx st tk vl ef ep hO hB ol rm oz])) S C hG [0] (c_X9_good l K am th rw lg mr en pw sl ly dn iz tz nx st tk vl ef ep hO hB ol rm oz (by omega)) rfl rfl 0 rfl rfl (cwV 0 S.2.2.2.2 gX9_errs_X9_good rfl rfl rfl (by decide +kernel) ⟨Nat.le_of_ble_eq_true rfl, Nat.le_of_ble_eq_true rfl⟩) rfl hl.1 rfl (Nat.le_of_ble_eq_true rfl) dX9_errs_1 ⟨Nat.le_of_ble_eq_true rfl, Nat.le_of_ble_eq_true rfl⟩ (fun _ => Nat.le_of_ble_eq_true rfl) (fun _ => rfl) (fun v u H locs hp hG => ?_)
  subst hp
  refine g_ifne_b (B := (ef = 0)) (tgt := 8) S dX9_errs_4 (by decide) (fun q4 => ?_) (fun q4 => ?_)
  · skip
    refine lv_aload_n S.1 S.2.1 dX9_errs_8 rfl (lv_at hl 0 rfl) ?_
    refine lv_iload_n S.1 S.2.1 dX9_errs_9 rfl (lv_at hl 1 rfl) ?_
    refine g_put (gs' := [gMdl K am th rw lg mr en pw sl ly dn iz tz nx st tk vl d ep hO hB ol rm oz]) S C hG iX90 tyX9 tyX9_ok nmX9 0 rfl rfl 25 (by decide) (List.mem_of_getElem? (i := 1) rfl) rfl rfl rfl (Nat.le_of_ble_eq_true rfl) rfl dX9_errs_10 (fun H locs hG => ?_)
    refine lv_aload_n S.1 S.2.1 dX9_errs_13 rfl (lv_at hl 0 rfl) ?_
    refine lv_aload_n S.1 S.2.1 dX9_errs_14 rfl (lv_at hl 0 rfl) ?_
    refine g_get S C hG iX90 0 rfl rfl 22 (by decide) (List.mem_of_getElem? (i := 2) rfl) rfl dX9_errs_15 ?_
    refine g_put (gs' := [gMdl K am th rw lg mr en pw sl ly dn iz tz nx st tk vl d st hO hB ol rm oz]) S C hG iX90 tyX9 tyX9_ok nmX9 0 rfl rfl 26 (by decide) (List.mem_of_getElem? (i := 3) rfl) rfl rfl rfl (Nat.le_of_ble_eq_true rfl) rfl dX9_errs_18 (fun H locs hG => ?_)
    have hG : gW K A s.heap [gMdl K am th rw lg mr en pw sl ly dn iz tz nx st tk vl d st hO hB ol rm oz] _ _ := hG
    exact g_vret S hr hlk hQ dX9_errs_21 (Nat.le_of_ble_eq_true rfl) (Nat.le_of_ble_eq_true rfl) ((d, st) : Int × Int) (hM.err q4 hd) hG
  · skip
    have hG : gW K A s.heap [gMdl K am th rw lg mr en pw sl ly dn iz tz nx st tk vl ef ep hO hB ol rm oz] _ _ := hG
    exact g_vret S hr hlk hQ dX9_errs_7 (Nat.le_of_ble_eq_true rfl) (Nat.le_of_ble_eq_true rfl) ((ef, ep) : Int × Int) (hM.keep q4 _) hG

set_option maxHeartbeats 1000000 in
set_option maxRecDepth 100000 in
theorem c_X9_goOn (l : Launch) (K : KC) (am : Nat → Nat) (th : Int) (rw : Nat) (lg : Int) (mr : Int) (en : Int) (pw : Int) (sl : Int) (ly : Int) (dn : Int) (iz : Int) (tz : Int) (nx : Int) (st : Int) (tk : Int) (vl : Int) (ef : Int) (ep : Int) (hO : Int) (hB : Int) (ol : Int) (rm : Int) (oz : Int) (IF : Int → Int) (x9 : PE Int) (htz : 0 ≤ tz ∧ tz ≤ 400) (hM : MSt IF tz x9 nx st tk vl ef ep) : mV l yX9_goOn wsX9_goOn 2 46 K [.ref (am 0)] [gMdl K am th rw lg mr en pw sl ly dn iz tz nx st tk vl ef ep hO hB ol rm oz, gArrB K 400 (am 10) IF] (fun (u : Int × Int × Int × Int) => (MSt IF tz (pb x9 fun i => .inr (tkE IF tz i)) u.1 u.2.1 u.2.2.1 u.2.2.2 ef ep)) (fun (u : Int × Int × Int × Int) => [gMdl K am th rw lg mr en pw sl ly dn iz tz u.1 u.2.1 u.2.2.1 u.2.2.2 ef ep hO hB ol rm oz, gArrB K 400 (am 10) IF]) 0 0 := by
  refine mV_of cX9_goOn 1 (by decide) rfl (Nat.le_of_ble_eq_true rfl) ?_
  intro p e s m below meth c A ls Q S C hG hl hr hlk hin hQ
  have S : CallFix p m c cX9_goOn 1 s ([.ref (am 0)] : List Value).toArray wsX9_goOn RX9 := S
  have iX90 : ∀ w ∈ wsX90, w ∈ wsX9_goOn := fun _ h => List.mem_cons_of_mem _ (List.mem_append_right _ (h))
  have hl : lv_has ls 1 [(0, .ref (am 0))] := hl
  have hG : gW K A s.heap [gMdl K am th rw lg mr en pw sl ly dn iz tz nx st tk vl ef ep hO hB ol rm oz, gArrB K 400 (am 10) IF] s.heap [] := hG
  have xr := hM.rg
  refine lv_aload_n S.1 S.2.1 dX9_goOn_0 rfl (lv_at hl 0 rfl) ?_
  refine g_invV (As := []) (rest := []) (gs' := (fun u : Unit => [gMdl K am th rw lg mr en pw sl ly dn iz tz nx st tk vl ef ep hO hB ol rm oz, gArrB K 400 (am 10) IF])) S C hG [0] (c_X9_good l K am th rw lg mr en pw sl ly dn iz tz nx st tk vl ef ep hO hB ol rm oz (by omega)) rfl rfl 0 rfl rfl (cwV 0 S.2.2.2.2 gX9_goOn_X9_good rfl rfl rfl (by decide +kernel) ⟨Nat.le_of_ble_eq_true rfl, Nat.le_of_ble_eq_true rfl⟩) rfl hl.1 rfl (Nat.le_of_ble_eq_true rfl) dX9_goOn_1 ⟨Nat.le_of_ble_eq_true rfl, Nat.le_of_ble_eq_true rfl⟩ (fun _ => Nat.le_of_ble_eq_true rfl) (fun _ => rfl) (fun v u H locs hp hG => ?_)
  subst hp
  refine g_ifeq_b (B := (ef = 0)) (tgt := 11) S dX9_goOn_4 (by decide) (fun q4 => ?_) (fun q4 => ?_)
  · skip
    have hG : gW K A s.heap [gMdl K am th rw lg mr en pw sl ly dn iz tz nx st tk vl ef ep hO hB ol rm oz, gArrB K 400 (am 10) IF] _ _ := hG
    exact g_vret S hr hlk hQ dX9_goOn_11 (Nat.le_of_ble_eq_true rfl) (Nat.le_of_ble_eq_true rfl) ((nx, st, tk, vl) : Int × Int × Int × Int) (hM.keep q4 _) hG
  · skip
    obtain ⟨i9, hx9, e9, hi9, ht9⟩ := hM.good q4
    have b9 := ht9.bd hi9.1 hi9.2
    refine lv_aload_n S.1 S.2.1 dX9_goOn_7 rfl (lv_at hl 0 rfl) ?_
    refine g_invVv (As := []) (rest := []) (gs' := (fun u : Int × Int × Int × Int => [gMdl K am th rw lg mr en pw sl ly dn iz tz u.1 u.2.1 u.2.2.1 u.2.2.2 ef ep hO hB ol rm oz, gArrB K 400 (am 10) IF])) S C hG [0, 1] (c_X9_scan l K am th rw lg mr en pw sl ly dn iz tz nx st tk vl ef ep hO hB ol rm oz IF htz (by omega)) rfl rfl 0 rfl rfl (cwV 0 S.2.2.2.2 gX9_goOn_X9_scan rfl rfl rfl (by decide +kernel) ⟨Nat.le_of_ble_eq_true rfl, Nat.le_of_ble_eq_true rfl⟩) rfl hl.1 rfl (Nat.le_of_ble_eq_true rfl) dX9_goOn_8 ⟨Nat.le_of_ble_eq_true rfl, Nat.le_of_ble_eq_true rfl⟩ (fun _ => Nat.le_of_ble_eq_true rfl) (fun _ => rfl) (fun u H locs hp hG => ?_)
    obtain ⟨nx2_8, st2_8, tk2_8, vl2_8⟩ := u
    have hT_8 := hp
    have hT_8 : TokM IF tz nx nx2_8 st2_8 tk2_8 vl2_8 := hT_8
    have hG : gW K A s.heap [gMdl K am th rw lg mr en pw sl ly dn iz tz nx2_8 st2_8 tk2_8 vl2_8 ef ep hO hB ol rm oz, gArrB K 400 (am 10) IF] _ _ := hG
    have hG : gW K A s.heap [gMdl K am th rw lg mr en pw sl ly dn iz tz nx2_8 st2_8 tk2_8 vl2_8 ef ep hO hB ol rm oz, gArrB K 400 (am 10) IF] _ _ := hG
    exact g_vret S hr hlk hQ dX9_goOn_11 (Nat.le_of_ble_eq_true rfl) (Nat.le_of_ble_eq_true rfl) ((nx2_8, st2_8, tk2_8, vl2_8) : Int × Int × Int × Int) (hM.next q4 hT_8) hG

set_option maxHeartbeats 1000000 in
set_option maxRecDepth 100000 in
theorem c_X9_errsIf (l : Launch) (K : KC) (am : Nat → Nat) (th : Int) (rw : Nat) (lg : Int) (mr : Int) (en : Int) (pw : Int) (sl : Int) (ly : Int) (dn : Int) (iz : Int) (tz : Int) (nx : Int) (st : Int) (tk : Int) (vl : Int) (ef : Int) (ep : Int) (hO : Int) (hB : Int) (ol : Int) (rm : Int) (oz : Int) (IF : Int → Int) (x9 : PE Int) (b : Int) (d : Int) (hM : MSt IF tz x9 nx st tk vl ef ep) (hd : 1 ≤ d ∧ d ≤ 6) (hb : b = 0 ∨ b = 1) : mV l yX9_errsIf wsX9_errsIf 2 41 K [.ref (am 0), .int (iI b), .int (iI d)] [gMdl K am th rw lg mr en pw sl ly dn iz tz nx st tk vl ef ep hO hB ol rm oz] (fun (u : Int × Int) => (MSt IF tz (pb x9 fun i => if b = 1 then fl IF tz i d else .inr i) nx st tk vl u.1 u.2)) (fun (u : Int × Int) => [gMdl K am th rw lg mr en pw sl ly dn iz tz nx st tk vl u.1 u.2 hO hB ol rm oz]) 0 0 := by
  refine mV_of cX9_errsIf 3 (by decide) rfl (Nat.le_of_ble_eq_true rfl) ?_
  intro p e s m below meth c A ls Q S C hG hl hr hlk hin hQ
  have S : CallFix p m c cX9_errsIf 3 s ([.ref (am 0), .int (iI b), .int (iI d)] : List Value).toArray wsX9_errsIf RX9 := S
  have iX90 : ∀ w ∈ wsX90, w ∈ wsX9_errsIf := fun _ h => List.mem_cons_of_mem _ (List.mem_append_right _ (h))
  have hl : lv_has ls 3 [(0, .ref (am 0)), (1, .int (iI b)), (2, .int (iI d))] := hl
  have hG : gW K A s.heap [gMdl K am th rw lg mr en pw sl ly dn iz tz nx st tk vl ef ep hO hB ol rm oz] s.heap [] := hG
  have xr := hM.rg
  refine lv_aload_n S.1 S.2.1 dX9_errsIf_0 rfl (lv_at hl 0 rfl) ?_
  refine g_invV (As := []) (rest := []) (gs' := (fun u : Unit => [gMdl K am th rw lg mr en pw sl ly dn iz tz nx st tk vl ef ep hO hB ol rm oz])) S C hG [0] (c_X9_good l K am th rw lg mr en pw sl ly dn iz tz nx st tk vl ef ep hO hB ol rm oz (by omega)) rfl rfl 0 rfl rfl (cwV 0 S.2.2.2.2 gX9_errsIf_X9_good rfl rfl rfl (by decide +kernel) ⟨Nat.le_of_ble_eq_true rfl, Nat.le_of_ble_eq_true rfl⟩) rfl hl.1 rfl (Nat.le_of_ble_eq_true rfl) dX9_errsIf_1 ⟨Nat.le_of_ble_eq_true rfl, Nat.le_of_ble_eq_true rfl⟩ (fun _ => Nat.le_of_ble_eq_true rfl) (fun _ => rfl) (fun v u H locs hp hG => ?_)
  subst hp
  refine g_ifeq_b (B := (ef = 0)) (tgt := 16) S dX9_errsIf_4 (by decide) (fun q4 => ?_) (fun q4 => ?_)
  · skip
    have hG : gW K A s.heap [gMdl K am th rw lg mr en pw sl ly dn iz tz nx st tk vl ef ep hO hB ol rm oz] _ _ := hG
    exact g_vret S hr hlk hQ dX9_errsIf_16 (Nat.le_of_ble_eq_true rfl) (Nat.le_of_ble_eq_true rfl) ((ef, ep) : Int × Int) (hM.keep q4 _) hG
  · skip
    refine lv_iload_n S.1 S.2.1 dX9_errsIf_7 rfl (lv_at hl 1 rfl) ?_
    refine g_if_eq (tgt := 16) S dX9_errsIf_8 (by decide) (by omega) (fun q8 => ?_) (fun q8 => ?_)
    · skip
      have hG : gW K A s.heap [gMdl K am th rw lg mr en pw sl ly dn iz tz nx st tk vl ef ep hO hB ol rm oz] _ _ := hG
      exact g_vret S hr hlk hQ dX9_errsIf_16 (Nat.le_of_ble_eq_true rfl) (Nat.le_of_ble_eq_true rfl) ((ef, ep) : Int × Int) (hM.if_f (by omega)) hG
    · skip
      refine lv_aload_n S.1 S.2.1 dX9_errsIf_11 rfl (lv_at hl 0 rfl) ?_
      refine lv_iload_n S.1 S.2.1 dX9_errsIf_12 rfl (lv_at hl 2 rfl) ?_
      refine g_invVv (As := [.int (iI d)]) (rest := []) (gs' := (fun u : Int × Int => [gMdl K am th rw lg mr en pw sl ly dn iz tz nx st tk vl u.1 u.2 hO hB ol rm oz])) S C hG [0] (c_X9_errs l K am th rw lg mr en pw sl ly dn iz tz nx st tk vl ef ep hO hB ol rm oz IF x9 d hM hd) rfl rfl 0 rfl rfl (cwV 1 S.2.2.2.2 gX9_errsIf_X9_errs rfl rfl rfl (by decide +kernel) ⟨Nat.le_of_ble_eq_true rfl, Nat.le_of_ble_eq_true rfl⟩) rfl hl.1 rfl (Nat.le_of_ble_eq_true rfl) dX9_errsIf_13 ⟨Nat.le_of_ble_eq_true rfl, Nat.le_of_ble_eq_true rfl⟩ (fun _ => Nat.le_of_ble_eq_true rfl) (fun _ => rfl) (fun u H locs hp hG => ?_)
      obtain ⟨ef2_13, ep2_13⟩ := u
      have hM2_13 := hp
      have hM2_13 : MSt IF tz (pb x9 fun i => fl IF tz i d) nx st tk vl ef2_13 ep2_13 := hM2_13
      have hG : gW K A s.heap [gMdl K am th rw lg mr en pw sl ly dn iz tz nx st tk vl ef2_13 ep2_13 hO hB ol rm oz] _ _ := hG
      have hG : gW K A s.heap [gMdl K am th rw lg mr en pw sl ly dn iz tz nx st tk vl ef2_13 ep2_13 hO hB ol rm oz] _ _ := hG
      exact g_vret S hr hlk hQ dX9_errsIf_16 (Nat.le_of_ble_eq_true rfl) (Nat.le_of_ble_eq_true rfl) ((ef2_13, ep2_13) : Int × Int) (MSt.if_t (by omega) hM2_13) hG

set_option maxHeartbeats 1000000 in
set_option maxRecDepth 100000 in
theorem c_X9_isWord (l : Launch) (K : KC) (am : Nat → Nat) (th : Int) (rw : Nat) (lg : Int) (mr : Int) (en : Int) (pw : Int) (sl : Int) (ly : Int) (dn : Int) (iz : Int) (tz : Int) (nx : Int) (st : Int) (tk : Int) (vl : Int) (ef : Int) (ep : Int) (hO : Int) (hB : Int) (ol : Int) (rm : Int) (oz : Int) (IF : Int → Int) (x9 : PE Int) (i : Nat) (wd : List Int) (htz : 0 ≤ tz ∧ tz ≤ 400) (hM : MSt IF tz x9 nx st tk vl ef ep) (hT : txI i wd) (hl9 : wd.length ≤ 100) : mG l yX9_isWord wsX9_isWord 4 85 K [.ref (am 0), .ref (K.2.2.2.1 i)] [gMdl K am th rw lg mr en pw sl ly dn iz tz nx st tk vl ef ep hO hB ol rm oz, gArrB K 400 (am 10) IF] (fun (v : Value) (u : Unit) => (v = .int (iI (bI (wdX IF tz x9 wd = true))))) (fun (u : Unit) => [gMdl K am th rw lg mr en pw sl ly dn iz tz nx st tk vl ef ep hO hB ol rm oz, gArrB K 400 (am 10) IF]) 0 0 := by
  refine mG_of cX9_isWord 4 (by decide) rfl (Nat.le_of_ble_eq_true rfl) ?_
  intro p e s m below meth c A ls Q S C hG hl hr hlk hin hQ
  have S : CallFix p m c cX9_isWord 4 s ([.ref (am 0), .ref (K.2.2.2.1 i)] : List Value).toArray wsX9_isWord RX9 := S
  have iX90 : ∀ w ∈ wsX90, w ∈ wsX9_isWord := fun _ h => List.mem_cons_of_mem _ (List.mem_append_right _ (h))
  have hl : lv_has ls 4 [(0, .ref (am 0)), (1, .ref (K.2.2.2.1 i))] := hl
  have hG : gW K A s.heap [gMdl K am th rw lg mr en pw sl ly dn iz tz nx st tk vl ef ep hO hB ol rm oz, gArrB K 400 (am 10) IF] s.heap [] := hG
  have xr := hM.rg
  refine lv_aload_n S.1 S.2.1 dX9_isWord_0 rfl (lv_at hl 0 rfl) ?_
  have J36 : ∀ (b0 : Int) (H : Heap) (locs : List Loc) (ls : Array Slot), ((b0 = 1 ∧ WdA IF tz x9 st wd) ∨ (b0 = 0 ∧ ¬ wdX IF tz x9 wd = true)) → (b0 = 0 ∨ b0 = 1) → lv_has ls 4 [(0, .ref (am 0)), (1, .ref (K.2.2.2.1 i))] → gW K A s.heap [gMdl K am th rw lg mr en pw sl ly dn iz tz nx st tk vl ef ep hO hB ol rm oz, gArrB K 400 (am 10) IF] H locs → W p l e { frames := 4, cells := 0, slots := 0, locals := 85 } s m ([.ref (am 0), .ref (K.2.2.2.1 i)] : List Value).toArray below meth c H locs 0 0 Q (F0 m 36 ls [.int (iI b0)]) := by
    intro b0 H locs ls hw0 hb0 hl hG
    refine lv_istore_n (lv' := [(2, .int (iI b0)), (0, .ref (am 0)), (1, .ref (K.2.2.2.1 i))]) S.1 S.2.1 dX9_isWord_36 rfl hl (by decide) rfl (fun ls hl => ?_)
    refine g_iconst S dX9_isWord_37 ?_
    refine lv_istore_n (lv' := [(3, .int (iI 0)), (2, .int (iI b0)), (0, .ref (am 0)), (1, .ref (K.2.2.2.1 i))]) S.1 S.2.1 dX9_isWord_38 rfl hl (by decide) rfl (fun ls hl => ?_)
    have L39 : ∀ (fu : Nat) (w : Int) (b1 : Int) (H : Heap) (locs : List Loc) (ls : Array Slot), (((wd.length : Int) - w).toNat) < fu → (0 ≤ w ∧ w ≤ wd.length) → (b1 = 0 ∨ b1 = 1) → ((b1 = 1 ∧ WdA IF tz x9 st wd ∧ ∀ j : Nat, (j : Int) < w → bget IF tz (st + j) = wd.getD j 0) ∨ (b1 = 0 ∧ ¬ wdX IF tz x9 wd = true)) → lv_has ls 4 [(0, .ref (am 0)), (1, .ref (K.2.2.2.1 i)), (2, .int (iI b1)), (3, .int (iI w))] → gW K A s.heap [gMdl K am th rw lg mr en pw sl ly dn iz tz nx st tk vl ef ep hO hB ol rm oz, gArrB K 400 (am 10) IF] H locs → W p l e { frames := 4, cells := 0, slots := 0, locals := 85 } s m ([.ref (am 0), .ref (K.2.2.2.1 i)] : List Value).toArray below meth c H locs 0 0 Q (F0 m 39 ls []) := by
      intro fu
      induction fu with
      | zero => intro w b1 H locs ls hfu; exact absurd hfu (Nat.not_lt_zero _)
      | succ fu ih =>
        intro w b1 H locs ls hfu hw hb1 hb hl hG
        refine lv_iload_n S.1 S.2.1 dX9_isWord_39 rfl (lv_at hl 3 rfl) ?_
        refine lv_aload_n S.1 S.2.1 dX9_isWord_40 rfl (lv_at hl 1 rfl) ?_
        refine g_invVO (As := []) (rest := [.int (iI w)]) (gs' := (fun u : Unit => [gMdl K am th rw lg mr en pw sl ly dn iz tz nx st tk vl ef ep hO hB ol rm oz, gArrB K 400 (am 10) IF])) S C hG [] (c_J0_length_8abf5 l K i wd hT hl9) rfl rfl hT (cwV 0 S.2.2.2.2 gX9_isWord_J0_length_8abf5 rfl rfl rfl (by decide +kernel) ⟨Nat.le_of_ble_eq_true rfl, Nat.le_of_ble_eq_true rfl⟩) rfl hl.1 rfl (Nat.le_of_ble_eq_true rfl) dX9_isWord_41 ⟨Nat.le_of_ble_eq_true rfl, Nat.le_of_ble_eq_true rfl⟩ (fun _ => Nat.le_of_ble_eq_true rfl) (fun _ => rfl) (fun v u H locs hp hG => ?_)
        subst hp
        refine g_icmp_ge (tgt := 82) S dX9_isWord_44 (by decide) (by omega) (by omega) (fun q44 => ?_) (fun q44 => ?_)
        · skip
          refine lv_iload_n S.1 S.2.1 dX9_isWord_82 rfl (lv_at hl 2 rfl) ?_
          have hG : gW K A s.heap [gMdl K am th rw lg mr en pw sl ly dn iz tz nx st tk vl ef ep hO hB ol rm oz, gArrB K 400 (am 10) IF] _ _ := hG
          exact g_zret S hr hlk hQ (by omega) dX9_isWord_83 (Nat.le_of_ble_eq_true rfl) (Nat.le_of_ble_eq_true rfl) (() : Unit) (congrArg (fun z : Int => Value.int (iI z)) (hb.elim (fun z => by rw [bI_t (z.2.1.yes (fun j hj => z.2.2 j (by omega)))] <;> omega) (fun z => by rw [bI_f z.2] <;> omega))) hG
        · skip
          refine lv_iload_n S.1 S.2.1 dX9_isWord_47 rfl (lv_at hl 2 rfl) ?_
          refine g_if_eq (tgt := 82) S dX9_isWord_48 (by decide) (by omega) (fun q48 => ?_) (fun q48 => ?_)
          · skip
            refine lv_iload_n S.1 S.2.1 dX9_isWord_82 rfl (lv_at hl 2 rfl) ?_
            have hG : gW K A s.heap [gMdl K am th rw lg mr en pw sl ly dn iz tz nx st tk vl ef ep hO hB ol rm oz, gArrB K 400 (am 10) IF] _ _ := hG
            exact g_zret S hr hlk hQ (by omega) dX9_isWord_83 (Nat.le_of_ble_eq_true rfl) (Nat.le_of_ble_eq_true rfl) (() : Unit) (congrArg (fun z : Int => Value.int (iI z)) (hb.elim (fun z => absurd z.1 (by omega)) (fun z => by rw [bI_f z.2] <;> omega))) hG
          · skip
            have wa9 : WdA IF tz x9 st wd ∧ ∀ j : Nat, (j : Int) < w → bget IF tz (st + j) = wd.getD j 0 := hb.elim (fun z => z.2) (fun z => absurd z.1 (by omega))
            have wr9 := wa9.1.rg
            have bw := wd_bd hT.2 w.toNat
            refine lv_aload_n S.1 S.2.1 dX9_isWord_51 rfl (lv_at hl 0 rfl) ?_
            refine g_get S C hG iX90 0 rfl rfl 18 (by decide) (List.mem_of_getElem? (i := 4) rfl) rfl dX9_isWord_52 ?_
            refine lv_aload_n S.1 S.2.1 dX9_isWord_55 rfl (lv_at hl 0 rfl) ?_
            refine g_get S C hG iX90 0 rfl rfl 22 (by decide) (List.mem_of_getElem? (i := 3) rfl) rfl dX9_isWord_56 ?_
            refine lv_iload_n S.1 S.2.1 dX9_isWord_59 rfl (lv_at hl 3 rfl) ?_
            refine g_iadd S dX9_isWord_60 rfl ?_
            refine g_bald S C hG 1 rfl (by omega) (by omega) (by omega) dX9_isWord_61 ?_
            refine g_top (w := .int (iI (sgB (IF (st + w))))) (by rw [bB_sg]) ?_
            refine lv_aload_n S.1 S.2.1 dX9_isWord_62 rfl (lv_at hl 1 rfl) ?_
            refine lv_iload_n S.1 S.2.1 dX9_isWord_63 rfl (lv_at hl 3 rfl) ?_
            refine g_invVO (As := [.int (iI w)]) (rest := [.int (iI (sgB (IF (st + w))))]) (gs' := (fun u : Unit => [gMdl K am th rw lg mr en pw sl ly dn iz tz nx st tk vl ef ep hO hB ol rm oz, gArrB K 400 (am 10) IF])) S C hG [] (c_J0_charAt_5068e l K i wd w hT hl9 (by omega)) rfl rfl hT (cwV 1 S.2.2.2.2 gX9_isWord_J0_charAt_5068e rfl rfl rfl (by decide +kernel) ⟨Nat.le_of_ble_eq_true rfl, Nat.le_of_ble_eq_true rfl⟩) rfl hl.1 rfl (Nat.le_of_ble_eq_true rfl) dX9_isWord_64 ⟨Nat.le_of_ble_eq_true rfl, Nat.le_of_ble_eq_true rfl⟩ (fun _ => Nat.le_of_ble_eq_true rfl) (fun _ => rfl) (fun v u H locs hp hG => ?_)
            subst hp
            have sg9 : -128 ≤ sgB (IF (st + w)) ∧ sgB (IF (st + w)) ≤ 127 := by (unfold sgB <;> omega)
            refine g_icmp_ne (tgt := 74) S dX9_isWord_67 (by decide) (by omega) (by omega) (fun q67 => ?_) (fun q67 => ?_)
            · skip
              refine g_iconst S dX9_isWord_74 ?_
              refine lv_istore_n (lv' := [(2, .int (iI 0)), (0, .ref (am 0)), (1, .ref (K.2.2.2.1 i)), (3, .int (iI w))]) S.1 S.2.1 dX9_isWord_75 rfl hl (by decide) rfl (fun ls hl => ?_)
              refine lv_iinc (v := iI (w + 1)) (lv' := [(3, .int (iI (w + 1))), (2, .int (iI 0)), (0, .ref (am 0)), (1, .ref (K.2.2.2.1 i))]) S.1 S.2.1 dX9_isWord_76 hl (k := 3) rfl (g_iinc rfl) (by decide) rfl (fun ls hl => ?_)
              refine lv_goto (tgt := 39) S.1 S.2.1 dX9_isWord_79 (by decide) ?_
              exact ih (w + 1) 0 _ _ _ (by omega) (by omega) (by omega) (Or.inr ⟨rfl, WdA.no (j := w.toNat) wa9.1 (by omega) (by rw [Int.toNat_of_nonneg hw.1, bget_in (by omega)] <;> exact fun z => q67 ((sgB_eq bw).mpr z))⟩) (lv_sub hl [2, 3, 1, 0] rfl) hG
            · skip
              refine g_iconst S dX9_isWord_70 ?_
              refine lv_goto (tgt := 75) S.1 S.2.1 dX9_isWord_71 (by decide) ?_
              refine lv_istore_n (lv' := [(2, .int (iI 1)), (0, .ref (am 0)), (1, .ref (K.2.2.2.1 i)), (3, .int (iI w))]) S.1 S.2.1 dX9_isWord_75 rfl hl (by decide) rfl (fun ls hl => ?_)
              refine lv_iinc (v := iI (w + 1)) (lv' := [(3, .int (iI (w + 1))), (2, .int (iI 1)), (0, .ref (am 0)), (1, .ref (K.2.2.2.1 i))]) S.1 S.2.1 dX9_isWord_76 hl (k := 3) rfl (g_iinc rfl) (by decide) rfl (fun ls hl => ?_)
              refine lv_goto (tgt := 39) S.1 S.2.1 dX9_isWord_79 (by decide) ?_
              exact ih (w + 1) 1 _ _ _ (by omega) (by omega) (by omega) (Or.inl ⟨rfl, wa9.1, fun j hj => if q : (j : Int) < w then wa9.2 j q else by rw [show (j : Int) = w by omega, bget_in (by omega), show j = w.toNat by omega] <;> exact (sgB_eq bw).mp q67⟩) (lv_sub hl [2, 3, 1, 0] rfl) hG
    exact L39 (Nat.succ (((wd.length : Int) - 0).toNat)) 0 b0 _ _ _ (Nat.lt_succ_self _) (by omega) hb0 (hw0.elim (fun z => Or.inl ⟨z.1, z.2, fun j hj => by omega⟩) Or.inr) (lv_sub hl [2, 3, 1, 0] rfl) hG
  refine g_invV (As := []) (rest := []) (gs' := (fun u : Unit => [gMdl K am th rw lg mr en pw sl ly dn iz tz nx st tk vl ef ep hO hB ol rm oz, gArrB K 400 (am 10) IF])) S C hG [0] (c_X9_good l K am th rw lg mr en pw sl ly dn iz tz nx st tk vl ef ep hO hB ol rm oz (by omega)) rfl rfl 0 rfl rfl (cwV 0 S.2.2.2.2 gX9_isWord_X9_good rfl rfl rfl (by decide +kernel) ⟨Nat.le_of_ble_eq_true rfl, Nat.le_of_ble_eq_true rfl⟩) rfl hl.1 rfl (Nat.le_of_ble_eq_true rfl) dX9_isWord_1 ⟨Nat.le_of_ble_eq_true rfl, Nat.le_of_ble_eq_true rfl⟩ (fun _ => Nat.le_of_ble_eq_true rfl) (fun _ => rfl) (fun v u H locs hp hG => ?_)
  subst hp
  refine g_ifeq_b (B := (ef = 0)) (tgt := 35) S dX9_isWord_4 (by decide) (fun q4 => ?_) (fun q4 => ?_)
  · skip
    refine g_iconst S dX9_isWord_35 ?_
    exact J36 0 _ _ _ (Or.inr ⟨rfl, wdX_bad hM q4 wd⟩) (by omega) (lv_sub hl [0, 1] rfl) hG
  · skip
    obtain ⟨i9, hx9, e9, hi9, ht9⟩ := hM.good q4
    have b9 := ht9.bd hi9.1 hi9.2
    refine lv_aload_n S.1 S.2.1 dX9_isWord_7 rfl (lv_at hl 0 rfl) ?_
    refine g_get S C hG iX90 0 rfl rfl 23 (by decide) (List.mem_of_getElem? (i := 1) rfl) rfl dX9_isWord_8 ?_
    refine g_iconst S dX9_isWord_11 ?_
    refine g_icmp_ne (tgt := 35) S dX9_isWord_12 (by decide) (by omega) (by omega) (fun q12 => ?_) (fun q12 => ?_)
    · skip
      refine g_iconst S dX9_isWord_35 ?_
      exact J36 0 _ _ _ (Or.inr ⟨rfl, hM.wdN q4 (fun z => by omega)⟩) (by omega) (lv_sub hl [0, 1] rfl) hG
    · skip
      refine lv_aload_n S.1 S.2.1 dX9_isWord_15 rfl (lv_at hl 0 rfl) ?_
      refine g_get S C hG iX90 0 rfl rfl 21 (by decide) (List.mem_of_getElem? (i := 2) rfl) rfl dX9_isWord_16 ?_
      refine lv_aload_n S.1 S.2.1 dX9_isWord_19 rfl (lv_at hl 0 rfl) ?_
      refine g_get S C hG iX90 0 rfl rfl 22 (by decide) (List.mem_of_getElem? (i := 3) rfl) rfl dX9_isWord_20 ?_
      refine g_isub S dX9_isWord_23 rfl ?_
      refine lv_aload_n S.1 S.2.1 dX9_isWord_24 rfl (lv_at hl 1 rfl) ?_
      refine g_invVO (As := []) (rest := [.int (iI (nx - st))]) (gs' := (fun u : Unit => [gMdl K am th rw lg mr en pw sl ly dn iz tz nx st tk vl ef ep hO hB ol rm oz, gArrB K 400 (am 10) IF])) S C hG [] (c_J0_length_8abf5 l K i wd hT hl9) rfl rfl hT (cwV 0 S.2.2.2.2 gX9_isWord_J0_length_8abf5 rfl rfl rfl (by decide +kernel) ⟨Nat.le_of_ble_eq_true rfl, Nat.le_of_ble_eq_true rfl⟩) rfl hl.1 rfl (Nat.le_of_ble_eq_true rfl) dX9_isWord_25 ⟨Nat.le_of_ble_eq_true rfl, Nat.le_of_ble_eq_true rfl⟩ (fun _ => Nat.le_of_ble_eq_true rfl) (fun _ => rfl) (fun v u H locs hp hG => ?_)
      subst hp
      refine g_icmp_ne (tgt := 35) S dX9_isWord_28 (by decide) (by omega) (by omega) (fun q28 => ?_) (fun q28 => ?_)
      · skip
        refine g_iconst S dX9_isWord_35 ?_
        exact J36 0 _ _ _ (Or.inr ⟨rfl, hM.wdN q4 (fun z => by omega)⟩) (by omega) (lv_sub hl [0, 1] rfl) hG
      · skip
        refine g_iconst S dX9_isWord_31 ?_
        refine lv_goto (tgt := 36) S.1 S.2.1 dX9_isWord_32 (by decide) ?_
        exact J36 1 _ _ _ (Or.inl ⟨rfl, hM.wdA q4 (by omega) (by omega)⟩) (by omega) (lv_sub hl [0, 1] rfl) hG
