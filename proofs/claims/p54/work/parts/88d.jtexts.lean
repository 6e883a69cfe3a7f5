/-! ===== groups of the JDK's texts: a builder, a String ===== -/
def gArrB (K : KC) (n b : Nat) (F : Int → Int) : va_W := [aB K b n F]
def gSbC (K : KC) (sb b : Nat) (n : Int) : va_W := [(sb, .inr (10, [.ref b, .int (iI 0), .int (iI 0), .int (iI n)]))]
def gSb (K : KC) (sb b cap : Nat) (n : Int) (F : Int → Int) : va_W := gSbC K sb b n ++ gArrB K cap b F
def gStOC (K : KC) (st b : Nat) : va_W := [(st, .inr (9, [.ref b, .int (iI 0), .int (iI 0), .int (iI 0)]))]
def gStO (K : KC) (st b n : Nat) (F : Int → Int) : va_W := gStOC K st b ++ gArrB K n b F
def gNewJ0 (K : KC) (a : Nat) : va_W := [(a, .inr (9, [.null, .int (iI 0), .int (iI 0), .int (iI 0)]))]
def gNewJ4 (K : KC) (a : Nat) : va_W := [(a, .inr (10, [.null, .int (iI 0), .int (iI 0), .int (iI 0)]))]
theorem dfJ0 : ∀ j, j < 4 → defaultValue (tyJ0 j) = vp_V [.null, .int (iI 0), .int (iI 0), .int (iI 0)] j := fun j h => match j, h with
  | 0, _ => rfl
  | 1, _ => rfl
  | 2, _ => rfl
  | 3, _ => rfl
  | j + 4, h => absurd h (by omega)
theorem dfJ4 : ∀ j, j < 4 → defaultValue (tyJ4 j) = vp_V [.null, .int (iI 0), .int (iI 0), .int (iI 0)] j := fun j h => match j, h with
  | 0, _ => rfl
  | 1, _ => rfl
  | 2, _ => rfl
  | 3, _ => rfl
  | j + 4, h => absurd h (by omega)
theorem OutI.congr {F G : Int → Int} {n : Int} {tx : List Int} (h : OutI F n tx) (hF : ∀ j : Int, 0 ≤ j → j < n → G j = F j) : OutI G n tx := ⟨h.1, fun j hj => by rw [hF j (by omega) (by have := h.1; omega)]; exact h.2 j hj⟩

set_option maxHeartbeats 1000000 in
set_option maxRecDepth 100000 in
theorem c_J6_stringSize_0f7a4 (l : Launch) (K : KC) (z : Int) (h0 : 0 ≤ z ∧ z ≤ 9999) : mG l yJ6_stringSize_0f7a4 wsJ6_stringSize_0f7a4 0 0 K [.int (iI z)] [] (fun (v : Value) (u : Unit) => (v = .int (iI (dgs z)))) (fun (u : Unit) => []) 0 0 := by
  refine mG_of cJ6_stringSize_0f7a4 4 (by decide) rfl (Nat.le_of_ble_eq_true rfl) ?_
  intro p e s m below meth c A ls Q S C hG hl hr hlk hin hQ
  have S : CallFix p m c cJ6_stringSize_0f7a4 4 s ([.int (iI z)] : List Value).toArray wsJ6_stringSize_0f7a4 RJ6 := S
  have hl : lv_has ls 4 [(0, .int (iI z))] := hl
  have hG : gW K A s.heap [] s.heap [] := hG
  refine g_iconst S dJ6_stringSize_0f7a4_0 ?_
  refine lv_istore_n (lv' := [(1, .int (iI 1)), (0, .int (iI z))]) S.1 S.2.1 dJ6_stringSize_0f7a4_1 rfl hl (by decide) rfl (fun ls hl => ?_)
  refine lv_iload_n S.1 S.2.1 dJ6_stringSize_0f7a4_2 rfl (lv_at hl 1 rfl) ?_
  refine g_if_lt (tgt := 11) S dJ6_stringSize_0f7a4_3 (by decide) (by omega) (fun q3 => ?_) (fun q3 => ?_)
  · skip
    omega
  · skip
    refine g_iconst S dJ6_stringSize_0f7a4_6 ?_
    refine lv_istore_n (lv' := [(1, .int (iI 0)), (0, .int (iI z))]) S.1 S.2.1 dJ6_stringSize_0f7a4_7 rfl hl (by decide) rfl (fun ls hl => ?_)
    refine lv_iload_n S.1 S.2.1 dJ6_stringSize_0f7a4_8 rfl (lv_at hl 1 rfl) ?_
    refine g_ineg S dJ6_stringSize_0f7a4_9 rfl ?_
    refine lv_istore_n (lv' := [(0, .int (iI (-z))), (1, .int (iI 0))]) S.1 S.2.1 dJ6_stringSize_0f7a4_10 rfl hl (by decide) rfl (fun ls hl => ?_)
    refine g_bipush S dJ6_stringSize_0f7a4_11 (by decide) ?_
    refine lv_istore_n (lv' := [(2, .int (iI (-10))), (0, .int (iI (-z))), (1, .int (iI 0))]) S.1 S.2.1 dJ6_stringSize_0f7a4_13 rfl hl (by decide) rfl (fun ls hl => ?_)
    refine g_iconst S dJ6_stringSize_0f7a4_14 ?_
    refine lv_istore_n (lv' := [(3, .int (iI 1)), (2, .int (iI (-10))), (0, .int (iI (-z))), (1, .int (iI 0))]) S.1 S.2.1 dJ6_stringSize_0f7a4_15 rfl hl (by decide) rfl (fun ls hl => ?_)
    refine lv_iload_n S.1 S.2.1 dJ6_stringSize_0f7a4_16 rfl (lv_at hl 0 rfl) ?_
    refine g_bipush S dJ6_stringSize_0f7a4_17 (by decide) ?_
    refine g_icmp_ge (tgt := 42) S dJ6_stringSize_0f7a4_19 (by decide) (by omega) (by omega) (fun q19 => ?_) (fun q19 => ?_)
    · skip
      exact absurd q19 (by decide)
    · skip
      refine lv_iload_n S.1 S.2.1 dJ6_stringSize_0f7a4_22 rfl (lv_at hl 2 rfl) ?_
      refine lv_iload_n S.1 S.2.1 dJ6_stringSize_0f7a4_23 rfl (lv_at hl 1 rfl) ?_
      refine g_icmp_le (tgt := 31) S dJ6_stringSize_0f7a4_24 (by decide) (by omega) (by omega) (fun q24 => ?_) (fun q24 => ?_)
      · skip
        refine g_bipush S dJ6_stringSize_0f7a4_31 (by decide) ?_
        refine lv_iload_n S.1 S.2.1 dJ6_stringSize_0f7a4_33 rfl (lv_at hl 1 rfl) ?_
        refine g_imul (z := (-100)) S dJ6_stringSize_0f7a4_34 (by decide) ?_
        refine lv_istore_n (lv' := [(2, .int (iI (-100))), (3, .int (iI 1)), (0, .int (iI (-z))), (1, .int (iI 0))]) S.1 S.2.1 dJ6_stringSize_0f7a4_35 rfl hl (by decide) rfl (fun ls hl => ?_)
        refine lv_iinc (v := iI 2) (lv' := [(3, .int (iI 2)), (2, .int (iI (-100))), (0, .int (iI (-z))), (1, .int (iI 0))]) S.1 S.2.1 dJ6_stringSize_0f7a4_36 hl (k := 1) rfl (g_iinc (by decide)) (by decide) rfl (fun ls hl => ?_)
        refine lv_goto (tgt := 16) S.1 S.2.1 dJ6_stringSize_0f7a4_39 (by decide) ?_
        refine lv_iload_n S.1 S.2.1 dJ6_stringSize_0f7a4_16 rfl (lv_at hl 0 rfl) ?_
        refine g_bipush S dJ6_stringSize_0f7a4_17 (by decide) ?_
        refine g_icmp_ge (tgt := 42) S dJ6_stringSize_0f7a4_19 (by decide) (by omega) (by omega) (fun q19 => ?_) (fun q19 => ?_)
        · skip
          exact absurd q19 (by decide)
        · skip
          refine lv_iload_n S.1 S.2.1 dJ6_stringSize_0f7a4_22 rfl (lv_at hl 2 rfl) ?_
          refine lv_iload_n S.1 S.2.1 dJ6_stringSize_0f7a4_23 rfl (lv_at hl 1 rfl) ?_
          refine g_icmp_le (tgt := 31) S dJ6_stringSize_0f7a4_24 (by decide) (by omega) (by omega) (fun q24 => ?_) (fun q24 => ?_)
          · skip
            refine g_bipush S dJ6_stringSize_0f7a4_31 (by decide) ?_
            refine lv_iload_n S.1 S.2.1 dJ6_stringSize_0f7a4_33 rfl (lv_at hl 1 rfl) ?_
            refine g_imul (z := (-1000)) S dJ6_stringSize_0f7a4_34 (by decide) ?_
            refine lv_istore_n (lv' := [(2, .int (iI (-1000))), (3, .int (iI 2)), (0, .int (iI (-z))), (1, .int (iI 0))]) S.1 S.2.1 dJ6_stringSize_0f7a4_35 rfl hl (by decide) rfl (fun ls hl => ?_)
            refine lv_iinc (v := iI 3) (lv' := [(3, .int (iI 3)), (2, .int (iI (-1000))), (0, .int (iI (-z))), (1, .int (iI 0))]) S.1 S.2.1 dJ6_stringSize_0f7a4_36 hl (k := 1) rfl (g_iinc (by decide)) (by decide) rfl (fun ls hl => ?_)
            refine lv_goto (tgt := 16) S.1 S.2.1 dJ6_stringSize_0f7a4_39 (by decide) ?_
            refine lv_iload_n S.1 S.2.1 dJ6_stringSize_0f7a4_16 rfl (lv_at hl 0 rfl) ?_
            refine g_bipush S dJ6_stringSize_0f7a4_17 (by decide) ?_
            refine g_icmp_ge (tgt := 42) S dJ6_stringSize_0f7a4_19 (by decide) (by omega) (by omega) (fun q19 => ?_) (fun q19 => ?_)
            · skip
              exact absurd q19 (by decide)
            · skip
              refine lv_iload_n S.1 S.2.1 dJ6_stringSize_0f7a4_22 rfl (lv_at hl 2 rfl) ?_
              refine lv_iload_n S.1 S.2.1 dJ6_stringSize_0f7a4_23 rfl (lv_at hl 1 rfl) ?_
              refine g_icmp_le (tgt := 31) S dJ6_stringSize_0f7a4_24 (by decide) (by omega) (by omega) (fun q24 => ?_) (fun q24 => ?_)
              · skip
                refine g_bipush S dJ6_stringSize_0f7a4_31 (by decide) ?_
                refine lv_iload_n S.1 S.2.1 dJ6_stringSize_0f7a4_33 rfl (lv_at hl 1 rfl) ?_
                refine g_imul (z := (-10000)) S dJ6_stringSize_0f7a4_34 (by decide) ?_
                refine lv_istore_n (lv' := [(2, .int (iI (-10000))), (3, .int (iI 3)), (0, .int (iI (-z))), (1, .int (iI 0))]) S.1 S.2.1 dJ6_stringSize_0f7a4_35 rfl hl (by decide) rfl (fun ls hl => ?_)
                refine lv_iinc (v := iI 4) (lv' := [(3, .int (iI 4)), (2, .int (iI (-10000))), (0, .int (iI (-z))), (1, .int (iI 0))]) S.1 S.2.1 dJ6_stringSize_0f7a4_36 hl (k := 1) rfl (g_iinc (by decide)) (by decide) rfl (fun ls hl => ?_)
                refine lv_goto (tgt := 16) S.1 S.2.1 dJ6_stringSize_0f7a4_39 (by decide) ?_
                refine lv_iload_n S.1 S.2.1 dJ6_stringSize_0f7a4_16 rfl (lv_at hl 0 rfl) ?_
                refine g_bipush S dJ6_stringSize_0f7a4_17 (by decide) ?_
                refine g_icmp_ge (tgt := 42) S dJ6_stringSize_0f7a4_19 (by decide) (by omega) (by omega) (fun q19 => ?_) (fun q19 => ?_)
                · skip
                  exact absurd q19 (by decide)
                · skip
                  refine lv_iload_n S.1 S.2.1 dJ6_stringSize_0f7a4_22 rfl (lv_at hl 2 rfl) ?_
                  refine lv_iload_n S.1 S.2.1 dJ6_stringSize_0f7a4_23 rfl (lv_at hl 1 rfl) ?_
                  refine g_icmp_le (tgt := 31) S dJ6_stringSize_0f7a4_24 (by decide) (by omega) (by omega) (fun q24 => ?_) (fun q24 => ?_)
                  · skip
                    omega
                  · skip
                    refine lv_iload_n S.1 S.2.1 dJ6_stringSize_0f7a4_27 rfl (lv_at hl 0 rfl) ?_
                    refine lv_iload_n S.1 S.2.1 dJ6_stringSize_0f7a4_28 rfl (lv_at hl 3 rfl) ?_
                    refine g_iadd (z := 4) S dJ6_stringSize_0f7a4_29 (by decide) ?_
                    have hG : gW K A s.heap [] _ _ := hG
                    exact g_iret S hr hlk hQ dJ6_stringSize_0f7a4_30 (Nat.le_of_ble_eq_true rfl) (Nat.le_of_ble_eq_true rfl) (() : Unit) (congrArg (fun z : Int => Value.int (iI z)) (by unfold dgs; (repeat' split) <;> omega)) hG
              · skip
                refine lv_iload_n S.1 S.2.1 dJ6_stringSize_0f7a4_27 rfl (lv_at hl 0 rfl) ?_
                refine lv_iload_n S.1 S.2.1 dJ6_stringSize_0f7a4_28 rfl (lv_at hl 3 rfl) ?_
                refine g_iadd (z := 3) S dJ6_stringSize_0f7a4_29 (by decide) ?_
                have hG : gW K A s.heap [] _ _ := hG
                exact g_iret S hr hlk hQ dJ6_stringSize_0f7a4_30 (Nat.le_of_ble_eq_true rfl) (Nat.le_of_ble_eq_true rfl) (() : Unit) (congrArg (fun z : Int => Value.int (iI z)) (by unfold dgs; (repeat' split) <;> omega)) hG
          · skip
            refine lv_iload_n S.1 S.2.1 dJ6_stringSize_0f7a4_27 rfl (lv_at hl 0 rfl) ?_
            refine lv_iload_n S.1 S.2.1 dJ6_stringSize_0f7a4_28 rfl (lv_at hl 3 rfl) ?_
            refine g_iadd (z := 2) S dJ6_stringSize_0f7a4_29 (by decide) ?_
            have hG : gW K A s.heap [] _ _ := hG
            exact g_iret S hr hlk hQ dJ6_stringSize_0f7a4_30 (Nat.le_of_ble_eq_true rfl) (Nat.le_of_ble_eq_true rfl) (() : Unit) (congrArg (fun z : Int => Value.int (iI z)) (by unfold dgs; (repeat' split) <;> omega)) hG
      · skip
        refine lv_iload_n S.1 S.2.1 dJ6_stringSize_0f7a4_27 rfl (lv_at hl 0 rfl) ?_
        refine lv_iload_n S.1 S.2.1 dJ6_stringSize_0f7a4_28 rfl (lv_at hl 3 rfl) ?_
        refine g_iadd (z := 1) S dJ6_stringSize_0f7a4_29 (by decide) ?_
        have hG : gW K A s.heap [] _ _ := hG
        exact g_iret S hr hlk hQ dJ6_stringSize_0f7a4_30 (Nat.le_of_ble_eq_true rfl) (Nat.le_of_ble_eq_true rfl) (() : Unit) (congrArg (fun z : Int => Value.int (iI z)) (by unfold dgs; (repeat' split) <;> omega)) hG

set_option maxHeartbeats 1000000 in
set_option maxRecDepth 100000 in
theorem c_J6_getChars_ba4f3 (l : Launch) (K : KC) (z : Int) (ix : Int) (cap : Nat) (b : Nat) (F : Int → Int) (h0 : 0 ≤ z ∧ z ≤ 9999) (h1 : dgs z ≤ ix ∧ ix ≤ (cap : Int) ∧ (cap : Int) ≤ 602) : mG l yJ6_getChars_ba4f3 wsJ6_getChars_ba4f3 0 0 K [.int (iI z), .int (iI ix), .ref b] [gArrB K cap b F] (fun (v : Value) (u : (Int → Int)) => (v = .int (iI (ix - dgs z))) ∧ (∀ j : Int, u j = if ix - dgs z ≤ j ∧ j < ix then dgt z (j - (ix - dgs z)) else F j)) (fun (u : (Int → Int)) => [gArrB K cap b u]) 0 0 := by
  refine mG_of cJ6_getChars_ba4f3 7 (by decide) rfl (Nat.le_of_ble_eq_true rfl) ?_
  intro p e s m below meth c A ls Q S C hG hl hr hlk hin hQ
  have S : CallFix p m c cJ6_getChars_ba4f3 7 s ([.int (iI z), .int (iI ix), .ref b] : List Value).toArray wsJ6_getChars_ba4f3 RJ6 := S
  have hl : lv_has ls 7 [(0, .int (iI z)), (1, .int (iI ix)), (2, .ref b)] := hl
  have hG : gW K A s.heap [gArrB K cap b F] s.heap [] := hG
  have hdb := dgs_bd z
  have hdg : (z ≥ 10 → dgs z ≥ 2) ∧ (z ≥ 100 → dgs z ≥ 3) ∧ (z ≥ 1000 → dgs z ≥ 4) := by unfold dgs; (repeat' split) <;> omega
  refine lv_iload_n S.1 S.2.1 dJ6_getChars_ba4f3_0 rfl (lv_at hl 1 rfl) ?_
  refine lv_istore (lv' := [(5, .int (iI ix)), (0, .int (iI z)), (1, .int (iI ix)), (2, .ref b)]) S.1 S.2.1 dJ6_getChars_ba4f3_1 hl (by decide) rfl (fun ls hl => ?_)
  refine lv_iload_n S.1 S.2.1 dJ6_getChars_ba4f3_3 rfl (lv_at hl 1 rfl) ?_
  refine g_if_ge (tgt := 11) S dJ6_getChars_ba4f3_4 (by decide) (by omega) (fun q4 => ?_) (fun q4 => ?_)
  · skip
    refine g_iconst S dJ6_getChars_ba4f3_11 ?_
    refine lv_istore (lv' := [(6, .int (iI 0)), (5, .int (iI ix)), (0, .int (iI z)), (1, .int (iI ix)), (2, .ref b)]) S.1 S.2.1 dJ6_getChars_ba4f3_12 hl (by decide) rfl (fun ls hl => ?_)
    refine lv_iload S.1 S.2.1 dJ6_getChars_ba4f3_14 (lv_at hl 0 rfl) ?_
    refine g_if_ne (tgt := 22) S dJ6_getChars_ba4f3_16 (by decide) (by omega) (fun q16 => ?_) (fun q16 => ?_)
    · skip
      exact absurd q16 (by decide)
    · skip
      refine lv_iload_n S.1 S.2.1 dJ6_getChars_ba4f3_19 rfl (lv_at hl 2 rfl) ?_
      refine g_ineg S dJ6_getChars_ba4f3_20 rfl ?_
      refine lv_istore_n (lv' := [(0, .int (iI (-z))), (6, .int (iI 0)), (5, .int (iI ix)), (1, .int (iI ix)), (2, .ref b)]) S.1 S.2.1 dJ6_getChars_ba4f3_21 rfl hl (by decide) rfl (fun ls hl => ?_)
      refine lv_iload_n S.1 S.2.1 dJ6_getChars_ba4f3_22 rfl (lv_at hl 0 rfl) ?_
      refine g_bipush S dJ6_getChars_ba4f3_23 (by decide) ?_
      refine g_icmp_gt (tgt := 72) S dJ6_getChars_ba4f3_25 (by decide) (by omega) (by omega) (fun q25 => ?_) (fun q25 => ?_)
      · skip
        refine lv_aload_n S.1 S.2.1 dJ6_getChars_ba4f3_72 rfl (lv_at hl 4 rfl) ?_
        refine lv_iinc (v := iI (ix + (-1))) (lv' := [(5, .int (iI (ix + (-1)))), (0, .int (iI (-z))), (6, .int (iI 0)), (1, .int (iI ix)), (2, .ref b)]) S.1 S.2.1 dJ6_getChars_ba4f3_73 hl (k := 2) rfl (g_iinc rfl) (by decide) rfl (fun ls hl => ?_)
        refine lv_iload S.1 S.2.1 dJ6_getChars_ba4f3_76 (lv_at hl 0 rfl) ?_
        refine g_gets S C hG C.1.2.2.2.2.1.2.1.1.2.1.2.1 (List.mem_of_getElem? (i := 1) rfl) dJ6_getChars_ba4f3_78 ?_
        refine lv_iload_n S.1 S.2.1 dJ6_getChars_ba4f3_81 rfl (lv_at hl 1 rfl) ?_
        refine g_ineg S dJ6_getChars_ba4f3_82 rfl ?_
        refine g_top (w := .int (iI (z))) (congrArg (fun z : Int => Value.int (iI z)) (by omega)) ?_
        refine g_dig1 (z := z) S C hG (by omega) (by omega) dJ6_getChars_ba4f3_83 ?_
        refine g_bast (gs' := [gArrB K cap b (upI F (ix + (-1)) (48 + z % 10))]) S C hG 0 rfl (by omega) (by omega) (by omega) rfl dJ6_getChars_ba4f3_84 (fun H locs hG => ?_)
        refine lv_iload_n S.1 S.2.1 dJ6_getChars_ba4f3_85 rfl (lv_at hl 1 rfl) ?_
        refine g_bipush S dJ6_getChars_ba4f3_86 (by decide) ?_
        refine g_icmp_ge (tgt := 104) S dJ6_getChars_ba4f3_88 (by decide) (by omega) (by omega) (fun q88 => ?_) (fun q88 => ?_)
        · skip
          refine lv_iload S.1 S.2.1 dJ6_getChars_ba4f3_104 (lv_at hl 2 rfl) ?_
          refine g_if_eq (tgt := 118) S dJ6_getChars_ba4f3_106 (by decide) (by omega) (fun q106 => ?_) (fun q106 => ?_)
          · skip
            refine lv_iload S.1 S.2.1 dJ6_getChars_ba4f3_118 (lv_at hl 0 rfl) ?_
            have hd9 : dgs z = 1 := by unfold dgs; (repeat' split) <;> omega
            have hG : gW K A s.heap [gArrB K cap b (upI F (ix + (-1)) (48 + z % 10))] _ _ := hG
            exact g_iret S hr hlk hQ dJ6_getChars_ba4f3_120 (Nat.le_of_ble_eq_true rfl) (Nat.le_of_ble_eq_true rfl) ((upI F (ix + (-1)) (48 + z % 10)) : (Int → Int)) ⟨(congrArg (fun z : Int => Value.int (iI z)) (by rw [hd9]; omega)), (by intro j; unfold dgt; rw [hd9]; simp only [upI]; (repeat' split) <;> omega)⟩ hG
          · skip
            exact absurd q106 (by decide)
        · skip
          refine lv_aload_n S.1 S.2.1 dJ6_getChars_ba4f3_91 rfl (lv_at hl 4 rfl) ?_
          refine lv_iinc (v := iI ((ix + (-1)) + (-1))) (lv' := [(5, .int (iI ((ix + (-1)) + (-1)))), (0, .int (iI (-z))), (6, .int (iI 0)), (1, .int (iI ix)), (2, .ref b)]) S.1 S.2.1 dJ6_getChars_ba4f3_92 hl (k := 0) rfl (g_iinc rfl) (by decide) rfl (fun ls hl => ?_)
          refine lv_iload S.1 S.2.1 dJ6_getChars_ba4f3_95 (lv_at hl 0 rfl) ?_
          refine g_gets S C hG C.1.2.2.2.2.1.2.1.1.2.1.1.1 (List.mem_of_getElem? (i := 2) rfl) dJ6_getChars_ba4f3_97 ?_
          refine lv_iload_n S.1 S.2.1 dJ6_getChars_ba4f3_100 rfl (lv_at hl 1 rfl) ?_
          refine g_ineg S dJ6_getChars_ba4f3_101 rfl ?_
          refine g_top (w := .int (iI (z))) (congrArg (fun z : Int => Value.int (iI z)) (by omega)) ?_
          refine g_dig10 (z := z) S C hG (by omega) (by omega) dJ6_getChars_ba4f3_102 ?_
          refine g_bast (gs' := [gArrB K cap b (upI (upI F (ix + (-1)) (48 + z % 10)) ((ix + (-1)) + (-1)) (48 + z / 10))]) S C hG 0 rfl (by omega) (by omega) (by omega) rfl dJ6_getChars_ba4f3_103 (fun H locs hG => ?_)
          refine lv_iload S.1 S.2.1 dJ6_getChars_ba4f3_104 (lv_at hl 2 rfl) ?_
          refine g_if_eq (tgt := 118) S dJ6_getChars_ba4f3_106 (by decide) (by omega) (fun q106 => ?_) (fun q106 => ?_)
          · skip
            refine lv_iload S.1 S.2.1 dJ6_getChars_ba4f3_118 (lv_at hl 0 rfl) ?_
            have hd9 : dgs z = 2 := by unfold dgs; (repeat' split) <;> omega
            have hG : gW K A s.heap [gArrB K cap b (upI (upI F (ix + (-1)) (48 + z % 10)) ((ix + (-1)) + (-1)) (48 + z / 10))] _ _ := hG
            exact g_iret S hr hlk hQ dJ6_getChars_ba4f3_120 (Nat.le_of_ble_eq_true rfl) (Nat.le_of_ble_eq_true rfl) ((upI (upI F (ix + (-1)) (48 + z % 10)) ((ix + (-1)) + (-1)) (48 + z / 10)) : (Int → Int)) ⟨(congrArg (fun z : Int => Value.int (iI z)) (by rw [hd9]; omega)), (by intro j; unfold dgt; rw [hd9]; simp only [upI]; (repeat' split) <;> omega)⟩ hG
          · skip
            exact absurd q106 (by decide)
      · skip
        refine lv_iload_n S.1 S.2.1 dJ6_getChars_ba4f3_28 rfl (lv_at hl 0 rfl) ?_
        refine g_bipush S dJ6_getChars_ba4f3_29 (by decide) ?_
        refine g_idivn (a := z) S dJ6_getChars_ba4f3_31 (by omega) (by omega) rfl ?_
        refine lv_istore_n (lv' := [(3, .int (iI (-(z / 100)))), (0, .int (iI (-z))), (6, .int (iI 0)), (5, .int (iI ix)), (1, .int (iI ix)), (2, .ref b)]) S.1 S.2.1 dJ6_getChars_ba4f3_32 rfl hl (by decide) rfl (fun ls hl => ?_)
        refine lv_iload_n S.1 S.2.1 dJ6_getChars_ba4f3_33 rfl (lv_at hl 0 rfl) ?_
        refine g_bipush S dJ6_getChars_ba4f3_34 (by decide) ?_
        refine g_imul S dJ6_getChars_ba4f3_36 rfl ?_
        refine lv_iload_n S.1 S.2.1 dJ6_getChars_ba4f3_37 rfl (lv_at hl 1 rfl) ?_
        refine g_isub S dJ6_getChars_ba4f3_38 rfl ?_
        refine g_top (w := .int (iI (z % 100))) (congrArg (fun z : Int => Value.int (iI z)) (by omega)) ?_
        refine lv_istore (lv' := [(4, .int (iI (z % 100))), (3, .int (iI (-(z / 100)))), (0, .int (iI (-z))), (6, .int (iI 0)), (5, .int (iI ix)), (1, .int (iI ix)), (2, .ref b)]) S.1 S.2.1 dJ6_getChars_ba4f3_39 hl (by decide) rfl (fun ls hl => ?_)
        refine lv_iload_n S.1 S.2.1 dJ6_getChars_ba4f3_41 rfl (lv_at hl 1 rfl) ?_
        refine lv_istore_n (lv' := [(0, .int (iI (-(z / 100)))), (4, .int (iI (z % 100))), (3, .int (iI (-(z / 100)))), (6, .int (iI 0)), (5, .int (iI ix)), (1, .int (iI ix)), (2, .ref b)]) S.1 S.2.1 dJ6_getChars_ba4f3_42 rfl hl (by decide) rfl (fun ls hl => ?_)
        refine lv_aload_n S.1 S.2.1 dJ6_getChars_ba4f3_43 rfl (lv_at hl 6 rfl) ?_
        refine lv_iinc (v := iI (ix + (-1))) (lv' := [(5, .int (iI (ix + (-1)))), (0, .int (iI (-(z / 100)))), (4, .int (iI (z % 100))), (3, .int (iI (-(z / 100)))), (6, .int (iI 0)), (1, .int (iI ix)), (2, .ref b)]) S.1 S.2.1 dJ6_getChars_ba4f3_44 hl (k := 4) rfl (g_iinc rfl) (by decide) rfl (fun ls hl => ?_)
        refine lv_iload S.1 S.2.1 dJ6_getChars_ba4f3_47 (lv_at hl 0 rfl) ?_
        refine g_gets S C hG C.1.2.2.2.2.1.2.1.1.2.1.2.1 (List.mem_of_getElem? (i := 1) rfl) dJ6_getChars_ba4f3_49 ?_
        refine lv_iload S.1 S.2.1 dJ6_getChars_ba4f3_52 (lv_at hl 2 rfl) ?_
        refine g_dig1 (z := z % 100) S C hG (by omega) (by omega) dJ6_getChars_ba4f3_54 ?_
        refine g_bast (gs' := [gArrB K cap b (upI F (ix + (-1)) (48 + (z % 100) % 10))]) S C hG 0 rfl (by omega) (by omega) (by omega) rfl dJ6_getChars_ba4f3_55 (fun H locs hG => ?_)
        refine lv_aload_n S.1 S.2.1 dJ6_getChars_ba4f3_56 rfl (lv_at hl 6 rfl) ?_
        refine lv_iinc (v := iI ((ix + (-1)) + (-1))) (lv' := [(5, .int (iI ((ix + (-1)) + (-1)))), (0, .int (iI (-(z / 100)))), (4, .int (iI (z % 100))), (3, .int (iI (-(z / 100)))), (6, .int (iI 0)), (1, .int (iI ix)), (2, .ref b)]) S.1 S.2.1 dJ6_getChars_ba4f3_57 hl (k := 0) rfl (g_iinc rfl) (by decide) rfl (fun ls hl => ?_)
        refine lv_iload S.1 S.2.1 dJ6_getChars_ba4f3_60 (lv_at hl 0 rfl) ?_
        refine g_gets S C hG C.1.2.2.2.2.1.2.1.1.2.1.1.1 (List.mem_of_getElem? (i := 2) rfl) dJ6_getChars_ba4f3_62 ?_
        refine lv_iload S.1 S.2.1 dJ6_getChars_ba4f3_65 (lv_at hl 2 rfl) ?_
        refine g_dig10 (z := z % 100) S C hG (by omega) (by omega) dJ6_getChars_ba4f3_67 ?_
        refine g_bast (gs' := [gArrB K cap b (upI (upI F (ix + (-1)) (48 + (z % 100) % 10)) ((ix + (-1)) + (-1)) (48 + (z % 100) / 10))]) S C hG 0 rfl (by omega) (by omega) (by omega) rfl dJ6_getChars_ba4f3_68 (fun H locs hG => ?_)
        refine lv_goto (tgt := 22) S.1 S.2.1 dJ6_getChars_ba4f3_69 (by decide) ?_
        refine lv_iload_n S.1 S.2.1 dJ6_getChars_ba4f3_22 rfl (lv_at hl 1 rfl) ?_
        refine g_bipush S dJ6_getChars_ba4f3_23 (by decide) ?_
        refine g_icmp_gt (tgt := 72) S dJ6_getChars_ba4f3_25 (by decide) (by omega) (by omega) (fun q25 => ?_) (fun q25 => ?_)
        · skip
          refine lv_aload_n S.1 S.2.1 dJ6_getChars_ba4f3_72 rfl (lv_at hl 6 rfl) ?_
          refine lv_iinc (v := iI (((ix + (-1)) + (-1)) + (-1))) (lv' := [(5, .int (iI (((ix + (-1)) + (-1)) + (-1)))), (0, .int (iI (-(z / 100)))), (4, .int (iI (z % 100))), (3, .int (iI (-(z / 100)))), (6, .int (iI 0)), (1, .int (iI ix)), (2, .ref b)]) S.1 S.2.1 dJ6_getChars_ba4f3_73 hl (k := 0) rfl (g_iinc rfl) (by decide) rfl (fun ls hl => ?_)
          refine lv_iload S.1 S.2.1 dJ6_getChars_ba4f3_76 (lv_at hl 0 rfl) ?_
          refine g_gets S C hG C.1.2.2.2.2.1.2.1.1.2.1.2.1 (List.mem_of_getElem? (i := 1) rfl) dJ6_getChars_ba4f3_78 ?_
          refine lv_iload_n S.1 S.2.1 dJ6_getChars_ba4f3_81 rfl (lv_at hl 1 rfl) ?_
          refine g_ineg S dJ6_getChars_ba4f3_82 rfl ?_
          refine g_top (w := .int (iI (z / 100))) (congrArg (fun z : Int => Value.int (iI z)) (by omega)) ?_
          refine g_dig1 (z := z / 100) S C hG (by omega) (by omega) dJ6_getChars_ba4f3_83 ?_
          refine g_bast (gs' := [gArrB K cap b (upI (upI (upI F (ix + (-1)) (48 + (z % 100) % 10)) ((ix + (-1)) + (-1)) (48 + (z % 100) / 10)) (((ix + (-1)) + (-1)) + (-1)) (48 + (z / 100) % 10))]) S C hG 0 rfl (by omega) (by omega) (by omega) rfl dJ6_getChars_ba4f3_84 (fun H locs hG => ?_)
          refine lv_iload_n S.1 S.2.1 dJ6_getChars_ba4f3_85 rfl (lv_at hl 1 rfl) ?_
          refine g_bipush S dJ6_getChars_ba4f3_86 (by decide) ?_
          refine g_icmp_ge (tgt := 104) S dJ6_getChars_ba4f3_88 (by decide) (by omega) (by omega) (fun q88 => ?_) (fun q88 => ?_)
          · skip
            refine lv_iload S.1 S.2.1 dJ6_getChars_ba4f3_104 (lv_at hl 4 rfl) ?_
            refine g_if_eq (tgt := 118) S dJ6_getChars_ba4f3_106 (by decide) (by omega) (fun q106 => ?_) (fun q106 => ?_)
            · skip
              refine lv_iload S.1 S.2.1 dJ6_getChars_ba4f3_118 (lv_at hl 0 rfl) ?_
              have hd9 : dgs z = 3 := by unfold dgs; (repeat' split) <;> omega
              have hG : gW K A s.heap [gArrB K cap b (upI (upI (upI F (ix + (-1)) (48 + (z % 100) % 10)) ((ix + (-1)) + (-1)) (48 + (z % 100) / 10)) (((ix + (-1)) + (-1)) + (-1)) (48 + (z / 100) % 10))] _ _ := hG
              exact g_iret S hr hlk hQ dJ6_getChars_ba4f3_120 (Nat.le_of_ble_eq_true rfl) (Nat.le_of_ble_eq_true rfl) ((upI (upI (upI F (ix + (-1)) (48 + (z % 100) % 10)) ((ix + (-1)) + (-1)) (48 + (z % 100) / 10)) (((ix + (-1)) + (-1)) + (-1)) (48 + (z / 100) % 10)) : (Int → Int)) ⟨(congrArg (fun z : Int => Value.int (iI z)) (by rw [hd9]; omega)), (by intro j; unfold dgt; rw [hd9]; simp only [upI]; (repeat' split) <;> omega)⟩ hG
            · skip
              exact absurd q106 (by decide)
          · skip
            refine lv_aload_n S.1 S.2.1 dJ6_getChars_ba4f3_91 rfl (lv_at hl 6 rfl) ?_
            refine lv_iinc (v := iI ((((ix + (-1)) + (-1)) + (-1)) + (-1))) (lv' := [(5, .int (iI ((((ix + (-1)) + (-1)) + (-1)) + (-1)))), (0, .int (iI (-(z / 100)))), (4, .int (iI (z % 100))), (3, .int (iI (-(z / 100)))), (6, .int (iI 0)), (1, .int (iI ix)), (2, .ref b)]) S.1 S.2.1 dJ6_getChars_ba4f3_92 hl (k := 0) rfl (g_iinc rfl) (by decide) rfl (fun ls hl => ?_)
            refine lv_iload S.1 S.2.1 dJ6_getChars_ba4f3_95 (lv_at hl 0 rfl) ?_
            refine g_gets S C hG C.1.2.2.2.2.1.2.1.1.2.1.1.1 (List.mem_of_getElem? (i := 2) rfl) dJ6_getChars_ba4f3_97 ?_
            refine lv_iload_n S.1 S.2.1 dJ6_getChars_ba4f3_100 rfl (lv_at hl 1 rfl) ?_
            refine g_ineg S dJ6_getChars_ba4f3_101 rfl ?_
            refine g_top (w := .int (iI (z / 100))) (congrArg (fun z : Int => Value.int (iI z)) (by omega)) ?_
            refine g_dig10 (z := z / 100) S C hG (by omega) (by omega) dJ6_getChars_ba4f3_102 ?_
            refine g_bast (gs' := [gArrB K cap b (upI (upI (upI (upI F (ix + (-1)) (48 + (z % 100) % 10)) ((ix + (-1)) + (-1)) (48 + (z % 100) / 10)) (((ix + (-1)) + (-1)) + (-1)) (48 + (z / 100) % 10)) ((((ix + (-1)) + (-1)) + (-1)) + (-1)) (48 + (z / 100) / 10))]) S C hG 0 rfl (by omega) (by omega) (by omega) rfl dJ6_getChars_ba4f3_103 (fun H locs hG => ?_)
            refine lv_iload S.1 S.2.1 dJ6_getChars_ba4f3_104 (lv_at hl 4 rfl) ?_
            refine g_if_eq (tgt := 118) S dJ6_getChars_ba4f3_106 (by decide) (by omega) (fun q106 => ?_) (fun q106 => ?_)
            · skip
              refine lv_iload S.1 S.2.1 dJ6_getChars_ba4f3_118 (lv_at hl 0 rfl) ?_
              have hd9 : dgs z = 4 := by unfold dgs; (repeat' split) <;> omega
              have hG : gW K A s.heap [gArrB K cap b (upI (upI (upI (upI F (ix + (-1)) (48 + (z % 100) % 10)) ((ix + (-1)) + (-1)) (48 + (z % 100) / 10)) (((ix + (-1)) + (-1)) + (-1)) (48 + (z / 100) % 10)) ((((ix + (-1)) + (-1)) + (-1)) + (-1)) (48 + (z / 100) / 10))] _ _ := hG
              exact g_iret S hr hlk hQ dJ6_getChars_ba4f3_120 (Nat.le_of_ble_eq_true rfl) (Nat.le_of_ble_eq_true rfl) ((upI (upI (upI (upI F (ix + (-1)) (48 + (z % 100) % 10)) ((ix + (-1)) + (-1)) (48 + (z % 100) / 10)) (((ix + (-1)) + (-1)) + (-1)) (48 + (z / 100) % 10)) ((((ix + (-1)) + (-1)) + (-1)) + (-1)) (48 + (z / 100) / 10)) : (Int → Int)) ⟨(congrArg (fun z : Int => Value.int (iI z)) (by rw [hd9]; omega)), (by intro j; unfold dgt; rw [hd9]; simp only [upI]; (repeat' split) <;> omega)⟩ hG
            · skip
              exact absurd q106 (by decide)
        · skip
          omega
  · skip
    omega

set_option maxHeartbeats 1000000 in
set_option maxRecDepth 100000 in
theorem c_J5_init_d00df (l : Launch) (K : KC) (sb : Nat) : mV l yJ5_init_d00df wsJ5_init_d00df 1 24 K [.ref sb, .int (iI 16)] [gNewJ4 K sb] (fun (u : Nat) => True) (fun (u : Nat) => [gSb K sb u 16 0 (fun _ : Int => 0)]) 1 16 := by
  refine mV_of cJ5_init_d00df 2 (by decide) rfl (Nat.le_of_ble_eq_true rfl) ?_
  intro p e s m below meth c A ls Q S C hG hl hr hlk hin hQ
  have S : CallFix p m c cJ5_init_d00df 2 s ([.ref sb, .int (iI 16)] : List Value).toArray wsJ5_init_d00df RJ5 := S
  have iJ40 : ∀ w ∈ wsJ40, w ∈ wsJ5_init_d00df := fun _ h => List.mem_cons_of_mem _ (List.mem_append_right _ (h))
  have hl : lv_has ls 2 [(0, .ref sb), (1, .int (iI 16))] := hl
  have hG : gW K A s.heap [gNewJ4 K sb] s.heap [] := hG
  refine lv_aload_n S.1 S.2.1 dJ5_init_d00df_0 rfl (lv_at hl 0 rfl) ?_
  refine W.objInit S.1 S.2.1 S.2.2.2.1 (S.2.2.2.2 _ (List.mem_of_getElem? (i := 1) rfl)) (S.2.2.2.2 _ (List.mem_of_getElem? (i := 2) rfl)) (S.2.2.2.2 _ (List.mem_of_getElem? (i := 3) rfl)) rfl (by rw [S.2.2.1]; exact hl.1) rfl dJ5_init_d00df_1 (Nat.le_of_ble_eq_true rfl) (Nat.le_of_ble_eq_true rfl) ?_
  refine W.eq (g2 := F0 m 4 ls []) rfl ?_
  refine g_gets S C hG C.1.2.2.2.2.1.2.2.1 (List.mem_of_getElem? (i := 4) rfl) dJ5_init_d00df_4 ?_
  refine g_top (w := .int (iI 1)) rfl ?_
  refine g_if_eq (tgt := 25) S dJ5_init_d00df_7 (by decide) (by omega) (fun q7 => ?_) (fun q7 => ?_)
  · skip
    exact absurd q7 (by decide)
  · skip
    refine lv_aload_n S.1 S.2.1 dJ5_init_d00df_10 rfl (lv_at hl 0 rfl) ?_
    refine lv_iload_n S.1 S.2.1 dJ5_init_d00df_11 rfl (lv_at hl 1 rfl) ?_
    refine g_newa (gs' := fun nw12 => [gNewJ4 K sb, [aB K nw12 16 (fun _ : Int => 0)]]) (a0 := (16, .inl (fun j : Nat => bB ((fun _ : Int => 0) (j : Int))))) S C hG (ty := .byte) rfl (List.mem_of_getElem? (i := 5) rfl) 1 rfl 16 rfl (ha_b 16) (Nat.le_of_ble_eq_true rfl) (Nat.le_of_ble_eq_true rfl) (Nat.le_of_ble_eq_true rfl) (Nat.le_of_ble_eq_true rfl) (fun _ => rfl) dJ5_init_d00df_12 (fun nw12 H hG => ?_)
    refine g_put (gs' := [[(sb, .inr (10, [.ref nw12, .int (iI 0), .int (iI 0), .int (iI 0)]))], [aB K nw12 16 (fun _ : Int => 0)]]) S C hG iJ40 tyJ4 tyJ4_ok nmJ4 0 rfl rfl 0 (by decide) (List.mem_of_getElem? (i := 6) rfl) rfl rfl rfl (Nat.le_of_ble_eq_true rfl) rfl dJ5_init_d00df_14 (fun H locs hG => ?_)
    refine lv_aload_n S.1 S.2.1 dJ5_init_d00df_17 rfl (lv_at hl 0 rfl) ?_
    refine g_iconst S dJ5_init_d00df_18 ?_
    refine g_put (gs' := [[(sb, .inr (10, [.ref nw12, .int (iI 0), .int (iI 0), .int (iI 0)]))], [aB K nw12 16 (fun _ : Int => 0)]]) S C hG iJ40 tyJ4 tyJ4_ok nmJ4 0 rfl rfl 1 (by decide) (List.mem_of_getElem? (i := 7) rfl) rfl rfl rfl (Nat.le_of_ble_eq_true rfl) rfl dJ5_init_d00df_19 (fun H locs hG => ?_)
    refine lv_goto (tgt := 38) S.1 S.2.1 dJ5_init_d00df_22 (by decide) ?_
    have hG : gW K A s.heap [gSb K sb nw12 16 0 (fun _ : Int => 0)] _ _ := hG
    exact g_vret S hr hlk hQ dJ5_init_d00df_38 (Nat.le_of_ble_eq_true rfl) (Nat.le_of_ble_eq_true rfl) ((nw12) : Nat) trivial hG

set_option maxHeartbeats 1000000 in
set_option maxRecDepth 100000 in
theorem c_J4_init_da8c8 (l : Launch) (K : KC) (sb : Nat) : mV l yJ4_init_da8c8 wsJ4_init_da8c8 2 45 K [.ref sb] [gNewJ4 K sb] (fun (u : Nat) => True) (fun (u : Nat) => [gSb K sb u 16 0 (fun _ : Int => 0)]) 1 16 := by
  refine mV_of cJ4_init_da8c8 1 (by decide) rfl (Nat.le_of_ble_eq_true rfl) ?_
  intro p e s m below meth c A ls Q S C hG hl hr hlk hin hQ
  have S : CallFix p m c cJ4_init_da8c8 1 s ([.ref sb] : List Value).toArray wsJ4_init_da8c8 RJ4 := S
  have iJ40 : ∀ w ∈ wsJ40, w ∈ wsJ4_init_da8c8 := fun _ h => List.mem_cons_of_mem _ (List.mem_append_right _ (h))
  have hl : lv_has ls 1 [(0, .ref sb)] := hl
  have hG : gW K A s.heap [gNewJ4 K sb] s.heap [] := hG
  refine lv_aload_n S.1 S.2.1 dJ4_init_da8c8_0 rfl (lv_at hl 0 rfl) ?_
  refine g_bipush S dJ4_init_da8c8_1 (by decide) ?_
  refine g_invI (As := [.int (iI 16)]) (rest := []) (gs' := (fun u : Nat => [gSb K sb u 16 0 (fun _ : Int => 0)])) S C hG [0] (c_J5_init_d00df l K sb) rfl rfl (cwI 1 S.2.2.2.2 gJ4_init_da8c8_J5_init_d00df rfl rfl rfl (S.2.2.2.2 _ (List.mem_of_getElem? (i := 3) rfl)) (S.2.2.2.2 _ (List.mem_of_getElem? (i := 1) rfl)) (S.2.2.2.2 _ (List.mem_of_getElem? (i := 2) rfl)) rfl (by decide +kernel) ⟨Nat.le_of_ble_eq_true rfl, Nat.le_of_ble_eq_true rfl⟩) rfl hl.1 rfl (Nat.le_of_ble_eq_true rfl) dJ4_init_da8c8_3 ⟨Nat.le_of_ble_eq_true rfl, Nat.le_of_ble_eq_true rfl⟩ (fun _ => Nat.le_of_ble_eq_true rfl) (fun _ => rfl) (fun u H locs hp hG => ?_)
  obtain ⟨b2_3, rfl⟩ : ∃ z, z = u := ⟨_, rfl⟩
  have hG : gW K A s.heap [gSb K sb b2_3 16 0 (fun _ : Int => 0)] _ _ := hG
  have hG : gW K A s.heap [gSb K sb b2_3 16 0 (fun _ : Int => 0)] _ _ := hG
  exact g_vret S hr hlk hQ dJ4_init_da8c8_6 (Nat.le_of_ble_eq_true rfl) (Nat.le_of_ble_eq_true rfl) ((b2_3) : Nat) trivial hG

set_option maxHeartbeats 1000000 in
set_option maxRecDepth 100000 in
theorem c_J5_isLatin1_aae02 (l : Launch) (K : KC) (sb : Nat) (b : Nat) (n : Int) : mG l yJ5_isLatin1_aae02 wsJ5_isLatin1_aae02 0 0 K [.ref sb] [gSbC K sb b n] (fun (v : Value) (u : Unit) => (v = .int (iI 1))) (fun (u : Unit) => [gSbC K sb b n]) 0 0 := by
  refine mG_of cJ5_isLatin1_aae02 1 (by decide) rfl (Nat.le_of_ble_eq_true rfl) ?_
  intro p e s m below meth c A ls Q S C hG hl hr hlk hin hQ
  have S : CallFix p m c cJ5_isLatin1_aae02 1 s ([.ref sb] : List Value).toArray wsJ5_isLatin1_aae02 RJ5 := S
  have iJ40 : ∀ w ∈ wsJ40, w ∈ wsJ5_isLatin1_aae02 := fun _ h => List.mem_cons_of_mem _ (List.mem_append_right _ (h))
  have hl : lv_has ls 1 [(0, .ref sb)] := hl
  have hG : gW K A s.heap [gSbC K sb b n] s.heap [] := hG
  refine g_gets S C hG C.1.2.2.2.2.1.2.2.1 (List.mem_of_getElem? (i := 1) rfl) dJ5_isLatin1_aae02_0 ?_
  refine g_top (w := .int (iI 1)) rfl ?_
  refine g_if_eq (tgt := 17) S dJ5_isLatin1_aae02_3 (by decide) (by omega) (fun q3 => ?_) (fun q3 => ?_)
  · skip
    exact absurd q3 (by decide)
  · skip
    refine lv_aload_n S.1 S.2.1 dJ5_isLatin1_aae02_6 rfl (lv_at hl 0 rfl) ?_
    refine g_get S C hG iJ40 0 rfl rfl 1 (by decide) (List.mem_of_getElem? (i := 2) rfl) rfl dJ5_isLatin1_aae02_7 ?_
    refine g_if_ne (tgt := 17) S dJ5_isLatin1_aae02_10 (by decide) (by omega) (fun q10 => ?_) (fun q10 => ?_)
    · skip
      exact absurd q10 (by decide)
    · skip
      refine g_iconst S dJ5_isLatin1_aae02_13 ?_
      refine lv_goto (tgt := 18) S.1 S.2.1 dJ5_isLatin1_aae02_14 (by decide) ?_
      have hG : gW K A s.heap [gSbC K sb b n] _ _ := hG
      exact g_zret S hr hlk hQ (Or.inr rfl) dJ5_isLatin1_aae02_18 (Nat.le_of_ble_eq_true rfl) (Nat.le_of_ble_eq_true rfl) (() : Unit) rfl hG

set_option maxHeartbeats 1000000 in
set_option maxRecDepth 100000 in
theorem c_J5_getValue_6d5f1 (l : Launch) (K : KC) (sb : Nat) (b : Nat) (n : Int) : mG l yJ5_getValue_6d5f1 wsJ5_getValue_6d5f1 0 0 K [.ref sb] [gSbC K sb b n] (fun (v : Value) (u : Unit) => (v = .ref b)) (fun (u : Unit) => [gSbC K sb b n]) 0 0 := by
  refine mG_of cJ5_getValue_6d5f1 1 (by decide) rfl (Nat.le_of_ble_eq_true rfl) ?_
  intro p e s m below meth c A ls Q S C hG hl hr hlk hin hQ
  have S : CallFix p m c cJ5_getValue_6d5f1 1 s ([.ref sb] : List Value).toArray wsJ5_getValue_6d5f1 RJ5 := S
  have iJ40 : ∀ w ∈ wsJ40, w ∈ wsJ5_getValue_6d5f1 := fun _ h => List.mem_cons_of_mem _ (List.mem_append_right _ (h))
  have hl : lv_has ls 1 [(0, .ref sb)] := hl
  have hG : gW K A s.heap [gSbC K sb b n] s.heap [] := hG
  refine lv_aload_n S.1 S.2.1 dJ5_getValue_6d5f1_0 rfl (lv_at hl 0 rfl) ?_
  refine g_get S C hG iJ40 0 rfl rfl 0 (by decide) (List.mem_of_getElem? (i := 1) rfl) rfl dJ5_getValue_6d5f1_1 ?_
  have hG : gW K A s.heap [gSbC K sb b n] _ _ := hG
  exact g_aretA S hr hlk hQ (Or.inr ⟨_, rfl⟩) dJ5_getValue_6d5f1_4 (Nat.le_of_ble_eq_true rfl) (Nat.le_of_ble_eq_true rfl) (() : Unit) rfl hG

set_option maxHeartbeats 1000000 in
set_option maxRecDepth 100000 in
theorem c_J5_length_8abf5 (l : Launch) (K : KC) (sb : Nat) (b : Nat) (n : Int) : mG l yJ5_length_8abf5 wsJ5_length_8abf5 0 0 K [.ref sb] [gSbC K sb b n] (fun (v : Value) (u : Unit) => (v = .int (iI n))) (fun (u : Unit) => [gSbC K sb b n]) 0 0 := by
  refine mG_of cJ5_length_8abf5 1 (by decide) rfl (Nat.le_of_ble_eq_true rfl) ?_
  intro p e s m below meth c A ls Q S C hG hl hr hlk hin hQ
  have S : CallFix p m c cJ5_length_8abf5 1 s ([.ref sb] : List Value).toArray wsJ5_length_8abf5 RJ5 := S
  have iJ40 : ∀ w ∈ wsJ40, w ∈ wsJ5_length_8abf5 := fun _ h => List.mem_cons_of_mem _ (List.mem_append_right _ (h))
  have hl : lv_has ls 1 [(0, .ref sb)] := hl
  have hG : gW K A s.heap [gSbC K sb b n] s.heap [] := hG
  refine lv_aload_n S.1 S.2.1 dJ5_length_8abf5_0 rfl (lv_at hl 0 rfl) ?_
  refine g_get S C hG iJ40 0 rfl rfl 3 (by decide) (List.mem_of_getElem? (i := 1) rfl) rfl dJ5_length_8abf5_1 ?_
  have hG : gW K A s.heap [gSbC K sb b n] _ _ := hG
  exact g_iret S hr hlk hQ dJ5_length_8abf5_4 (Nat.le_of_ble_eq_true rfl) (Nat.le_of_ble_eq_true rfl) (() : Unit) rfl hG

set_option maxHeartbeats 1000000 in
set_option maxRecDepth 100000 in
theorem c_J4_length_8abf5 (l : Launch) (K : KC) (sb : Nat) (b : Nat) (n : Int) : mG l yJ4_length_8abf5 wsJ4_length_8abf5 1 20 K [.ref sb] [gSbC K sb b n] (fun (v : Value) (u : Unit) => (v = .int (iI n))) (fun (u : Unit) => [gSbC K sb b n]) 0 0 := by
  refine mG_of cJ4_length_8abf5 1 (by decide) rfl (Nat.le_of_ble_eq_true rfl) ?_
  intro p e s m below meth c A ls Q S C hG hl hr hlk hin hQ
  have S : CallFix p m c cJ4_length_8abf5 1 s ([.ref sb] : List Value).toArray wsJ4_length_8abf5 RJ4 := S
  have iJ40 : ∀ w ∈ wsJ40, w ∈ wsJ4_length_8abf5 := fun _ h => List.mem_cons_of_mem _ (List.mem_append_right _ (h))
  have hl : lv_has ls 1 [(0, .ref sb)] := hl
  have hG : gW K A s.heap [gSbC K sb b n] s.heap [] := hG
  refine lv_aload_n S.1 S.2.1 dJ4_length_8abf5_0 rfl (lv_at hl 0 rfl) ?_
  refine g_invSU (As := []) (rest := []) (gs' := (fun u : Unit => [gSbC K sb b n])) S C hG [0] (c_J5_length_8abf5 l K sb b n) rfl rfl 0 rfl rfl (va_cwSU 0 S.2.2.2.2 gJ4_length_8abf5_J5_length_8abf5_s343 rfl rfl rfl (by decide +kernel) ⟨Nat.le_of_ble_eq_true rfl, Nat.le_of_ble_eq_true rfl⟩) rfl hl.1 rfl (Nat.le_of_ble_eq_true rfl) dJ4_length_8abf5_1 ⟨Nat.le_of_ble_eq_true rfl, Nat.le_of_ble_eq_true rfl⟩ (fun _ => Nat.le_of_ble_eq_true rfl) (fun _ => rfl) (fun v u H locs hp hG => ?_)
  subst hp
  have hG : gW K A s.heap [gSbC K sb b n] _ _ := hG
  exact g_iret S hr hlk hQ dJ4_length_8abf5_4 (Nat.le_of_ble_eq_true rfl) (Nat.le_of_ble_eq_true rfl) (() : Unit) rfl hG

set_option maxHeartbeats 1000000 in
set_option maxRecDepth 100000 in
theorem c_J8_newLength_cabcc (l : Launch) (K : KC) (a1 : Int) (a2 : Int) (a3 : Int) (h0 : 0 ≤ a1 ∧ a1 ≤ 602) (h1 : 1 ≤ a2 ∧ a2 ≤ 602) (h2 : 0 ≤ a3 ∧ a3 ≤ 1204) : mG l yJ8_newLength_cabcc wsJ8_newLength_cabcc 1 24 K [.int (iI a1), .int (iI a2), .int (iI a3)] [] (fun (v : Value) (u : Unit) => (v = .int (iI (a1 + max a2 a3)))) (fun (u : Unit) => []) 0 0 := by
  refine mG_of cJ8_newLength_cabcc 4 (by decide) rfl (Nat.le_of_ble_eq_true rfl) ?_
  intro p e s m below meth c A ls Q S C hG hl hr hlk hin hQ
  have S : CallFix p m c cJ8_newLength_cabcc 4 s ([.int (iI a1), .int (iI a2), .int (iI a3)] : List Value).toArray wsJ8_newLength_cabcc RJ8 := S
  have hl : lv_has ls 4 [(0, .int (iI a1)), (1, .int (iI a2)), (2, .int (iI a3))] := hl
  have hG : gW K A s.heap [] s.heap [] := hG
  refine lv_iload_n S.1 S.2.1 dJ8_newLength_cabcc_0 rfl (lv_at hl 0 rfl) ?_
  refine lv_iload_n S.1 S.2.1 dJ8_newLength_cabcc_1 rfl (lv_at hl 1 rfl) ?_
  refine lv_iload_n S.1 S.2.1 dJ8_newLength_cabcc_2 rfl (lv_at hl 2 rfl) ?_
  refine va_mmax S.1 S.2.1 (by rw [S.2.2.1]; exact hl.1.symm) S.2.2.2.1 (S.2.2.2.2 _ (List.mem_of_getElem? (i := 1) rfl)) (S.2.2.2.2 _ (List.mem_of_getElem? (i := 2) rfl)) (S.2.2.2.2 _ (List.mem_of_getElem? (i := 3) rfl)) (S.2.2.2.2 _ (List.mem_of_getElem? (i := 4) rfl)) (Nat.le_of_ble_eq_true rfl) (Nat.le_of_ble_eq_true rfl) (Nat.le_of_ble_eq_true rfl) (Nat.le_of_ble_eq_true rfl) dJ8_newLength_cabcc_3 ?_
  refine g_top (w := .int (iI (max a2 a3))) (imax_eq (by omega) (by omega)) ?_
  refine g_iadd S dJ8_newLength_cabcc_6 rfl ?_
  refine lv_istore_n (lv' := [(3, .int (iI (a1 + (max a2 a3)))), (0, .int (iI a1)), (1, .int (iI a2)), (2, .int (iI a3))]) S.1 S.2.1 dJ8_newLength_cabcc_7 rfl hl (by decide) rfl (fun ls hl => ?_)
  refine g_iconst S dJ8_newLength_cabcc_8 ?_
  refine lv_iload_n S.1 S.2.1 dJ8_newLength_cabcc_9 rfl (lv_at hl 0 rfl) ?_
  refine g_icmp_ge (tgt := 21) S dJ8_newLength_cabcc_10 (by decide) (by omega) (by omega) (fun q10 => ?_) (fun q10 => ?_)
  · skip
    omega
  · skip
    refine lv_iload_n S.1 S.2.1 dJ8_newLength_cabcc_13 rfl (lv_at hl 0 rfl) ?_
    refine g_ldc (z := 2147483639) S dJ8_newLength_cabcc_14 (List.mem_of_getElem? (i := 5) rfl) rfl ?_
    refine g_icmp_gt (tgt := 21) S dJ8_newLength_cabcc_16 (by decide) (by omega) (by omega) (fun q16 => ?_) (fun q16 => ?_)
    · skip
      omega
    · skip
      refine lv_iload_n S.1 S.2.1 dJ8_newLength_cabcc_19 rfl (lv_at hl 0 rfl) ?_
      have hG : gW K A s.heap [] _ _ := hG
      exact g_iret S hr hlk hQ dJ8_newLength_cabcc_20 (Nat.le_of_ble_eq_true rfl) (Nat.le_of_ble_eq_true rfl) (() : Unit) (congrArg (fun z : Int => Value.int (iI z)) (by first | rfl | omega)) hG

set_option maxHeartbeats 1000000 in
set_option maxRecDepth 100000 in
theorem c_J5_newCapacity_0f7a4 (l : Launch) (K : KC) (sb : Nat) (b : Nat) (cap : Nat) (n : Int) (F : Int → Int) (mn : Int) (hc : (cap : Int) ≤ 602) (hm : (cap : Int) < mn ∧ mn ≤ 300) : mG l yJ5_newCapacity_0f7a4 wsJ5_newCapacity_0f7a4 2 47 K [.ref sb, .int (iI mn)] [gSb K sb b cap n F] (fun (v : Value) (u : Unit) => (v = .int (iI ((cap : Int) + max (mn - (cap : Int)) ((cap : Int) + 2))))) (fun (u : Unit) => [gSb K sb b cap n F]) 0 0 := by
  refine mG_of cJ5_newCapacity_0f7a4 6 (by decide) rfl (Nat.le_of_ble_eq_true rfl) ?_
  intro p e s m below meth c A ls Q S C hG hl hr hlk hin hQ
  have S : CallFix p m c cJ5_newCapacity_0f7a4 6 s ([.ref sb, .int (iI mn)] : List Value).toArray wsJ5_newCapacity_0f7a4 RJ5 := S
  have iJ40 : ∀ w ∈ wsJ40, w ∈ wsJ5_newCapacity_0f7a4 := fun _ h => List.mem_cons_of_mem _ (List.mem_append_right _ (h))
  have hl : lv_has ls 6 [(0, .ref sb), (1, .int (iI mn))] := hl
  have hG : gW K A s.heap [gSb K sb b cap n F] s.heap [] := hG
  refine lv_aload_n S.1 S.2.1 dJ5_newCapacity_0f7a4_0 rfl (lv_at hl 0 rfl) ?_
  refine g_get S C hG iJ40 0 rfl rfl 0 (by decide) (List.mem_of_getElem? (i := 1) rfl) rfl dJ5_newCapacity_0f7a4_1 ?_
  refine g_alen (z := (cap : Int)) S C hG 1 1 rfl rfl rfl dJ5_newCapacity_0f7a4_4 ?_
  refine lv_istore_n (lv' := [(2, .int (iI (cap : Int))), (0, .ref sb), (1, .int (iI mn))]) S.1 S.2.1 dJ5_newCapacity_0f7a4_5 rfl hl (by decide) rfl (fun ls hl => ?_)
  refine lv_iload_n S.1 S.2.1 dJ5_newCapacity_0f7a4_6 rfl (lv_at hl 2 rfl) ?_
  refine lv_aload_n S.1 S.2.1 dJ5_newCapacity_0f7a4_7 rfl (lv_at hl 1 rfl) ?_
  refine g_get S C hG iJ40 0 rfl rfl 1 (by decide) (List.mem_of_getElem? (i := 2) rfl) rfl dJ5_newCapacity_0f7a4_8 ?_
  refine g_shl0 S dJ5_newCapacity_0f7a4_11 ?_
  refine lv_istore_n (lv' := [(3, .int (iI mn)), (2, .int (iI (cap : Int))), (0, .ref sb), (1, .int (iI mn))]) S.1 S.2.1 dJ5_newCapacity_0f7a4_12 rfl hl (by decide) rfl (fun ls hl => ?_)
  refine lv_iload_n S.1 S.2.1 dJ5_newCapacity_0f7a4_13 rfl (lv_at hl 0 rfl) ?_
  refine lv_iload_n S.1 S.2.1 dJ5_newCapacity_0f7a4_14 rfl (lv_at hl 1 rfl) ?_
  refine g_isub S dJ5_newCapacity_0f7a4_15 rfl ?_
  refine lv_istore (lv' := [(4, .int (iI (mn - (cap : Int)))), (3, .int (iI mn)), (2, .int (iI (cap : Int))), (0, .ref sb), (1, .int (iI mn))]) S.1 S.2.1 dJ5_newCapacity_0f7a4_16 hl (by decide) rfl (fun ls hl => ?_)
  refine lv_iload_n S.1 S.2.1 dJ5_newCapacity_0f7a4_18 rfl (lv_at hl 2 rfl) ?_
  refine lv_iload S.1 S.2.1 dJ5_newCapacity_0f7a4_19 (lv_at hl 0 rfl) ?_
  refine lv_iload_n S.1 S.2.1 dJ5_newCapacity_0f7a4_21 rfl (lv_at hl 2 rfl) ?_
  refine g_iconst S dJ5_newCapacity_0f7a4_22 ?_
  refine lv_aload_n S.1 S.2.1 dJ5_newCapacity_0f7a4_23 rfl (lv_at hl 3 rfl) ?_
  refine g_get S C hG iJ40 0 rfl rfl 1 (by decide) (List.mem_of_getElem? (i := 2) rfl) rfl dJ5_newCapacity_0f7a4_24 ?_
  refine g_shl0 S dJ5_newCapacity_0f7a4_27 ?_
  refine g_iadd S dJ5_newCapacity_0f7a4_28 rfl ?_
  refine g_invS (As := [.int (iI (cap : Int)), .int (iI (mn - (cap : Int))), .int (iI ((cap : Int) + 2))]) (rest := []) (gs' := (fun u : Unit => [gSb K sb b cap n F])) S C hG [] (c_J8_newLength_cabcc l K (cap : Int) (mn - (cap : Int)) ((cap : Int) + 2) (by omega) (by omega) (by omega)) rfl rfl (va_cwS 3 S.2.2.2.2 gJ5_newCapacity_0f7a4_J8_newLength_cabcc rfl rfl rfl (by decide +kernel) ⟨Nat.le_of_ble_eq_true rfl, Nat.le_of_ble_eq_true rfl⟩) rfl hl.1 rfl (Nat.le_of_ble_eq_true rfl) dJ5_newCapacity_0f7a4_29 ⟨Nat.le_of_ble_eq_true rfl, Nat.le_of_ble_eq_true rfl⟩ (fun _ => Nat.le_of_ble_eq_true rfl) (fun _ => rfl) (fun v u H locs hp hG => ?_)
  subst hp
  refine lv_istore (lv' := [(5, .int (iI ((cap : Int) + max (mn - (cap : Int)) ((cap : Int) + 2)))), (4, .int (iI (mn - (cap : Int)))), (3, .int (iI mn)), (2, .int (iI (cap : Int))), (0, .ref sb), (1, .int (iI mn))]) S.1 S.2.1 dJ5_newCapacity_0f7a4_32 hl (by decide) rfl (fun ls hl => ?_)
  refine lv_iload S.1 S.2.1 dJ5_newCapacity_0f7a4_34 (lv_at hl 0 rfl) ?_
  refine g_ldc (z := 2147483647) S dJ5_newCapacity_0f7a4_36 (List.mem_of_getElem? (i := 3) rfl) rfl ?_
  refine g_icmp_ne (tgt := 51) S dJ5_newCapacity_0f7a4_38 (by decide) (by omega) (by omega) (fun q38 => ?_) (fun q38 => ?_)
  · skip
    refine lv_iload S.1 S.2.1 dJ5_newCapacity_0f7a4_51 (lv_at hl 0 rfl) ?_
    refine lv_aload_n S.1 S.2.1 dJ5_newCapacity_0f7a4_53 rfl (lv_at hl 4 rfl) ?_
    refine g_get S C hG iJ40 0 rfl rfl 1 (by decide) (List.mem_of_getElem? (i := 2) rfl) rfl dJ5_newCapacity_0f7a4_54 ?_
    refine g_shr0 S dJ5_newCapacity_0f7a4_57 ?_
    have hG : gW K A s.heap [gSb K sb b cap n F] _ _ := hG
    exact g_iret S hr hlk hQ dJ5_newCapacity_0f7a4_58 (Nat.le_of_ble_eq_true rfl) (Nat.le_of_ble_eq_true rfl) (() : Unit) rfl hG
  · skip
    omega

set_option maxHeartbeats 1000000 in
set_option maxRecDepth 100000 in
theorem c_J7_copyOf_9075b (l : Launch) (K : KC) (b : Nat) (cap : Nat) (F : Int → Int) (mn : Int) (hm : (cap : Int) < mn ∧ mn ≤ 602) : mG l yJ7_copyOf_9075b wsJ7_copyOf_9075b 1 60 K [.ref b, .int (iI mn)] [gArrB K cap b F] (fun (v : Value) (u : Nat × Nat) => (v = .ref u.1) ∧ ((u.2 : Int) = mn)) (fun (u : Nat × Nat) => [gArrB K cap b F, gArrB K u.2 u.1 (cpyI F (fun _ : Int => 0) (cap : Int))]) 1 640 := by
  refine mG_of cJ7_copyOf_9075b 3 (by decide) rfl (Nat.le_of_ble_eq_true rfl) ?_
  intro p e s m below meth c A ls Q S C hG hl hr hlk hin hQ
  have S : CallFix p m c cJ7_copyOf_9075b 3 s ([.ref b, .int (iI mn)] : List Value).toArray wsJ7_copyOf_9075b RJ7 := S
  have hl : lv_has ls 3 [(0, .ref b), (1, .int (iI mn))] := hl
  have hG : gW K A s.heap [gArrB K cap b F] s.heap [] := hG
  refine lv_iload_n S.1 S.2.1 dJ7_copyOf_9075b_0 rfl (lv_at hl 1 rfl) ?_
  refine lv_aload_n S.1 S.2.1 dJ7_copyOf_9075b_1 rfl (lv_at hl 0 rfl) ?_
  refine g_alen (z := (cap : Int)) S C hG 0 1 rfl rfl rfl dJ7_copyOf_9075b_2 ?_
  refine g_icmp_ne (tgt := 14) S dJ7_copyOf_9075b_3 (by decide) (by omega) (by omega) (fun q3 => ?_) (fun q3 => ?_)
  · skip
    refine lv_iload_n S.1 S.2.1 dJ7_copyOf_9075b_14 rfl (lv_at hl 1 rfl) ?_
    obtain ⟨N15, eN15⟩ : ∃ k9 : Nat, mn = (k9 : Int) := ⟨(mn).toNat, by omega⟩
    refine g_newa (gs' := fun nw15 => [gArrB K cap b F, gArrB K N15 nw15 (fun _ : Int => 0)]) (a0 := (N15, .inl (fun j : Nat => bB ((fun _ : Int => 0) (j : Int))))) S C hG (ty := .byte) rfl (List.mem_of_getElem? (i := 7) rfl) 1 rfl N15 eN15 (ha_b N15) (show N15 * 1 ≤ _ by omega) (by omega) (Nat.le_of_ble_eq_true rfl) (show 0 + N15 ≤ 640 by omega) (fun _ => rfl) dJ7_copyOf_9075b_15 (fun nw15 H hG => ?_)
    refine W.widen (n := (0 + 640)) (Nat.le_refl _) (by omega) ?_
    refine lv_astore_n (lv' := [(2, .ref nw15), (0, .ref b), (1, .int (iI mn))]) S.1 S.2.1 dJ7_copyOf_9075b_17 rfl hl (by decide) rfl (fun ls hl => ?_)
    refine lv_aload_n S.1 S.2.1 dJ7_copyOf_9075b_18 rfl (lv_at hl 1 rfl) ?_
    refine g_iconst S dJ7_copyOf_9075b_19 ?_
    refine lv_aload_n S.1 S.2.1 dJ7_copyOf_9075b_20 rfl (lv_at hl 0 rfl) ?_
    refine g_iconst S dJ7_copyOf_9075b_21 ?_
    refine lv_aload_n S.1 S.2.1 dJ7_copyOf_9075b_22 rfl (lv_at hl 1 rfl) ?_
    refine g_alen (z := (cap : Int)) S C hG 0 1 rfl rfl rfl dJ7_copyOf_9075b_23 ?_
    refine lv_iload_n S.1 S.2.1 dJ7_copyOf_9075b_24 rfl (lv_at hl 2 rfl) ?_
    refine va_mmin S.1 S.2.1 (by rw [S.2.2.1]; exact hl.1.symm) S.2.2.2.1 (S.2.2.2.2 _ (List.mem_of_getElem? (i := 8) rfl)) (S.2.2.2.2 _ (List.mem_of_getElem? (i := 9) rfl)) (S.2.2.2.2 _ (List.mem_of_getElem? (i := 10) rfl)) (S.2.2.2.2 _ (List.mem_of_getElem? (i := 11) rfl)) (Nat.le_of_ble_eq_true rfl) (Nat.le_of_ble_eq_true rfl) (Nat.le_of_ble_eq_true rfl) (Nat.le_of_ble_eq_true rfl) dJ7_copyOf_9075b_25 ?_
    refine g_top (w := .int (iI (min (cap : Int) mn))) (imin_eq (by omega) (by omega)) ?_
    refine g_top (w := .int (iI ((cap : Int)))) (congrArg (fun z : Int => Value.int (iI z)) (by omega)) ?_
    refine g_bcopy (gs' := [gArrB K cap b F, gArrB K N15 nw15 (cpyI F (fun _ : Int => 0) (cap : Int))]) S C hG hl.1 (List.mem_of_getElem? (i := 12) rfl) (List.mem_of_getElem? (i := 13) rfl) (List.mem_of_getElem? (i := 14) rfl) (List.mem_of_getElem? (i := 15) rfl) 0 1 rfl rfl (by omega) (by omega) (by omega) (by omega) (Nat.le_of_ble_eq_true rfl) (Nat.le_of_ble_eq_true rfl) rfl dJ7_copyOf_9075b_28 (fun H locs hG => ?_)
    refine lv_aload_n S.1 S.2.1 dJ7_copyOf_9075b_31 rfl (lv_at hl 0 rfl) ?_
    have hG : gW K A s.heap [gArrB K cap b F, gArrB K N15 nw15 (cpyI F (fun _ : Int => 0) (cap : Int))] _ _ := hG
    exact g_aretA S hr hlk hQ (Or.inr ⟨_, rfl⟩) dJ7_copyOf_9075b_32 (Nat.le_of_ble_eq_true rfl) (Nat.le_of_ble_eq_true rfl) ((nw15, N15) : Nat × Nat) ⟨rfl, (by omega)⟩ hG
  · skip
    omega

set_option maxHeartbeats 1000000 in
set_option maxRecDepth 100000 in
theorem c_J5_ensureCapacityInternal_d00df (l : Launch) (K : KC) (sb : Nat) (b : Nat) (cap : Nat) (n : Int) (F : Int → Int) (tx : List Int) (mn : Int) (hc : 0 ≤ n ∧ n ≤ (cap : Int) ∧ (cap : Int) ≤ 602) (hO : OutI F n tx) (hm : 0 ≤ mn ∧ mn ≤ 300) : mV l yJ5_ensureCapacityInternal_d00df wsJ5_ensureCapacityInternal_d00df 3 82 K [.ref sb, .int (iI mn)] [gSb K sb b cap n F] (fun (u : Nat × Nat × (Int → Int)) => (mn ≤ (u.2.1 : Int) ∧ n ≤ (u.2.1 : Int) ∧ (u.2.1 : Int) ≤ 602) ∧ (OutI u.2.2 n tx)) (fun (u : Nat × Nat × (Int → Int)) => [gSb K sb u.1 u.2.1 n u.2.2]) 1 640 := by
  refine mV_of cJ5_ensureCapacityInternal_d00df 3 (by decide) rfl (Nat.le_of_ble_eq_true rfl) ?_
  intro p e s m below meth c A ls Q S C hG hl hr hlk hin hQ
  have S : CallFix p m c cJ5_ensureCapacityInternal_d00df 3 s ([.ref sb, .int (iI mn)] : List Value).toArray wsJ5_ensureCapacityInternal_d00df RJ5 := S
  have iJ40 : ∀ w ∈ wsJ40, w ∈ wsJ5_ensureCapacityInternal_d00df := fun _ h => List.mem_cons_of_mem _ (List.mem_append_right _ (h))
  have hl : lv_has ls 3 [(0, .ref sb), (1, .int (iI mn))] := hl
  have hG : gW K A s.heap [gSb K sb b cap n F] s.heap [] := hG
  refine lv_aload_n S.1 S.2.1 dJ5_ensureCapacityInternal_d00df_0 rfl (lv_at hl 0 rfl) ?_
  refine g_get S C hG iJ40 0 rfl rfl 0 (by decide) (List.mem_of_getElem? (i := 1) rfl) rfl dJ5_ensureCapacityInternal_d00df_1 ?_
  refine g_alen (z := (cap : Int)) S C hG 1 1 rfl rfl rfl dJ5_ensureCapacityInternal_d00df_4 ?_
  refine lv_aload_n S.1 S.2.1 dJ5_ensureCapacityInternal_d00df_5 rfl (lv_at hl 0 rfl) ?_
  refine g_get S C hG iJ40 0 rfl rfl 1 (by decide) (List.mem_of_getElem? (i := 2) rfl) rfl dJ5_ensureCapacityInternal_d00df_6 ?_
  refine g_shr0 S dJ5_ensureCapacityInternal_d00df_9 ?_
  refine lv_istore_n (lv' := [(2, .int (iI (cap : Int))), (0, .ref sb), (1, .int (iI mn))]) S.1 S.2.1 dJ5_ensureCapacityInternal_d00df_10 rfl hl (by decide) rfl (fun ls hl => ?_)
  refine lv_iload_n S.1 S.2.1 dJ5_ensureCapacityInternal_d00df_11 rfl (lv_at hl 2 rfl) ?_
  refine lv_iload_n S.1 S.2.1 dJ5_ensureCapacityInternal_d00df_12 rfl (lv_at hl 0 rfl) ?_
  refine g_isub S dJ5_ensureCapacityInternal_d00df_13 rfl ?_
  refine g_if_le (tgt := 38) S dJ5_ensureCapacityInternal_d00df_14 (by decide) (by omega) (fun q14 => ?_) (fun q14 => ?_)
  · skip
    have hG : gW K A s.heap [gSb K sb b cap n F] _ _ := hG
    exact g_vret S hr hlk hQ dJ5_ensureCapacityInternal_d00df_38 (Nat.le_of_ble_eq_true rfl) (Nat.le_of_ble_eq_true rfl) ((b, cap, F) : Nat × Nat × (Int → Int)) ⟨(by first | omega | (dsimp only; omega)), hO⟩ hG
  · skip
    refine lv_aload_n S.1 S.2.1 dJ5_ensureCapacityInternal_d00df_17 rfl (lv_at hl 1 rfl) ?_
    refine lv_aload_n S.1 S.2.1 dJ5_ensureCapacityInternal_d00df_18 rfl (lv_at hl 1 rfl) ?_
    refine g_get S C hG iJ40 0 rfl rfl 0 (by decide) (List.mem_of_getElem? (i := 1) rfl) rfl dJ5_ensureCapacityInternal_d00df_19 ?_
    refine lv_aload_n S.1 S.2.1 dJ5_ensureCapacityInternal_d00df_22 rfl (lv_at hl 1 rfl) ?_
    refine lv_iload_n S.1 S.2.1 dJ5_ensureCapacityInternal_d00df_23 rfl (lv_at hl 2 rfl) ?_
    refine g_invU (As := [.int (iI mn)]) (rest := [.ref b, .ref sb]) (gs' := (fun u : Unit => [gSb K sb b cap n F])) S C hG [0] (c_J5_newCapacity_0f7a4 l K sb b cap n F mn (by omega) (by omega)) rfl rfl 0 rfl rfl (va_cwU 1 S.2.2.2.2 gJ5_ensureCapacityInternal_d00df_J5_newCapacity_0f7a4_u104J4 rfl rfl rfl rfl (by decide +kernel) ⟨Nat.le_of_ble_eq_true rfl, Nat.le_of_ble_eq_true rfl⟩) rfl hl.1 rfl (Nat.le_of_ble_eq_true rfl) dJ5_ensureCapacityInternal_d00df_24 ⟨Nat.le_of_ble_eq_true rfl, Nat.le_of_ble_eq_true rfl⟩ (fun _ => Nat.le_of_ble_eq_true rfl) (fun _ => rfl) (fun v u H locs hp hG => ?_)
    subst hp
    refine lv_aload_n S.1 S.2.1 dJ5_ensureCapacityInternal_d00df_27 rfl (lv_at hl 1 rfl) ?_
    refine g_get S C hG iJ40 0 rfl rfl 1 (by decide) (List.mem_of_getElem? (i := 2) rfl) rfl dJ5_ensureCapacityInternal_d00df_28 ?_
    refine g_shl0 S dJ5_ensureCapacityInternal_d00df_31 ?_
    have hG : gW K A s.heap [gSbC K sb b n, gArrB K cap b F] _ _ := hG
    refine g_invS (As := [.ref b, .int (iI ((cap : Int) + max (mn - (cap : Int)) ((cap : Int) + 2)))]) (rest := [.ref sb]) (gs' := (fun u : Nat × Nat => [gSbC K sb b n, gArrB K cap b F, gArrB K u.2 u.1 (cpyI F (fun _ : Int => 0) (cap : Int))])) S C hG [1] (c_J7_copyOf_9075b l K b cap F ((cap : Int) + max (mn - (cap : Int)) ((cap : Int) + 2)) (by omega)) rfl rfl (va_cwS 2 S.2.2.2.2 gJ5_ensureCapacityInternal_d00df_J7_copyOf_9075b rfl rfl rfl (by decide +kernel) ⟨Nat.le_of_ble_eq_true rfl, Nat.le_of_ble_eq_true rfl⟩) rfl hl.1 rfl (Nat.le_of_ble_eq_true rfl) dJ5_ensureCapacityInternal_d00df_32 ⟨Nat.le_of_ble_eq_true rfl, Nat.le_of_ble_eq_true rfl⟩ (fun _ => Nat.le_of_ble_eq_true rfl) (fun _ => rfl) (fun v u H locs hp hG => ?_)
    obtain ⟨b2_32, c2_32⟩ := u
    obtain ⟨rfl, hc2_32⟩ := hp
    have hc2_32 : (c2_32 : Int) = ((cap : Int) + max (mn - (cap : Int)) ((cap : Int) + 2)) := hc2_32
    have hG : gW K A s.heap [gSbC K sb b n, gArrB K cap b F, gArrB K c2_32 b2_32 (cpyI F (fun _ : Int => 0) (cap : Int))] _ _ := hG
    refine g_put (gs' := [gSbC K sb b2_32 n, gArrB K cap b F, gArrB K c2_32 b2_32 (cpyI F (fun _ : Int => 0) (cap : Int))]) S C hG iJ40 tyJ4 tyJ4_ok nmJ4 0 rfl rfl 0 (by decide) (List.mem_of_getElem? (i := 1) rfl) rfl rfl rfl (Nat.le_of_ble_eq_true rfl) rfl dJ5_ensureCapacityInternal_d00df_35 (fun H locs hG => ?_)
    have hG : gW K A s.heap [gSbC K sb b2_32 n, gArrB K c2_32 b2_32 (cpyI F (fun _ : Int => 0) (cap : Int))] _ _ := gW_pick [0, 2] rfl rfl hG
    have hG : gW K A s.heap [gSb K sb b2_32 c2_32 n (cpyI F (fun _ : Int => 0) (cap : Int))] _ _ := hG
    exact g_vret S hr hlk hQ dJ5_ensureCapacityInternal_d00df_38 (Nat.le_of_ble_eq_true rfl) (Nat.le_of_ble_eq_true rfl) ((b2_32, c2_32, cpyI F (fun _ : Int => 0) (cap : Int)) : Nat × Nat × (Int → Int)) ⟨(by first | omega | (dsimp only; omega)), (hO.cpy (by omega))⟩ hG

set_option maxHeartbeats 1000000 in
set_option maxRecDepth 100000 in
theorem c_J5_append_c97b9 (l : Launch) (K : KC) (sb : Nat) (b : Nat) (cap : Nat) (n : Int) (F : Int → Int) (tx : List Int) (z : Int) (hc : 0 ≤ n ∧ n ≤ (cap : Int) ∧ (cap : Int) ≤ 602) (hO : OutI F n tx) (hm : n + 4 ≤ 300) (h0 : 0 ≤ z ∧ z ≤ 9999) : mG l yJ5_append_c97b9 wsJ5_append_c97b9 4 104 K [.ref sb, .int (iI z)] [gSb K sb b cap n F] (fun (v : Value) (u : Nat × Nat × (Int → Int)) => (v = .ref sb) ∧ (n + dgs z ≤ (u.2.1 : Int) ∧ (u.2.1 : Int) ≤ 602) ∧ (OutI u.2.2 (n + dgs z) (tx ++ dgL z))) (fun (u : Nat × Nat × (Int → Int)) => [gSb K sb u.1 u.2.1 (n + dgs z) u.2.2]) 1 640 := by
  refine mG_of cJ5_append_c97b9 4 (by decide) rfl (Nat.le_of_ble_eq_true rfl) ?_
  intro p e s m below meth c A ls Q S C hG hl hr hlk hin hQ
  have S : CallFix p m c cJ5_append_c97b9 4 s ([.ref sb, .int (iI z)] : List Value).toArray wsJ5_append_c97b9 RJ5 := S
  have iJ40 : ∀ w ∈ wsJ40, w ∈ wsJ5_append_c97b9 := fun _ h => List.mem_cons_of_mem _ (List.mem_append_right _ (h))
  have hl : lv_has ls 4 [(0, .ref sb), (1, .int (iI z))] := hl
  have hG : gW K A s.heap [gSb K sb b cap n F] s.heap [] := hG
  have hdb := dgs_bd z
  refine lv_aload_n S.1 S.2.1 dJ5_append_c97b9_0 rfl (lv_at hl 0 rfl) ?_
  refine g_get S C hG iJ40 0 rfl rfl 3 (by decide) (List.mem_of_getElem? (i := 1) rfl) rfl dJ5_append_c97b9_1 ?_
  refine lv_istore_n (lv' := [(2, .int (iI n)), (0, .ref sb), (1, .int (iI z))]) S.1 S.2.1 dJ5_append_c97b9_4 rfl hl (by decide) rfl (fun ls hl => ?_)
  refine lv_iload_n S.1 S.2.1 dJ5_append_c97b9_5 rfl (lv_at hl 0 rfl) ?_
  refine lv_iload_n S.1 S.2.1 dJ5_append_c97b9_6 rfl (lv_at hl 2 rfl) ?_
  refine g_invS (As := [.int (iI z)]) (rest := [.int (iI n)]) (gs' := (fun u : Unit => [gSb K sb b cap n F])) S C hG [] (c_J6_stringSize_0f7a4 l K z h0) rfl rfl (va_cwS 1 S.2.2.2.2 gJ5_append_c97b9_J6_stringSize_0f7a4 rfl rfl rfl (by decide +kernel) ⟨Nat.le_of_ble_eq_true rfl, Nat.le_of_ble_eq_true rfl⟩) rfl hl.1 rfl (Nat.le_of_ble_eq_true rfl) dJ5_append_c97b9_7 ⟨Nat.le_of_ble_eq_true rfl, Nat.le_of_ble_eq_true rfl⟩ (fun _ => Nat.le_of_ble_eq_true rfl) (fun _ => rfl) (fun v u H locs hp hG => ?_)
  subst hp
  refine g_iadd S dJ5_append_c97b9_10 rfl ?_
  refine lv_istore_n (lv' := [(3, .int (iI (n + (dgs z)))), (2, .int (iI n)), (0, .ref sb), (1, .int (iI z))]) S.1 S.2.1 dJ5_append_c97b9_11 rfl hl (by decide) rfl (fun ls hl => ?_)
  refine lv_aload_n S.1 S.2.1 dJ5_append_c97b9_12 rfl (lv_at hl 2 rfl) ?_
  refine lv_iload_n S.1 S.2.1 dJ5_append_c97b9_13 rfl (lv_at hl 0 rfl) ?_
  refine g_invUv (As := [.int (iI (n + (dgs z)))]) (rest := []) (gs' := (fun u : Nat × Nat × (Int → Int) => [gSb K sb u.1 u.2.1 n u.2.2])) S C hG [0] (c_J5_ensureCapacityInternal_d00df l K sb b cap n F tx (n + (dgs z)) hc hO (by omega)) rfl rfl 0 rfl rfl (va_cwU 1 S.2.2.2.2 gJ5_append_c97b9_J5_ensureCapacityInternal_d00df_u100J4 rfl rfl rfl rfl (by decide +kernel) ⟨Nat.le_of_ble_eq_true rfl, Nat.le_of_ble_eq_true rfl⟩) rfl hl.1 rfl (Nat.le_of_ble_eq_true rfl) dJ5_append_c97b9_14 ⟨Nat.le_of_ble_eq_true rfl, Nat.le_of_ble_eq_true rfl⟩ (fun _ => Nat.le_of_ble_eq_true rfl) (fun _ => rfl) (fun u H locs hp hG => ?_)
  obtain ⟨b2_14, cap2_14, F2_14⟩ := u
  obtain ⟨hc2_14, hO2_14⟩ := hp
  have hc2_14 : (n + (dgs z)) ≤ (cap2_14 : Int) ∧ n ≤ (cap2_14 : Int) ∧ (cap2_14 : Int) ≤ 602 := hc2_14
  have hO2_14 : OutI F2_14 n tx := hO2_14
  have hG : gW K A s.heap [gSb K sb b2_14 cap2_14 n F2_14] _ _ := hG
  refine lv_aload_n S.1 S.2.1 dJ5_append_c97b9_17 rfl (lv_at hl 2 rfl) ?_
  have hG : gW K A s.heap [gSbC K sb b2_14 n, gArrB K cap2_14 b2_14 F2_14] _ _ := hG
  refine g_invU (As := []) (rest := []) (gs' := (fun u : Unit => [gSbC K sb b2_14 n, gArrB K cap2_14 b2_14 F2_14])) S C hG [0] (c_J5_isLatin1_aae02 l K sb b2_14 n) rfl rfl 0 rfl rfl (va_cwU 0 S.2.2.2.2 gJ5_append_c97b9_J5_isLatin1_aae02_u83J4 rfl rfl rfl rfl (by decide +kernel) ⟨Nat.le_of_ble_eq_true rfl, Nat.le_of_ble_eq_true rfl⟩) rfl hl.1 rfl (Nat.le_of_ble_eq_true rfl) dJ5_append_c97b9_18 ⟨Nat.le_of_ble_eq_true rfl, Nat.le_of_ble_eq_true rfl⟩ (fun _ => Nat.le_of_ble_eq_true rfl) (fun _ => rfl) (fun v u H locs hp hG => ?_)
  subst hp
  refine g_if_eq (tgt := 37) S dJ5_append_c97b9_21 (by decide) (by omega) (fun q21 => ?_) (fun q21 => ?_)
  · skip
    exact absurd q21 (by decide)
  · skip
    refine lv_iload_n S.1 S.2.1 dJ5_append_c97b9_24 rfl (lv_at hl 3 rfl) ?_
    refine lv_iload_n S.1 S.2.1 dJ5_append_c97b9_25 rfl (lv_at hl 0 rfl) ?_
    refine lv_aload_n S.1 S.2.1 dJ5_append_c97b9_26 rfl (lv_at hl 2 rfl) ?_
    refine g_get S C hG iJ40 0 rfl rfl 0 (by decide) (List.mem_of_getElem? (i := 2) rfl) rfl dJ5_append_c97b9_27 ?_
    refine g_invS (As := [.int (iI z), .int (iI (n + (dgs z))), .ref b2_14]) (rest := []) (gs' := (fun u : (Int → Int) => [gSbC K sb b2_14 n, gArrB K cap2_14 b2_14 u])) S C hG [1] (c_J6_getChars_ba4f3 l K z (n + (dgs z)) cap2_14 b2_14 F2_14 h0 (by omega)) rfl rfl (va_cwS 3 S.2.2.2.2 gJ5_append_c97b9_J6_getChars_ba4f3 rfl rfl rfl (by decide +kernel) ⟨Nat.le_of_ble_eq_true rfl, Nat.le_of_ble_eq_true rfl⟩) rfl hl.1 rfl (Nat.le_of_ble_eq_true rfl) dJ5_append_c97b9_30 ⟨Nat.le_of_ble_eq_true rfl, Nat.le_of_ble_eq_true rfl⟩ (fun _ => Nat.le_of_ble_eq_true rfl) (fun _ => rfl) (fun v u H locs hp hG => ?_)
    obtain ⟨F2_30, rfl⟩ : ∃ z, z = u := ⟨_, rfl⟩
    obtain ⟨rfl, hF_30⟩ := hp
    have hF_30 : ∀ j : Int, F2_30 j = if (n + (dgs z)) - dgs z ≤ j ∧ j < (n + (dgs z)) then dgt z (j - ((n + (dgs z)) - dgs z)) else F2_14 j := hF_30
    have hG : gW K A s.heap [gSbC K sb b2_14 n, gArrB K cap2_14 b2_14 F2_30] _ _ := hG
    refine lv_pop S.1 S.2.1 dJ5_append_c97b9_33 rfl ?_
    refine lv_goto (tgt := 48) S.1 S.2.1 dJ5_append_c97b9_34 (by decide) ?_
    refine lv_aload_n S.1 S.2.1 dJ5_append_c97b9_48 rfl (lv_at hl 2 rfl) ?_
    refine lv_iload_n S.1 S.2.1 dJ5_append_c97b9_49 rfl (lv_at hl 0 rfl) ?_
    refine g_put (gs' := [gSbC K sb b2_14 (n + (dgs z)), gArrB K cap2_14 b2_14 F2_30]) S C hG iJ40 tyJ4 tyJ4_ok nmJ4 0 rfl rfl 3 (by decide) (List.mem_of_getElem? (i := 1) rfl) rfl rfl rfl (Nat.le_of_ble_eq_true rfl) rfl dJ5_append_c97b9_50 (fun H locs hG => ?_)
    refine lv_aload_n S.1 S.2.1 dJ5_append_c97b9_53 rfl (lv_at hl 2 rfl) ?_
    have hG : gW K A s.heap [gSb K sb b2_14 cap2_14 (n + dgs z) F2_30] _ _ := hG
    exact g_aret S hr hlk hQ (Or.inr ⟨_, rfl⟩) dJ5_append_c97b9_54 (Nat.le_of_ble_eq_true rfl) (Nat.le_of_ble_eq_true rfl) ((b2_14, cap2_14, F2_30) : Nat × Nat × (Int → Int)) ⟨rfl, (by first | omega | (dsimp only; omega)), (OutI.num hO2_14 (fun j => by have h9 := hF_30 j; rw [show n + dgs z - dgs z = n by omega] at h9; exact h9))⟩ hG

set_option maxHeartbeats 1000000 in
set_option maxRecDepth 100000 in
theorem c_J4_append_bf812 (l : Launch) (K : KC) (sb : Nat) (b : Nat) (cap : Nat) (n : Int) (F : Int → Int) (tx : List Int) (z : Int) (hc : 0 ≤ n ∧ n ≤ (cap : Int) ∧ (cap : Int) ≤ 602) (hO : OutI F n tx) (hm : n + 4 ≤ 300) (h0 : 0 ≤ z ∧ z ≤ 9999) : mG l yJ4_append_bf812 wsJ4_append_bf812 5 127 K [.ref sb, .int (iI z)] [gSb K sb b cap n F] (fun (v : Value) (u : Nat × Nat × (Int → Int)) => (v = .ref sb) ∧ (n + dgs z ≤ (u.2.1 : Int) ∧ (u.2.1 : Int) ≤ 602) ∧ (OutI u.2.2 (n + dgs z) (tx ++ dgL z))) (fun (u : Nat × Nat × (Int → Int)) => [gSb K sb u.1 u.2.1 (n + dgs z) u.2.2]) 1 640 := by
  refine mG_of cJ4_append_bf812 2 (by decide) rfl (Nat.le_of_ble_eq_true rfl) ?_
  intro p e s m below meth c A ls Q S C hG hl hr hlk hin hQ
  have S : CallFix p m c cJ4_append_bf812 2 s ([.ref sb, .int (iI z)] : List Value).toArray wsJ4_append_bf812 RJ4 := S
  have iJ40 : ∀ w ∈ wsJ40, w ∈ wsJ4_append_bf812 := fun _ h => List.mem_cons_of_mem _ (List.mem_append_right _ (h))
  have hl : lv_has ls 2 [(0, .ref sb), (1, .int (iI z))] := hl
  have hG : gW K A s.heap [gSb K sb b cap n F] s.heap [] := hG
  refine lv_aload_n S.1 S.2.1 dJ4_append_bf812_0 rfl (lv_at hl 0 rfl) ?_
  refine lv_iload_n S.1 S.2.1 dJ4_append_bf812_1 rfl (lv_at hl 1 rfl) ?_
  refine g_invSU (As := [.int (iI z)]) (rest := []) (gs' := (fun u : Nat × Nat × (Int → Int) => [gSb K sb u.1 u.2.1 (n + dgs z) u.2.2])) S C hG [0] (c_J5_append_c97b9 l K sb b cap n F tx z hc hO hm h0) rfl rfl 0 rfl rfl (va_cwSU 1 S.2.2.2.2 gJ4_append_bf812_J5_append_c97b9_s53 rfl rfl rfl (by decide +kernel) ⟨Nat.le_of_ble_eq_true rfl, Nat.le_of_ble_eq_true rfl⟩) rfl hl.1 rfl (Nat.le_of_ble_eq_true rfl) dJ4_append_bf812_2 ⟨Nat.le_of_ble_eq_true rfl, Nat.le_of_ble_eq_true rfl⟩ (fun _ => Nat.le_of_ble_eq_true rfl) (fun _ => rfl) (fun v u H locs hp hG => ?_)
  obtain ⟨b2_2, cap2_2, F2_2⟩ := u
  obtain ⟨rfl, hc2_2, hO2_2⟩ := hp
  have hc2_2 : n + dgs z ≤ (cap2_2 : Int) ∧ (cap2_2 : Int) ≤ 602 := hc2_2
  have hO2_2 : OutI F2_2 (n + dgs z) (tx ++ dgL z) := hO2_2
  have hG : gW K A s.heap [gSb K sb b2_2 cap2_2 (n + dgs z) F2_2] _ _ := hG
  refine lv_pop S.1 S.2.1 dJ4_append_bf812_5 rfl ?_
  refine lv_aload_n S.1 S.2.1 dJ4_append_bf812_6 rfl (lv_at hl 0 rfl) ?_
  have hG : gW K A s.heap [gSb K sb b2_2 cap2_2 (n + dgs z) F2_2] _ _ := hG
  exact g_aret S hr hlk hQ (Or.inr ⟨_, rfl⟩) dJ4_append_bf812_7 (Nat.le_of_ble_eq_true rfl) (Nat.le_of_ble_eq_true rfl) ((b2_2, cap2_2, F2_2) : Nat × Nat × (Int → Int)) ⟨rfl, hc2_2, hO2_2⟩ hG

set_option maxHeartbeats 1000000 in
set_option maxRecDepth 100000 in
theorem c_J0_getBytes_840e7 (l : Launch) (K : KC) (i : Nat) (wd : List Int) (b : Nat) (d : Int) (cap : Nat) (F : Int → Int) (hT : txI i wd) (hl9 : wd.length ≤ 100) (h0 : 0 ≤ d ∧ d + (wd.length : Int) ≤ (cap : Int) ∧ (cap : Int) ≤ 602) : mV l yJ0_getBytes_840e7 wsJ0_getBytes_840e7 1 60 K [.ref (K.2.2.2.1 i), .ref b, .int (iI d), .int (iI 0)] [gArrB K cap b F] (fun (u : Unit) => True) (fun (u : Unit) => [gArrB K cap b (cpyW F d wd)]) 0 0 := by
  refine mV_of cJ0_getBytes_840e7 4 (by decide) rfl (Nat.le_of_ble_eq_true rfl) ?_
  intro p e s m below meth c A ls Q S C hG hl hr hlk hin hQ
  have S : CallFix p m c cJ0_getBytes_840e7 4 s ([.ref (K.2.2.2.1 i), .ref b, .int (iI d), .int (iI 0)] : List Value).toArray wsJ0_getBytes_840e7 RJ0 := S
  have iJ00 : ∀ w ∈ wsJ00, w ∈ wsJ0_getBytes_840e7 := fun _ h => List.mem_cons_of_mem _ (List.mem_append_right _ (h))
  have hl : lv_has ls 4 [(0, .ref (K.2.2.2.1 i)), (1, .ref b), (2, .int (iI d)), (3, .int (iI 0))] := hl
  have hG : gW K A s.heap [gArrB K cap b F] s.heap [] := hG
  refine lv_aload_n S.1 S.2.1 dJ0_getBytes_840e7_0 rfl (lv_at hl 0 rfl) ?_
  refine g_invVO (As := []) (rest := []) (gs' := (fun u : Unit => [gArrB K cap b F])) S C hG [] (c_J0_coder_7d493 l K i wd hT hl9) rfl rfl hT (cwV 0 S.2.2.2.2 gJ0_getBytes_840e7_J0_coder_7d493 rfl rfl rfl (by decide +kernel) ⟨Nat.le_of_ble_eq_true rfl, Nat.le_of_ble_eq_true rfl⟩) rfl hl.1 rfl (Nat.le_of_ble_eq_true rfl) dJ0_getBytes_840e7_1 ⟨Nat.le_of_ble_eq_true rfl, Nat.le_of_ble_eq_true rfl⟩ (fun _ => Nat.le_of_ble_eq_true rfl) (fun _ => rfl) (fun v u H locs hp hG => ?_)
  subst hp
  refine lv_iload_n S.1 S.2.1 dJ0_getBytes_840e7_4 rfl (lv_at hl 3 rfl) ?_
  refine g_icmp_ne (tgt := 28) S dJ0_getBytes_840e7_5 (by decide) (by omega) (by omega) (fun q5 => ?_) (fun q5 => ?_)
  · skip
    exact absurd q5 (by decide)
  · skip
    refine lv_aload_n S.1 S.2.1 dJ0_getBytes_840e7_8 rfl (lv_at hl 0 rfl) ?_
    refine g_strf S C hG (gTxt_of C hT).2.2.1 (List.mem_of_getElem? (i := 1) rfl) dJ0_getBytes_840e7_9 ?_
    refine g_iconst S dJ0_getBytes_840e7_12 ?_
    refine lv_aload_n S.1 S.2.1 dJ0_getBytes_840e7_13 rfl (lv_at hl 1 rfl) ?_
    refine lv_iload_n S.1 S.2.1 dJ0_getBytes_840e7_14 rfl (lv_at hl 2 rfl) ?_
    refine lv_iload_n S.1 S.2.1 dJ0_getBytes_840e7_15 rfl (lv_at hl 3 rfl) ?_
    refine g_shl0 S dJ0_getBytes_840e7_16 ?_
    refine lv_aload_n S.1 S.2.1 dJ0_getBytes_840e7_17 rfl (lv_at hl 0 rfl) ?_
    refine g_strf S C hG (gTxt_of C hT).2.2.1 (List.mem_of_getElem? (i := 1) rfl) dJ0_getBytes_840e7_18 ?_
    refine g_strlen (z := (wd.length : Int)) S C hG hT rfl dJ0_getBytes_840e7_21 ?_
    refine g_tcopy (gs' := [gArrB K cap b (cpyW F d wd)]) S C hG hl.1 (List.mem_of_getElem? (i := 2) rfl) (List.mem_of_getElem? (i := 3) rfl) (List.mem_of_getElem? (i := 4) rfl) (List.mem_of_getElem? (i := 5) rfl) hT hl9 0 rfl (by omega) (by omega) (by omega) (Nat.le_of_ble_eq_true rfl) (Nat.le_of_ble_eq_true rfl) rfl dJ0_getBytes_840e7_22 (fun H locs hG => ?_)
    refine lv_goto (tgt := 43) S.1 S.2.1 dJ0_getBytes_840e7_25 (by decide) ?_
    have hG : gW K A s.heap [gArrB K cap b (cpyW F d wd)] _ _ := hG
    exact g_vret S hr hlk hQ dJ0_getBytes_840e7_43 (Nat.le_of_ble_eq_true rfl) (Nat.le_of_ble_eq_true rfl) (() : Unit) trivial hG

set_option maxHeartbeats 1000000 in
set_option maxRecDepth 100000 in
theorem c_J5_inflateIfNeededFor_a7421 (l : Launch) (K : KC) (i : Nat) (wd : List Int) (sb : Nat) (b : Nat) (n : Int) (hT : txI i wd) (hl9 : wd.length ≤ 100) : mV l yJ5_inflateIfNeededFor_a7421 wsJ5_inflateIfNeededFor_a7421 1 20 K [.ref sb, .ref (K.2.2.2.1 i)] [gSbC K sb b n] (fun (u : Unit) => True) (fun (u : Unit) => [gSbC K sb b n]) 0 0 := by
  refine mV_of cJ5_inflateIfNeededFor_a7421 2 (by decide) rfl (Nat.le_of_ble_eq_true rfl) ?_
  intro p e s m below meth c A ls Q S C hG hl hr hlk hin hQ
  have S : CallFix p m c cJ5_inflateIfNeededFor_a7421 2 s ([.ref sb, .ref (K.2.2.2.1 i)] : List Value).toArray wsJ5_inflateIfNeededFor_a7421 RJ5 := S
  have iJ40 : ∀ w ∈ wsJ40, w ∈ wsJ5_inflateIfNeededFor_a7421 := fun _ h => List.mem_cons_of_mem _ (List.mem_append_left _ (List.mem_append_right _ (h)))
  have iJ00 : ∀ w ∈ wsJ00, w ∈ wsJ5_inflateIfNeededFor_a7421 := fun _ h => List.mem_cons_of_mem _ (List.mem_append_right _ (h))
  have hl : lv_has ls 2 [(0, .ref sb), (1, .ref (K.2.2.2.1 i))] := hl
  have hG : gW K A s.heap [gSbC K sb b n] s.heap [] := hG
  refine g_gets S C hG C.1.2.2.2.2.1.2.2.1 (List.mem_of_getElem? (i := 1) rfl) dJ5_inflateIfNeededFor_a7421_0 ?_
  refine g_top (w := .int (iI 1)) rfl ?_
  refine g_if_eq (tgt := 21) S dJ5_inflateIfNeededFor_a7421_3 (by decide) (by omega) (fun q3 => ?_) (fun q3 => ?_)
  · skip
    exact absurd q3 (by decide)
  · skip
    refine lv_aload_n S.1 S.2.1 dJ5_inflateIfNeededFor_a7421_6 rfl (lv_at hl 0 rfl) ?_
    refine g_get S C hG iJ40 0 rfl rfl 1 (by decide) (List.mem_of_getElem? (i := 2) rfl) rfl dJ5_inflateIfNeededFor_a7421_7 ?_
    refine lv_aload_n S.1 S.2.1 dJ5_inflateIfNeededFor_a7421_10 rfl (lv_at hl 1 rfl) ?_
    refine g_invVO (As := []) (rest := [.int (iI 0)]) (gs' := (fun u : Unit => [gSbC K sb b n])) S C hG [] (c_J0_coder_7d493 l K i wd hT hl9) rfl rfl hT (cwV 0 S.2.2.2.2 gJ5_inflateIfNeededFor_a7421_J0_coder_7d493 rfl rfl rfl (by decide +kernel) ⟨Nat.le_of_ble_eq_true rfl, Nat.le_of_ble_eq_true rfl⟩) rfl hl.1 rfl (Nat.le_of_ble_eq_true rfl) dJ5_inflateIfNeededFor_a7421_11 ⟨Nat.le_of_ble_eq_true rfl, Nat.le_of_ble_eq_true rfl⟩ (fun _ => Nat.le_of_ble_eq_true rfl) (fun _ => rfl) (fun v u H locs hp hG => ?_)
    subst hp
    refine g_icmp_eq (tgt := 21) S dJ5_inflateIfNeededFor_a7421_14 (by decide) (by omega) (by omega) (fun q14 => ?_) (fun q14 => ?_)
    · skip
      have hG : gW K A s.heap [gSbC K sb b n] _ _ := hG
      exact g_vret S hr hlk hQ dJ5_inflateIfNeededFor_a7421_21 (Nat.le_of_ble_eq_true rfl) (Nat.le_of_ble_eq_true rfl) (() : Unit) trivial hG
    · skip
      exact absurd q14 (by decide)

set_option maxHeartbeats 1000000 in
set_option maxRecDepth 100000 in
theorem c_J5_putStringAt_47b60 (l : Launch) (K : KC) (i : Nat) (wd : List Int) (sb : Nat) (b : Nat) (cap : Nat) (n : Int) (F : Int → Int) (d : Int) (hT : txI i wd) (hl9 : wd.length ≤ 100) (h0 : 0 ≤ d ∧ d + (wd.length : Int) ≤ (cap : Int) ∧ (cap : Int) ≤ 602) : mV l yJ5_putStringAt_47b60 wsJ5_putStringAt_47b60 2 83 K [.ref sb, .int (iI d), .ref (K.2.2.2.1 i)] [gSb K sb b cap n F] (fun (u : Unit) => True) (fun (u : Unit) => [gSb K sb b cap n (cpyW F d wd)]) 0 0 := by
  refine mV_of cJ5_putStringAt_47b60 3 (by decide) rfl (Nat.le_of_ble_eq_true rfl) ?_
  intro p e s m below meth c A ls Q S C hG hl hr hlk hin hQ
  have S : CallFix p m c cJ5_putStringAt_47b60 3 s ([.ref sb, .int (iI d), .ref (K.2.2.2.1 i)] : List Value).toArray wsJ5_putStringAt_47b60 RJ5 := S
  have iJ40 : ∀ w ∈ wsJ40, w ∈ wsJ5_putStringAt_47b60 := fun _ h => List.mem_cons_of_mem _ (List.mem_append_left _ (List.mem_append_right _ (h)))
  have iJ00 : ∀ w ∈ wsJ00, w ∈ wsJ5_putStringAt_47b60 := fun _ h => List.mem_cons_of_mem _ (List.mem_append_right _ (h))
  have hl : lv_has ls 3 [(0, .ref sb), (1, .int (iI d)), (2, .ref (K.2.2.2.1 i))] := hl
  have hG : gW K A s.heap [gSb K sb b cap n F] s.heap [] := hG
  refine lv_aload_n S.1 S.2.1 dJ5_putStringAt_47b60_0 rfl (lv_at hl 0 rfl) ?_
  refine lv_aload_n S.1 S.2.1 dJ5_putStringAt_47b60_1 rfl (lv_at hl 2 rfl) ?_
  have hG : gW K A s.heap [gSbC K sb b n, gArrB K cap b F] _ _ := hG
  refine g_invUv (As := [.ref (K.2.2.2.1 i)]) (rest := []) (gs' := (fun u : Unit => [gSbC K sb b n, gArrB K cap b F])) S C hG [0] (c_J5_inflateIfNeededFor_a7421 l K i wd sb b n hT hl9) rfl rfl 0 rfl rfl (va_cwU 1 S.2.2.2.2 gJ5_putStringAt_47b60_J5_inflateIfNeededFor_a7421_u397J4 rfl rfl rfl rfl (by decide +kernel) ⟨Nat.le_of_ble_eq_true rfl, Nat.le_of_ble_eq_true rfl⟩) rfl hl.1 rfl (Nat.le_of_ble_eq_true rfl) dJ5_putStringAt_47b60_2 ⟨Nat.le_of_ble_eq_true rfl, Nat.le_of_ble_eq_true rfl⟩ (fun _ => Nat.le_of_ble_eq_true rfl) (fun _ => rfl) (fun u H locs hp hG => ?_)
  refine lv_aload_n S.1 S.2.1 dJ5_putStringAt_47b60_5 rfl (lv_at hl 2 rfl) ?_
  refine lv_aload_n S.1 S.2.1 dJ5_putStringAt_47b60_6 rfl (lv_at hl 0 rfl) ?_
  refine g_get S C hG iJ40 0 rfl rfl 0 (by decide) (List.mem_of_getElem? (i := 1) rfl) rfl dJ5_putStringAt_47b60_7 ?_
  refine lv_iload_n S.1 S.2.1 dJ5_putStringAt_47b60_10 rfl (lv_at hl 1 rfl) ?_
  refine lv_aload_n S.1 S.2.1 dJ5_putStringAt_47b60_11 rfl (lv_at hl 0 rfl) ?_
  refine g_get S C hG iJ40 0 rfl rfl 1 (by decide) (List.mem_of_getElem? (i := 2) rfl) rfl dJ5_putStringAt_47b60_12 ?_
  refine g_invVOv (As := [.ref b, .int (iI d), .int (iI 0)]) (rest := []) (gs' := (fun u : Unit => [gSbC K sb b n, gArrB K cap b (cpyW F d wd)])) S C hG [1] (c_J0_getBytes_840e7 l K i wd b d cap F hT hl9 h0) rfl rfl hT (cwV 3 S.2.2.2.2 gJ5_putStringAt_47b60_J0_getBytes_840e7 rfl rfl rfl (by decide +kernel) ⟨Nat.le_of_ble_eq_true rfl, Nat.le_of_ble_eq_true rfl⟩) rfl hl.1 rfl (Nat.le_of_ble_eq_true rfl) dJ5_putStringAt_47b60_15 ⟨Nat.le_of_ble_eq_true rfl, Nat.le_of_ble_eq_true rfl⟩ (fun _ => Nat.le_of_ble_eq_true rfl) (fun _ => rfl) (fun u H locs hp hG => ?_)
  have hG : gW K A s.heap [gSb K sb b cap n (cpyW F d wd)] _ _ := hG
  exact g_vret S hr hlk hQ dJ5_putStringAt_47b60_18 (Nat.le_of_ble_eq_true rfl) (Nat.le_of_ble_eq_true rfl) (() : Unit) trivial hG

set_option maxHeartbeats 1000000 in
set_option maxRecDepth 100000 in
theorem c_J5_append_cf1ce (l : Launch) (K : KC) (i : Nat) (wd : List Int) (sb : Nat) (b : Nat) (cap : Nat) (n : Int) (F : Int → Int) (tx : List Int) (hT : txI i wd) (hl9 : wd.length ≤ 100) (hc : 0 ≤ n ∧ n ≤ (cap : Int) ∧ (cap : Int) ≤ 602) (hO : OutI F n tx) (hm : n + (wd.length : Int) ≤ 300) : mG l yJ5_append_cf1ce wsJ5_append_cf1ce 4 105 K [.ref sb, .ref (K.2.2.2.1 i)] [gSb K sb b cap n F] (fun (v : Value) (u : Nat × Nat × (Int → Int)) => (v = .ref sb) ∧ (n + (wd.length : Int) ≤ (u.2.1 : Int) ∧ (u.2.1 : Int) ≤ 602) ∧ (OutI u.2.2 (n + (wd.length : Int)) (tx ++ wd))) (fun (u : Nat × Nat × (Int → Int)) => [gSb K sb u.1 u.2.1 (n + (wd.length : Int)) u.2.2]) 1 640 := by
  refine mG_of cJ5_append_cf1ce 3 (by decide) rfl (Nat.le_of_ble_eq_true rfl) ?_
  intro p e s m below meth c A ls Q S C hG hl hr hlk hin hQ
  have S : CallFix p m c cJ5_append_cf1ce 3 s ([.ref sb, .ref (K.2.2.2.1 i)] : List Value).toArray wsJ5_append_cf1ce RJ5 := S
  have iJ40 : ∀ w ∈ wsJ40, w ∈ wsJ5_append_cf1ce := fun _ h => List.mem_cons_of_mem _ (List.mem_append_left _ (List.mem_append_right _ (h)))
  have iJ00 : ∀ w ∈ wsJ00, w ∈ wsJ5_append_cf1ce := fun _ h => List.mem_cons_of_mem _ (List.mem_append_right _ (h))
  have hl : lv_has ls 3 [(0, .ref sb), (1, .ref (K.2.2.2.1 i))] := hl
  have hG : gW K A s.heap [gSb K sb b cap n F] s.heap [] := hG
  refine lv_aload_n S.1 S.2.1 dJ5_append_cf1ce_0 rfl (lv_at hl 1 rfl) ?_
  refine lv_ifnonnull (tgt := 9) S.1 S.2.1 dJ5_append_cf1ce_1 (by decide) ?_
  refine lv_aload_n S.1 S.2.1 dJ5_append_cf1ce_9 rfl (lv_at hl 1 rfl) ?_
  refine g_invVO (As := []) (rest := []) (gs' := (fun u : Unit => [gSb K sb b cap n F])) S C hG [] (c_J0_length_8abf5 l K i wd hT hl9) rfl rfl hT (cwV 0 S.2.2.2.2 gJ5_append_cf1ce_J0_length_8abf5 rfl rfl rfl (by decide +kernel) ⟨Nat.le_of_ble_eq_true rfl, Nat.le_of_ble_eq_true rfl⟩) rfl hl.1 rfl (Nat.le_of_ble_eq_true rfl) dJ5_append_cf1ce_10 ⟨Nat.le_of_ble_eq_true rfl, Nat.le_of_ble_eq_true rfl⟩ (fun _ => Nat.le_of_ble_eq_true rfl) (fun _ => rfl) (fun v u H locs hp hG => ?_)
  subst hp
  refine lv_istore_n (lv' := [(2, .int (iI (wd.length : Int))), (0, .ref sb), (1, .ref (K.2.2.2.1 i))]) S.1 S.2.1 dJ5_append_cf1ce_13 rfl hl (by decide) rfl (fun ls hl => ?_)
  refine lv_aload_n S.1 S.2.1 dJ5_append_cf1ce_14 rfl (lv_at hl 1 rfl) ?_
  refine lv_aload_n S.1 S.2.1 dJ5_append_cf1ce_15 rfl (lv_at hl 1 rfl) ?_
  refine g_get S C hG iJ40 0 rfl rfl 3 (by decide) (List.mem_of_getElem? (i := 1) rfl) rfl dJ5_append_cf1ce_16 ?_
  refine lv_iload_n S.1 S.2.1 dJ5_append_cf1ce_19 rfl (lv_at hl 0 rfl) ?_
  refine g_iadd S dJ5_append_cf1ce_20 rfl ?_
  refine g_invUv (As := [.int (iI (n + (wd.length : Int)))]) (rest := []) (gs' := (fun u : Nat × Nat × (Int → Int) => [gSb K sb u.1 u.2.1 n u.2.2])) S C hG [0] (c_J5_ensureCapacityInternal_d00df l K sb b cap n F tx (n + (wd.length : Int)) hc hO (by omega)) rfl rfl 0 rfl rfl (va_cwU 1 S.2.2.2.2 gJ5_append_cf1ce_J5_ensureCapacityInternal_d00df_u100J4 rfl rfl rfl rfl (by decide +kernel) ⟨Nat.le_of_ble_eq_true rfl, Nat.le_of_ble_eq_true rfl⟩) rfl hl.1 rfl (Nat.le_of_ble_eq_true rfl) dJ5_append_cf1ce_21 ⟨Nat.le_of_ble_eq_true rfl, Nat.le_of_ble_eq_true rfl⟩ (fun _ => Nat.le_of_ble_eq_true rfl) (fun _ => rfl) (fun u H locs hp hG => ?_)
  obtain ⟨b2_21, cap2_21, F2_21⟩ := u
  obtain ⟨hc2_21, hO2_21⟩ := hp
  have hc2_21 : (n + (wd.length : Int)) ≤ (cap2_21 : Int) ∧ n ≤ (cap2_21 : Int) ∧ (cap2_21 : Int) ≤ 602 := hc2_21
  have hO2_21 : OutI F2_21 n tx := hO2_21
  have hG : gW K A s.heap [gSb K sb b2_21 cap2_21 n F2_21] _ _ := hG
  refine lv_aload_n S.1 S.2.1 dJ5_append_cf1ce_24 rfl (lv_at hl 1 rfl) ?_
  refine lv_aload_n S.1 S.2.1 dJ5_append_cf1ce_25 rfl (lv_at hl 1 rfl) ?_
  refine g_get S C hG iJ40 0 rfl rfl 3 (by decide) (List.mem_of_getElem? (i := 1) rfl) rfl dJ5_append_cf1ce_26 ?_
  refine lv_aload_n S.1 S.2.1 dJ5_append_cf1ce_29 rfl (lv_at hl 2 rfl) ?_
  refine g_invUv (As := [.int (iI n), .ref (K.2.2.2.1 i)]) (rest := []) (gs' := (fun u : Unit => [gSb K sb b2_21 cap2_21 n (cpyW F2_21 n wd)])) S C hG [0] (c_J5_putStringAt_47b60 l K i wd sb b2_21 cap2_21 n F2_21 n hT hl9 (by omega)) rfl rfl 0 rfl rfl (va_cwU 2 S.2.2.2.2 gJ5_append_cf1ce_J5_putStringAt_47b60_u208J4 rfl rfl rfl rfl (by decide +kernel) ⟨Nat.le_of_ble_eq_true rfl, Nat.le_of_ble_eq_true rfl⟩) rfl hl.1 rfl (Nat.le_of_ble_eq_true rfl) dJ5_append_cf1ce_30 ⟨Nat.le_of_ble_eq_true rfl, Nat.le_of_ble_eq_true rfl⟩ (fun _ => Nat.le_of_ble_eq_true rfl) (fun _ => rfl) (fun u H locs hp hG => ?_)
  refine lv_aload_n S.1 S.2.1 dJ5_append_cf1ce_33 rfl (lv_at hl 1 rfl) ?_
  refine lv_dup S.1 S.2.1 dJ5_append_cf1ce_34 rfl ?_
  refine g_get S C hG iJ40 0 rfl rfl 3 (by decide) (List.mem_of_getElem? (i := 1) rfl) rfl dJ5_append_cf1ce_35 ?_
  refine lv_iload_n S.1 S.2.1 dJ5_append_cf1ce_38 rfl (lv_at hl 0 rfl) ?_
  refine g_iadd S dJ5_append_cf1ce_39 rfl ?_
  refine g_put (gs' := [gSb K sb b2_21 cap2_21 (n + (wd.length : Int)) (cpyW F2_21 n wd)]) S C hG iJ40 tyJ4 tyJ4_ok nmJ4 0 rfl rfl 3 (by decide) (List.mem_of_getElem? (i := 1) rfl) rfl rfl rfl (Nat.le_of_ble_eq_true rfl) rfl dJ5_append_cf1ce_40 (fun H locs hG => ?_)
  refine lv_aload_n S.1 S.2.1 dJ5_append_cf1ce_43 rfl (lv_at hl 1 rfl) ?_
  have hG : gW K A s.heap [gSb K sb b2_21 cap2_21 (n + (wd.length : Int)) (cpyW F2_21 n wd)] _ _ := hG
  exact g_aret S hr hlk hQ (Or.inr ⟨_, rfl⟩) dJ5_append_cf1ce_44 (Nat.le_of_ble_eq_true rfl) (Nat.le_of_ble_eq_true rfl) ((b2_21, cap2_21, (cpyW F2_21 n wd)) : Nat × Nat × (Int → Int)) ⟨rfl, (by first | omega | (dsimp only; omega)), (hO2_21.cat wd)⟩ hG

set_option maxHeartbeats 1000000 in
set_option maxRecDepth 100000 in
theorem c_J4_append_15ec4 (l : Launch) (K : KC) (i : Nat) (wd : List Int) (sb : Nat) (b : Nat) (cap : Nat) (n : Int) (F : Int → Int) (tx : List Int) (hT : txI i wd) (hl9 : wd.length ≤ 100) (hc : 0 ≤ n ∧ n ≤ (cap : Int) ∧ (cap : Int) ≤ 602) (hO : OutI F n tx) (hm : n + (wd.length : Int) ≤ 300) : mG l yJ4_append_15ec4 wsJ4_append_15ec4 5 127 K [.ref sb, .ref (K.2.2.2.1 i)] [gSb K sb b cap n F] (fun (v : Value) (u : Nat × Nat × (Int → Int)) => (v = .ref sb) ∧ (n + (wd.length : Int) ≤ (u.2.1 : Int) ∧ (u.2.1 : Int) ≤ 602) ∧ (OutI u.2.2 (n + (wd.length : Int)) (tx ++ wd))) (fun (u : Nat × Nat × (Int → Int)) => [gSb K sb u.1 u.2.1 (n + (wd.length : Int)) u.2.2]) 1 640 := by
  refine mG_of cJ4_append_15ec4 2 (by decide) rfl (Nat.le_of_ble_eq_true rfl) ?_
  intro p e s m below meth c A ls Q S C hG hl hr hlk hin hQ
  have S : CallFix p m c cJ4_append_15ec4 2 s ([.ref sb, .ref (K.2.2.2.1 i)] : List Value).toArray wsJ4_append_15ec4 RJ4 := S
  have iJ40 : ∀ w ∈ wsJ40, w ∈ wsJ4_append_15ec4 := fun _ h => List.mem_cons_of_mem _ (List.mem_append_left _ (List.mem_append_right _ (h)))
  have iJ00 : ∀ w ∈ wsJ00, w ∈ wsJ4_append_15ec4 := fun _ h => List.mem_cons_of_mem _ (List.mem_append_right _ (h))
  have hl : lv_has ls 2 [(0, .ref sb), (1, .ref (K.2.2.2.1 i))] := hl
  have hG : gW K A s.heap [gSb K sb b cap n F] s.heap [] := hG
  refine lv_aload_n S.1 S.2.1 dJ4_append_15ec4_0 rfl (lv_at hl 0 rfl) ?_
  refine lv_aload_n S.1 S.2.1 dJ4_append_15ec4_1 rfl (lv_at hl 1 rfl) ?_
  refine g_invSU (As := [.ref (K.2.2.2.1 i)]) (rest := []) (gs' := (fun u : Nat × Nat × (Int → Int) => [gSb K sb u.1 u.2.1 (n + (wd.length : Int)) u.2.2])) S C hG [0] (c_J5_append_cf1ce l K i wd sb b cap n F tx hT hl9 hc hO hm) rfl rfl 0 rfl rfl (va_cwSU 1 S.2.2.2.2 gJ4_append_15ec4_J5_append_cf1ce_s29 rfl rfl rfl (by decide +kernel) ⟨Nat.le_of_ble_eq_true rfl, Nat.le_of_ble_eq_true rfl⟩) rfl hl.1 rfl (Nat.le_of_ble_eq_true rfl) dJ4_append_15ec4_2 ⟨Nat.le_of_ble_eq_true rfl, Nat.le_of_ble_eq_true rfl⟩ (fun _ => Nat.le_of_ble_eq_true rfl) (fun _ => rfl) (fun v u H locs hp hG => ?_)
  obtain ⟨b2_2, cap2_2, F2_2⟩ := u
  obtain ⟨rfl, hc2_2, hO2_2⟩ := hp
  have hc2_2 : n + (wd.length : Int) ≤ (cap2_2 : Int) ∧ (cap2_2 : Int) ≤ 602 := hc2_2
  have hO2_2 : OutI F2_2 (n + (wd.length : Int)) (tx ++ wd) := hO2_2
  have hG : gW K A s.heap [gSb K sb b2_2 cap2_2 (n + (wd.length : Int)) F2_2] _ _ := hG
  refine lv_pop S.1 S.2.1 dJ4_append_15ec4_5 rfl ?_
  refine lv_aload_n S.1 S.2.1 dJ4_append_15ec4_6 rfl (lv_at hl 0 rfl) ?_
  have hG : gW K A s.heap [gSb K sb b2_2 cap2_2 (n + (wd.length : Int)) F2_2] _ _ := hG
  exact g_aret S hr hlk hQ (Or.inr ⟨_, rfl⟩) dJ4_append_15ec4_7 (Nat.le_of_ble_eq_true rfl) (Nat.le_of_ble_eq_true rfl) ((b2_2, cap2_2, F2_2) : Nat × Nat × (Int → Int)) ⟨rfl, hc2_2, hO2_2⟩ hG

set_option maxHeartbeats 1000000 in
set_option maxRecDepth 100000 in
theorem c_J7_checkLength_df160 (l : Launch) (K : KC) (a1 : Int) (a2 : Int) (h0 : 0 ≤ a1 ∧ a1 ≤ a2 ∧ a2 ≤ 602) : mV l yJ7_checkLength_df160 wsJ7_checkLength_df160 0 0 K [.int (iI a1), .int (iI a2)] [] (fun (u : Unit) => True) (fun (u : Unit) => []) 0 0 := by
  refine mV_of cJ7_checkLength_df160 2 (by decide) rfl (Nat.le_of_ble_eq_true rfl) ?_
  intro p e s m below meth c A ls Q S C hG hl hr hlk hin hQ
  have S : CallFix p m c cJ7_checkLength_df160 2 s ([.int (iI a1), .int (iI a2)] : List Value).toArray wsJ7_checkLength_df160 RJ7 := S
  have iJ40 : ∀ w ∈ wsJ40, w ∈ wsJ7_checkLength_df160 := fun _ h => List.mem_cons_of_mem _ (List.mem_append_right _ (h))
  have hl : lv_has ls 2 [(0, .int (iI a1)), (1, .int (iI a2))] := hl
  have hG : gW K A s.heap [] s.heap [] := hG
  refine lv_iload_n S.1 S.2.1 dJ7_checkLength_df160_0 rfl (lv_at hl 1 rfl) ?_
  refine lv_iload_n S.1 S.2.1 dJ7_checkLength_df160_1 rfl (lv_at hl 0 rfl) ?_
  refine g_icmp_ge (tgt := 37) S dJ7_checkLength_df160_2 (by decide) (by omega) (by omega) (fun q2 => ?_) (fun q2 => ?_)
  · skip
    have hG : gW K A s.heap [] _ _ := hG
    exact g_vret S hr hlk hQ dJ7_checkLength_df160_37 (Nat.le_of_ble_eq_true rfl) (Nat.le_of_ble_eq_true rfl) (() : Unit) trivial hG
  · skip
    omega

set_option maxHeartbeats 1000000 in
set_option maxRecDepth 100000 in
theorem c_J7_copyOfRangeByte_39247 (l : Launch) (K : KC) (b : Nat) (mn : Int) (cap : Nat) (F : Int → Int) (hm : 0 ≤ mn ∧ mn ≤ (cap : Int) ∧ (cap : Int) ≤ 602) : mG l yJ7_copyOfRangeByte_39247 wsJ7_copyOfRangeByte_39247 1 60 K [.ref b, .int (iI 0), .int (iI mn)] [gArrB K cap b F] (fun (v : Value) (u : Nat × Nat × (Int → Int)) => (v = .ref u.1) ∧ ((u.2.1 : Int) = mn) ∧ (∀ j : Int, 0 ≤ j → j < mn → u.2.2 j = F j)) (fun (u : Nat × Nat × (Int → Int)) => [gArrB K cap b F, gArrB K u.2.1 u.1 u.2.2]) 1 640 := by
  refine mG_of cJ7_copyOfRangeByte_39247 5 (by decide) rfl (Nat.le_of_ble_eq_true rfl) ?_
  intro p e s m below meth c A ls Q S C hG hl hr hlk hin hQ
  have S : CallFix p m c cJ7_copyOfRangeByte_39247 5 s ([.ref b, .int (iI 0), .int (iI mn)] : List Value).toArray wsJ7_copyOfRangeByte_39247 RJ7 := S
  have iJ40 : ∀ w ∈ wsJ40, w ∈ wsJ7_copyOfRangeByte_39247 := fun _ h => List.mem_cons_of_mem _ (List.mem_append_right _ (h))
  have hl : lv_has ls 5 [(0, .ref b), (1, .int (iI 0)), (2, .int (iI mn))] := hl
  have hG : gW K A s.heap [gArrB K cap b F] s.heap [] := hG
  refine lv_iload_n S.1 S.2.1 dJ7_copyOfRangeByte_39247_0 rfl (lv_at hl 1 rfl) ?_
  refine lv_iload_n S.1 S.2.1 dJ7_copyOfRangeByte_39247_1 rfl (lv_at hl 2 rfl) ?_
  refine g_invSv (As := [.int (iI 0), .int (iI mn)]) (rest := []) (gs' := (fun u : Unit => [gArrB K cap b F])) S C hG [] (c_J7_checkLength_df160 l K 0 mn (by omega)) rfl rfl (va_cwS 2 S.2.2.2.2 gJ7_copyOfRangeByte_39247_J7_checkLength_df160 rfl rfl rfl (by decide +kernel) ⟨Nat.le_of_ble_eq_true rfl, Nat.le_of_ble_eq_true rfl⟩) rfl hl.1 rfl (Nat.le_of_ble_eq_true rfl) dJ7_copyOfRangeByte_39247_2 ⟨Nat.le_of_ble_eq_true rfl, Nat.le_of_ble_eq_true rfl⟩ (fun _ => Nat.le_of_ble_eq_true rfl) (fun _ => rfl) (fun u H locs hp hG => ?_)
  refine lv_iload_n S.1 S.2.1 dJ7_copyOfRangeByte_39247_5 rfl (lv_at hl 2 rfl) ?_
  refine lv_iload_n S.1 S.2.1 dJ7_copyOfRangeByte_39247_6 rfl (lv_at hl 1 rfl) ?_
  refine g_isub S dJ7_copyOfRangeByte_39247_7 rfl ?_
  refine g_top (w := .int (iI (mn))) (congrArg (fun z : Int => Value.int (iI z)) (by omega)) ?_
  refine lv_istore_n (lv' := [(3, .int (iI mn)), (0, .ref b), (1, .int (iI 0)), (2, .int (iI mn))]) S.1 S.2.1 dJ7_copyOfRangeByte_39247_8 rfl hl (by decide) rfl (fun ls hl => ?_)
  refine lv_iload_n S.1 S.2.1 dJ7_copyOfRangeByte_39247_9 rfl (lv_at hl 0 rfl) ?_
  obtain ⟨N10, eN10⟩ : ∃ k9 : Nat, mn = (k9 : Int) := ⟨(mn).toNat, by omega⟩
  refine g_newa (gs' := fun nw10 => [gArrB K cap b F, gArrB K N10 nw10 (fun _ : Int => 0)]) (a0 := (N10, .inl (fun j : Nat => bB ((fun _ : Int => 0) (j : Int))))) S C hG (ty := .byte) rfl (List.mem_of_getElem? (i := 1) rfl) 1 rfl N10 eN10 (ha_b N10) (show N10 * 1 ≤ _ by omega) (by omega) (Nat.le_of_ble_eq_true rfl) (show 0 + N10 ≤ 640 by omega) (fun _ => rfl) dJ7_copyOfRangeByte_39247_10 (fun nw10 H hG => ?_)
  refine W.widen (n := (0 + 640)) (Nat.le_refl _) (by omega) ?_
  refine lv_astore (lv' := [(4, .ref nw10), (3, .int (iI mn)), (0, .ref b), (1, .int (iI 0)), (2, .int (iI mn))]) S.1 S.2.1 dJ7_copyOfRangeByte_39247_12 hl (by decide) rfl (fun ls hl => ?_)
  refine lv_aload_n S.1 S.2.1 dJ7_copyOfRangeByte_39247_14 rfl (lv_at hl 2 rfl) ?_
  refine lv_iload_n S.1 S.2.1 dJ7_copyOfRangeByte_39247_15 rfl (lv_at hl 3 rfl) ?_
  refine lv_aload S.1 S.2.1 dJ7_copyOfRangeByte_39247_16 (lv_at hl 0 rfl) ?_
  refine g_iconst S dJ7_copyOfRangeByte_39247_18 ?_
  refine lv_aload_n S.1 S.2.1 dJ7_copyOfRangeByte_39247_19 rfl (lv_at hl 2 rfl) ?_
  refine g_alen (z := (cap : Int)) S C hG 0 1 rfl rfl rfl dJ7_copyOfRangeByte_39247_20 ?_
  refine lv_iload_n S.1 S.2.1 dJ7_copyOfRangeByte_39247_21 rfl (lv_at hl 3 rfl) ?_
  refine g_isub S dJ7_copyOfRangeByte_39247_22 rfl ?_
  refine lv_iload_n S.1 S.2.1 dJ7_copyOfRangeByte_39247_23 rfl (lv_at hl 1 rfl) ?_
  refine va_mmin S.1 S.2.1 (by rw [S.2.2.1]; exact hl.1.symm) S.2.2.2.1 (S.2.2.2.2 _ (List.mem_of_getElem? (i := 2) rfl)) (S.2.2.2.2 _ (List.mem_of_getElem? (i := 3) rfl)) (S.2.2.2.2 _ (List.mem_of_getElem? (i := 4) rfl)) (S.2.2.2.2 _ (List.mem_of_getElem? (i := 5) rfl)) (Nat.le_of_ble_eq_true rfl) (Nat.le_of_ble_eq_true rfl) (Nat.le_of_ble_eq_true rfl) (Nat.le_of_ble_eq_true rfl) dJ7_copyOfRangeByte_39247_24 ?_
  refine g_top (w := .int (iI (min ((cap : Int) - 0) mn))) (imin_eq (by omega) (by omega)) ?_
  refine g_top (w := .int (iI (mn))) (congrArg (fun z : Int => Value.int (iI z)) (by omega)) ?_
  refine g_bcopy (gs' := [gArrB K cap b F, gArrB K N10 nw10 (cpyI F (fun _ : Int => 0) mn)]) S C hG hl.1 (List.mem_of_getElem? (i := 6) rfl) (List.mem_of_getElem? (i := 7) rfl) (List.mem_of_getElem? (i := 8) rfl) (List.mem_of_getElem? (i := 9) rfl) 0 1 rfl rfl (by omega) (by omega) (by omega) (by omega) (Nat.le_of_ble_eq_true rfl) (Nat.le_of_ble_eq_true rfl) rfl dJ7_copyOfRangeByte_39247_27 (fun H locs hG => ?_)
  refine lv_aload S.1 S.2.1 dJ7_copyOfRangeByte_39247_30 (lv_at hl 0 rfl) ?_
  have hG : gW K A s.heap [gArrB K cap b F, gArrB K N10 nw10 (cpyI F (fun _ : Int => 0) mn)] _ _ := hG
  exact g_aretA S hr hlk hQ (Or.inr ⟨_, rfl⟩) dJ7_copyOfRangeByte_39247_32 (Nat.le_of_ble_eq_true rfl) (Nat.le_of_ble_eq_true rfl) ((nw10, N10, cpyI F (fun _ : Int => 0) mn) : Nat × Nat × (Int → Int)) ⟨rfl, (by first | omega | (dsimp only; omega)), (fun j j0 j1 => by show cpyI F (fun _ : Int => 0) mn j = F j; unfold cpyI; rw [if_pos (by omega)])⟩ hG

set_option maxHeartbeats 1000000 in
set_option maxRecDepth 100000 in
theorem c_J7_copyOfRange_39247 (l : Launch) (K : KC) (b : Nat) (mn : Int) (cap : Nat) (F : Int → Int) (hm : 0 ≤ mn ∧ mn ≤ (cap : Int) ∧ (cap : Int) ≤ 602) : mG l yJ7_copyOfRange_39247 wsJ7_copyOfRange_39247 2 84 K [.ref b, .int (iI 0), .int (iI mn)] [gArrB K cap b F] (fun (v : Value) (u : Nat × Nat × (Int → Int)) => (v = .ref u.1) ∧ ((u.2.1 : Int) = mn) ∧ (∀ j : Int, 0 ≤ j → j < mn → u.2.2 j = F j)) (fun (u : Nat × Nat × (Int → Int)) => [gArrB K cap b F, gArrB K u.2.1 u.1 u.2.2]) 1 640 := by
  refine mG_of cJ7_copyOfRange_39247 3 (by decide) rfl (Nat.le_of_ble_eq_true rfl) ?_
  intro p e s m below meth c A ls Q S C hG hl hr hlk hin hQ
  have S : CallFix p m c cJ7_copyOfRange_39247 3 s ([.ref b, .int (iI 0), .int (iI mn)] : List Value).toArray wsJ7_copyOfRange_39247 RJ7 := S
  have iJ40 : ∀ w ∈ wsJ40, w ∈ wsJ7_copyOfRange_39247 := fun _ h => List.mem_cons_of_mem _ (List.mem_append_right _ (h))
  have hl : lv_has ls 3 [(0, .ref b), (1, .int (iI 0)), (2, .int (iI mn))] := hl
  have hG : gW K A s.heap [gArrB K cap b F] s.heap [] := hG
  refine lv_iload_n S.1 S.2.1 dJ7_copyOfRange_39247_0 rfl (lv_at hl 1 rfl) ?_
  refine g_if_ne (tgt := 10) S dJ7_copyOfRange_39247_1 (by decide) (by omega) (fun q1 => ?_) (fun q1 => ?_)
  · skip
    exact absurd q1 (by decide)
  · skip
    refine lv_iload_n S.1 S.2.1 dJ7_copyOfRange_39247_4 rfl (lv_at hl 2 rfl) ?_
    refine lv_aload_n S.1 S.2.1 dJ7_copyOfRange_39247_5 rfl (lv_at hl 0 rfl) ?_
    refine g_alen (z := (cap : Int)) S C hG 0 1 rfl rfl rfl dJ7_copyOfRange_39247_6 ?_
    refine g_icmp_eq (tgt := 17) S dJ7_copyOfRange_39247_7 (by decide) (by omega) (by omega) (fun q7 => ?_) (fun q7 => ?_)
    · skip
      refine lv_aload_n S.1 S.2.1 dJ7_copyOfRange_39247_17 rfl (lv_at hl 0 rfl) ?_
      refine g_clone (gs' := fun nw18 => [gArrB K cap b F, gArrB K cap nw18 F]) S C hG hl.1 (List.mem_of_getElem? (i := 1) rfl) (List.mem_of_getElem? (i := 2) rfl) (List.mem_of_getElem? (i := 3) rfl) (List.mem_of_getElem? (i := 4) rfl) (List.mem_of_getElem? (i := 5) rfl) 0 rfl (Nat.le_of_ble_eq_true rfl) (Nat.le_of_ble_eq_true rfl) (Nat.le_of_ble_eq_true rfl) (show 0 + cap ≤ 640 by omega) (fun _ => rfl) dJ7_copyOfRange_39247_18 (fun nw18 H hG => ?_)
      refine W.widen (n := (0 + 640)) (Nat.le_refl _) (by omega) ?_
      refine g_castA S C hG (List.mem_of_getElem? (i := 6) rfl) 1 rfl dJ7_copyOfRange_39247_21 ?_
      have hG : gW K A s.heap [gArrB K cap b F, gArrB K cap nw18 F] _ _ := hG
      exact g_aretA S hr hlk hQ (Or.inr ⟨_, rfl⟩) dJ7_copyOfRange_39247_24 (Nat.le_of_ble_eq_true rfl) (Nat.le_of_ble_eq_true rfl) ((nw18, cap, F) : Nat × Nat × (Int → Int)) ⟨rfl, (by first | omega | (dsimp only; omega)), (fun j j0 j1 => rfl)⟩ hG
    · skip
      refine lv_aload_n S.1 S.2.1 dJ7_copyOfRange_39247_10 rfl (lv_at hl 0 rfl) ?_
      refine lv_iload_n S.1 S.2.1 dJ7_copyOfRange_39247_11 rfl (lv_at hl 1 rfl) ?_
      refine lv_iload_n S.1 S.2.1 dJ7_copyOfRange_39247_12 rfl (lv_at hl 2 rfl) ?_
      refine g_invS (As := [.ref b, .int (iI 0), .int (iI mn)]) (rest := []) (gs' := (fun u : Nat × Nat × (Int → Int) => [gArrB K cap b F, gArrB K u.2.1 u.1 u.2.2])) S C hG [0] (c_J7_copyOfRangeByte_39247 l K b mn cap F hm) rfl rfl (va_cwS 3 S.2.2.2.2 gJ7_copyOfRange_39247_J7_copyOfRangeByte_39247 rfl rfl rfl (by decide +kernel) ⟨Nat.le_of_ble_eq_true rfl, Nat.le_of_ble_eq_true rfl⟩) rfl hl.1 rfl (Nat.le_of_ble_eq_true rfl) dJ7_copyOfRange_39247_13 ⟨Nat.le_of_ble_eq_true rfl, Nat.le_of_ble_eq_true rfl⟩ (fun _ => Nat.le_of_ble_eq_true rfl) (fun _ => rfl) (fun v u H locs hp hG => ?_)
      obtain ⟨b2_13, c2_13, F2_13⟩ := u
      obtain ⟨rfl, hc2_13, hF_13⟩ := hp
      have hc2_13 : (c2_13 : Int) = mn := hc2_13
      have hF_13 : ∀ j : Int, 0 ≤ j → j < mn → F2_13 j = F j := hF_13
      have hG : gW K A s.heap [gArrB K cap b F, gArrB K c2_13 b2_13 F2_13] _ _ := hG
      have hG : gW K A s.heap [gArrB K cap b F, gArrB K c2_13 b2_13 F2_13] _ _ := hG
      exact g_aretA S hr hlk hQ (Or.inr ⟨_, rfl⟩) dJ7_copyOfRange_39247_16 (Nat.le_of_ble_eq_true rfl) (Nat.le_of_ble_eq_true rfl) ((b2_13, c2_13, F2_13) : Nat × Nat × (Int → Int)) ⟨rfl, (by first | omega | (dsimp only; omega)), hF_13⟩ hG

set_option maxHeartbeats 1000000 in
set_option maxRecDepth 100000 in
theorem c_J0_init_db425 (l : Launch) (K : KC) (st : Nat) (sb : Nat) (b : Nat) (cap : Nat) (n : Int) (F : Int → Int) (tx : List Int) (hc : 0 ≤ n ∧ n ≤ (cap : Int) ∧ (cap : Int) ≤ 602) (hO : OutI F n tx) : mV l yJ0_init_db425 wsJ0_init_db425 3 106 K [.ref st, .ref sb, .null] [gNewJ0 K st, gSb K sb b cap n F] (fun (u : Nat × Nat × (Int → Int)) => ((u.2.1 : Int) = n) ∧ (OutI u.2.2 n tx)) (fun (u : Nat × Nat × (Int → Int)) => [gStO K st u.1 u.2.1 u.2.2, gSb K sb b cap n F]) 1 640 := by
  refine mV_of cJ0_init_db425 5 (by decide) rfl (Nat.le_of_ble_eq_true rfl) ?_
  intro p e s m below meth c A ls Q S C hG hl hr hlk hin hQ
  have S : CallFix p m c cJ0_init_db425 5 s ([.ref st, .ref sb, .null] : List Value).toArray wsJ0_init_db425 RJ0 := S
  have iJ00 : ∀ w ∈ wsJ00, w ∈ wsJ0_init_db425 := fun _ h => List.mem_cons_of_mem _ (List.mem_append_left _ (List.mem_append_right _ (h)))
  have iJ40 : ∀ w ∈ wsJ40, w ∈ wsJ0_init_db425 := fun _ h => List.mem_cons_of_mem _ (List.mem_append_right _ (h))
  have hl : lv_has ls 5 [(0, .ref st), (1, .ref sb), (2, .null)] := hl
  have hG : gW K A s.heap [gNewJ0 K st, gSb K sb b cap n F] s.heap [] := hG
  refine lv_aload_n S.1 S.2.1 dJ0_init_db425_0 rfl (lv_at hl 0 rfl) ?_
  refine W.objInit S.1 S.2.1 S.2.2.2.1 (S.2.2.2.2 _ (List.mem_of_getElem? (i := 1) rfl)) (S.2.2.2.2 _ (List.mem_of_getElem? (i := 2) rfl)) (S.2.2.2.2 _ (List.mem_of_getElem? (i := 3) rfl)) rfl (by rw [S.2.2.1]; exact hl.1) rfl dJ0_init_db425_1 (Nat.le_of_ble_eq_true rfl) (Nat.le_of_ble_eq_true rfl) ?_
  refine W.eq (g2 := F0 m 4 ls []) rfl ?_
  refine lv_aload_n S.1 S.2.1 dJ0_init_db425_4 rfl (lv_at hl 1 rfl) ?_
  have hG : gW K A s.heap [gNewJ0 K st, gSbC K sb b n, gArrB K cap b F] _ _ := hG
  refine g_invU (As := []) (rest := []) (gs' := (fun u : Unit => [gNewJ0 K st, gSbC K sb b n, gArrB K cap b F])) S C hG [1] (c_J5_getValue_6d5f1 l K sb b n) rfl rfl 0 rfl rfl (va_cwU 0 S.2.2.2.2 gJ0_init_db425_J5_getValue_6d5f1_u552J4 rfl rfl rfl rfl (by decide +kernel) ⟨Nat.le_of_ble_eq_true rfl, Nat.le_of_ble_eq_true rfl⟩) rfl hl.1 rfl (Nat.le_of_ble_eq_true rfl) dJ0_init_db425_5 ⟨Nat.le_of_ble_eq_true rfl, Nat.le_of_ble_eq_true rfl⟩ (fun _ => Nat.le_of_ble_eq_true rfl) (fun _ => rfl) (fun v u H locs hp hG => ?_)
  subst hp
  refine lv_astore_n (lv' := [(3, .ref b), (0, .ref st), (1, .ref sb), (2, .null)]) S.1 S.2.1 dJ0_init_db425_8 rfl hl (by decide) rfl (fun ls hl => ?_)
  refine lv_aload_n S.1 S.2.1 dJ0_init_db425_9 rfl (lv_at hl 2 rfl) ?_
  refine g_invU (As := []) (rest := []) (gs' := (fun u : Unit => [gNewJ0 K st, gSbC K sb b n, gArrB K cap b F])) S C hG [1] (c_J4_length_8abf5 l K sb b n) rfl rfl 0 rfl rfl (va_cwO 0 S.2.2.2.2 gJ0_init_db425_J4_length_8abf5_u549J4 rfl rfl rfl (List.mem_of_getElem? (i := 25) rfl) (by decide +kernel) ⟨Nat.le_of_ble_eq_true rfl, Nat.le_of_ble_eq_true rfl⟩) rfl hl.1 rfl (Nat.le_of_ble_eq_true rfl) dJ0_init_db425_10 ⟨Nat.le_of_ble_eq_true rfl, Nat.le_of_ble_eq_true rfl⟩ (fun _ => Nat.le_of_ble_eq_true rfl) (fun _ => rfl) (fun v u H locs hp hG => ?_)
  subst hp
  refine lv_istore (lv' := [(4, .int (iI n)), (3, .ref b), (0, .ref st), (1, .ref sb), (2, .null)]) S.1 S.2.1 dJ0_init_db425_13 hl (by decide) rfl (fun ls hl => ?_)
  refine lv_aload_n S.1 S.2.1 dJ0_init_db425_15 rfl (lv_at hl 3 rfl) ?_
  refine g_invU (As := []) (rest := []) (gs' := (fun u : Unit => [gNewJ0 K st, gSbC K sb b n, gArrB K cap b F])) S C hG [1] (c_J5_isLatin1_aae02 l K sb b n) rfl rfl 0 rfl rfl (va_cwU 0 S.2.2.2.2 gJ0_init_db425_J5_isLatin1_aae02_u1047J4 rfl rfl rfl rfl (by decide +kernel) ⟨Nat.le_of_ble_eq_true rfl, Nat.le_of_ble_eq_true rfl⟩) rfl hl.1 rfl (Nat.le_of_ble_eq_true rfl) dJ0_init_db425_16 ⟨Nat.le_of_ble_eq_true rfl, Nat.le_of_ble_eq_true rfl⟩ (fun _ => Nat.le_of_ble_eq_true rfl) (fun _ => rfl) (fun v u H locs hp hG => ?_)
  subst hp
  refine g_if_eq (tgt := 41) S dJ0_init_db425_19 (by decide) (by omega) (fun q19 => ?_) (fun q19 => ?_)
  · skip
    exact absurd q19 (by decide)
  · skip
    refine lv_aload_n S.1 S.2.1 dJ0_init_db425_22 rfl (lv_at hl 2 rfl) ?_
    refine g_iconst S dJ0_init_db425_23 ?_
    refine g_putF (gs' := [[(st, .inr (9, [.null, .int (iI 0), .int (iI 0), .int (iI 0)]))], gSbC K sb b n, gArrB K cap b F]) S C hG iJ00 tyJ0 tyJ0_ok nmJ0 0 rfl rfl 1 (by decide) (List.mem_of_getElem? (i := 4) rfl) rfl hin rfl rfl rfl (Nat.le_of_ble_eq_true rfl) rfl dJ0_init_db425_24 (fun H locs hG => ?_)
    refine lv_aload_n S.1 S.2.1 dJ0_init_db425_27 rfl (lv_at hl 2 rfl) ?_
    refine lv_aload_n S.1 S.2.1 dJ0_init_db425_28 rfl (lv_at hl 1 rfl) ?_
    refine g_iconst S dJ0_init_db425_29 ?_
    refine lv_iload S.1 S.2.1 dJ0_init_db425_30 (lv_at hl 0 rfl) ?_
    refine g_invS (As := [.ref b, .int (iI 0), .int (iI n)]) (rest := [.ref st]) (gs' := (fun u : Nat × Nat × (Int → Int) => [[(st, .inr (9, [.null, .int (iI 0), .int (iI 0), .int (iI 0)]))], gSbC K sb b n, gArrB K cap b F, gArrB K u.2.1 u.1 u.2.2])) S C hG [2] (c_J7_copyOfRange_39247 l K b n cap F hc) rfl rfl (va_cwS 3 S.2.2.2.2 gJ0_init_db425_J7_copyOfRange_39247 rfl rfl rfl (by decide +kernel) ⟨Nat.le_of_ble_eq_true rfl, Nat.le_of_ble_eq_true rfl⟩) rfl hl.1 rfl (Nat.le_of_ble_eq_true rfl) dJ0_init_db425_32 ⟨Nat.le_of_ble_eq_true rfl, Nat.le_of_ble_eq_true rfl⟩ (fun _ => Nat.le_of_ble_eq_true rfl) (fun _ => rfl) (fun v u H locs hp hG => ?_)
    obtain ⟨b2_32, c2_32, F2_32⟩ := u
    obtain ⟨rfl, hc2_32, hF_32⟩ := hp
    have hc2_32 : (c2_32 : Int) = n := hc2_32
    have hF_32 : ∀ j : Int, 0 ≤ j → j < n → F2_32 j = F j := hF_32
    have hG : gW K A s.heap [[(st, .inr (9, [.null, .int (iI 0), .int (iI 0), .int (iI 0)]))], gSbC K sb b n, gArrB K cap b F, gArrB K c2_32 b2_32 F2_32] _ _ := hG
    refine g_putF (gs' := [[(st, .inr (9, [.ref b2_32, .int (iI 0), .int (iI 0), .int (iI 0)]))], gSbC K sb b n, gArrB K cap b F, gArrB K c2_32 b2_32 F2_32]) S C hG iJ00 tyJ0 tyJ0_ok nmJ0 0 rfl rfl 0 (by decide) (List.mem_of_getElem? (i := 5) rfl) rfl hin rfl rfl rfl (Nat.le_of_ble_eq_true rfl) rfl dJ0_init_db425_35 (fun H locs hG => ?_)
    refine lv_goto (tgt := 97) S.1 S.2.1 dJ0_init_db425_38 (by decide) ?_
    have hG : gW K A s.heap [[(st, .inr (9, [.ref b2_32, .int (iI 0), .int (iI 0), .int (iI 0)]))], gArrB K c2_32 b2_32 F2_32, gSbC K sb b n, gArrB K cap b F] _ _ := gW_pick [0, 3, 1, 2] rfl rfl hG
    have hG : gW K A s.heap [gStO K st b2_32 c2_32 F2_32, gSb K sb b cap n F] _ _ := hG
    exact g_vret S hr hlk hQ dJ0_init_db425_97 (Nat.le_of_ble_eq_true rfl) (Nat.le_of_ble_eq_true rfl) ((b2_32, c2_32, F2_32) : Nat × Nat × (Int → Int)) ⟨(by first | omega | (dsimp only; omega)), (hO.congr hF_32)⟩ hG

set_option maxHeartbeats 1000000 in
set_option maxRecDepth 100000 in
theorem c_J0_init_81219 (l : Launch) (K : KC) (st : Nat) (sb : Nat) (b : Nat) (cap : Nat) (n : Int) (F : Int → Int) (tx : List Int) (hc : 0 ≤ n ∧ n ≤ (cap : Int) ∧ (cap : Int) ≤ 602) (hO : OutI F n tx) : mV l yJ0_init_81219 wsJ0_init_81219 4 130 K [.ref st, .ref sb] [gNewJ0 K st, gSb K sb b cap n F] (fun (u : Nat × Nat × (Int → Int)) => ((u.2.1 : Int) = n) ∧ (OutI u.2.2 n tx)) (fun (u : Nat × Nat × (Int → Int)) => [gStO K st u.1 u.2.1 u.2.2, gSb K sb b cap n F]) 1 640 := by
  refine mV_of cJ0_init_81219 2 (by decide) rfl (Nat.le_of_ble_eq_true rfl) ?_
  intro p e s m below meth c A ls Q S C hG hl hr hlk hin hQ
  have S : CallFix p m c cJ0_init_81219 2 s ([.ref st, .ref sb] : List Value).toArray wsJ0_init_81219 RJ0 := S
  have iJ00 : ∀ w ∈ wsJ00, w ∈ wsJ0_init_81219 := fun _ h => List.mem_cons_of_mem _ (List.mem_append_left _ (List.mem_append_right _ (h)))
  have iJ40 : ∀ w ∈ wsJ40, w ∈ wsJ0_init_81219 := fun _ h => List.mem_cons_of_mem _ (List.mem_append_right _ (h))
  have hl : lv_has ls 2 [(0, .ref st), (1, .ref sb)] := hl
  have hG : gW K A s.heap [gNewJ0 K st, gSb K sb b cap n F] s.heap [] := hG
  refine lv_aload_n S.1 S.2.1 dJ0_init_81219_0 rfl (lv_at hl 0 rfl) ?_
  refine lv_aload_n S.1 S.2.1 dJ0_init_81219_1 rfl (lv_at hl 1 rfl) ?_
  refine lv_null S.1 S.2.1 dJ0_init_81219_2 ?_
  refine g_invI (As := [.ref sb, .null]) (rest := []) (gs' := (fun u : Nat × Nat × (Int → Int) => [gStO K st u.1 u.2.1 u.2.2, gSb K sb b cap n F])) S C hG [0, 1] (c_J0_init_db425 l K st sb b cap n F tx hc hO) rfl rfl (cwI 2 S.2.2.2.2 gJ0_init_81219_J0_init_db425 rfl rfl rfl (S.2.2.2.2 _ (List.mem_of_getElem? (i := 3) rfl)) (S.2.2.2.2 _ (List.mem_of_getElem? (i := 1) rfl)) (S.2.2.2.2 _ (List.mem_of_getElem? (i := 2) rfl)) rfl (by decide +kernel) ⟨Nat.le_of_ble_eq_true rfl, Nat.le_of_ble_eq_true rfl⟩) rfl hl.1 rfl (Nat.le_of_ble_eq_true rfl) dJ0_init_81219_3 ⟨Nat.le_of_ble_eq_true rfl, Nat.le_of_ble_eq_true rfl⟩ (fun _ => Nat.le_of_ble_eq_true rfl) (fun _ => rfl) (fun u H locs hp hG => ?_)
  obtain ⟨b2_3, c2_3, F2_3⟩ := u
  obtain ⟨hc2_3, hO2_3⟩ := hp
  have hc2_3 : (c2_3 : Int) = n := hc2_3
  have hO2_3 : OutI F2_3 n tx := hO2_3
  have hG : gW K A s.heap [gStO K st b2_3 c2_3 F2_3, gSb K sb b cap n F] _ _ := hG
  have hG : gW K A s.heap [gStO K st b2_3 c2_3 F2_3, gSb K sb b cap n F] _ _ := hG
  exact g_vret S hr hlk hQ dJ0_init_81219_6 (Nat.le_of_ble_eq_true rfl) (Nat.le_of_ble_eq_true rfl) ((b2_3, c2_3, F2_3) : Nat × Nat × (Int → Int)) ⟨hc2_3, hO2_3⟩ hG

set_option maxHeartbeats 1000000 in
set_option maxRecDepth 100000 in
theorem c_J4_toString_0e30d (l : Launch) (K : KC) (sb : Nat) (b : Nat) (cap : Nat) (n : Int) (F : Int → Int) (tx : List Int) (hc : 0 ≤ n ∧ n ≤ (cap : Int) ∧ (cap : Int) ≤ 602) (hO : OutI F n tx) : mG l yJ4_toString_0e30d wsJ4_toString_0e30d 5 151 K [.ref sb] [gSb K sb b cap n F] (fun (v : Value) (u : Nat × Nat × Nat × (Int → Int)) => (v = .ref u.1) ∧ ((u.2.2.1 : Int) = n) ∧ (OutI u.2.2.2 n tx)) (fun (u : Nat × Nat × Nat × (Int → Int)) => [gSb K sb b cap n F, gStO K u.1 u.2.1 u.2.2.1 u.2.2.2]) 2 644 := by
  refine mG_of cJ4_toString_0e30d 1 (by decide) rfl (Nat.le_of_ble_eq_true rfl) ?_
  intro p e s m below meth c A ls Q S C hG hl hr hlk hin hQ
  have S : CallFix p m c cJ4_toString_0e30d 1 s ([.ref sb] : List Value).toArray wsJ4_toString_0e30d RJ4 := S
  have iJ00 : ∀ w ∈ wsJ00, w ∈ wsJ4_toString_0e30d := fun _ h => List.mem_cons_of_mem _ (List.mem_append_left _ (List.mem_append_right _ (h)))
  have iJ40 : ∀ w ∈ wsJ40, w ∈ wsJ4_toString_0e30d := fun _ h => List.mem_cons_of_mem _ (List.mem_append_right _ (h))
  have hl : lv_has ls 1 [(0, .ref sb)] := hl
  have hG : gW K A s.heap [gSb K sb b cap n F] s.heap [] := hG
  refine g_new (ci := 9) (fs := [.null, .int (iI 0), .int (iI 0), .int (iI 0)]) (gs' := fun nw0 => [gSb K sb b cap n F, gNewJ0 K nw0]) S C hG iJ00 tyJ0 tyJ0_ok (List.mem_of_getElem? (i := 1) rfl) (List.mem_of_getElem? (i := 2) rfl) (List.mem_of_getElem? (i := 3) rfl) rfl dfJ0 (Nat.le_of_ble_eq_true rfl) (Nat.le_of_ble_eq_true rfl) (fun nw0 => rfl) dJ4_toString_0e30d_0 (fun nw0 H hG => ?_)
  refine lv_dup S.1 S.2.1 dJ4_toString_0e30d_3 rfl ?_
  refine lv_aload_n S.1 S.2.1 dJ4_toString_0e30d_4 rfl (lv_at hl 0 rfl) ?_
  refine g_invI (As := [.ref sb]) (rest := [.ref nw0]) (gs' := (fun u : Nat × Nat × (Int → Int) => [gSb K sb b cap n F, gStO K nw0 u.1 u.2.1 u.2.2])) S C hG [1, 0] (c_J0_init_81219 l K nw0 sb b cap n F tx hc hO) rfl rfl (cwI 1 S.2.2.2.2 gJ4_toString_0e30d_J0_init_81219 rfl rfl rfl (S.2.2.2.2 _ (List.mem_of_getElem? (i := 3) rfl)) (S.2.2.2.2 _ (List.mem_of_getElem? (i := 4) rfl)) (S.2.2.2.2 _ (List.mem_of_getElem? (i := 5) rfl)) rfl (by decide +kernel) ⟨Nat.le_of_ble_eq_true rfl, Nat.le_of_ble_eq_true rfl⟩) rfl hl.1 rfl (Nat.le_of_ble_eq_true rfl) dJ4_toString_0e30d_5 ⟨Nat.le_of_ble_eq_true rfl, Nat.le_of_ble_eq_true rfl⟩ (fun _ => Nat.le_of_ble_eq_true rfl) (fun _ => rfl) (fun u H locs hp hG => ?_)
  obtain ⟨b2_5, c2_5, F2_5⟩ := u
  obtain ⟨hc2_5, hO2_5⟩ := hp
  have hc2_5 : (c2_5 : Int) = n := hc2_5
  have hO2_5 : OutI F2_5 n tx := hO2_5
  have hG : gW K A s.heap [gSb K sb b cap n F, gStO K nw0 b2_5 c2_5 F2_5] _ _ := hG
  have hG : gW K A s.heap [gSb K sb b cap n F, gStO K nw0 b2_5 c2_5 F2_5] _ _ := hG
  exact g_aret S hr hlk hQ (Or.inr ⟨_, rfl⟩) dJ4_toString_0e30d_8 (Nat.le_of_ble_eq_true rfl) (Nat.le_of_ble_eq_true rfl) ((nw0, b2_5, c2_5, F2_5) : Nat × Nat × Nat × (Int → Int)) ⟨rfl, hc2_5, hO2_5⟩ hG

set_option maxHeartbeats 1000000 in
set_option maxRecDepth 100000 in
theorem m_J0_coder (l : Launch) (K : KC) (st : Nat) (b : Nat) (n1 : Nat) (F : Int → Int) : mG l yJ0_coder_7d493 wsJ0_coder_7d493 0 0 K [.ref st] [gStO K st b n1 F] (fun (v : Value) (u : Unit) => (v = .int (iI 0))) (fun (u : Unit) => [gStO K st b n1 F]) 0 0 := by
  refine mG_of cJ0_coder_7d493 1 (by decide) rfl (Nat.le_of_ble_eq_true rfl) ?_
  intro p e s m below meth c A ls Q S C hG hl hr hlk hin hQ
  have S : CallFix p m c cJ0_coder_7d493 1 s ([.ref st] : List Value).toArray wsJ0_coder_7d493 RJ0 := S
  have iJ00 : ∀ w ∈ wsJ00, w ∈ wsJ0_coder_7d493 := fun _ h => List.mem_cons_of_mem _ (List.mem_append_right _ (h))
  have hl : lv_has ls 1 [(0, .ref st)] := hl
  have hG : gW K A s.heap [gStO K st b n1 F] s.heap [] := hG
  refine g_gets S C hG C.1.2.2.2.2.1.2.2.1 (List.mem_of_getElem? (i := 1) rfl) dJ0_coder_7d493_0 ?_
  refine g_top (w := .int (iI 1)) rfl ?_
  refine g_if_eq (tgt := 13) S dJ0_coder_7d493_3 (by decide) (by omega) (fun q3 => ?_) (fun q3 => ?_)
  · skip
    exact absurd q3 (by decide)
  · skip
    refine lv_aload_n S.1 S.2.1 dJ0_coder_7d493_6 rfl (lv_at hl 0 rfl) ?_
    refine g_get S C hG iJ00 0 rfl rfl 1 (by decide) (List.mem_of_getElem? (i := 2) rfl) rfl dJ0_coder_7d493_7 ?_
    refine lv_goto (tgt := 14) S.1 S.2.1 dJ0_coder_7d493_10 (by decide) ?_
    have hG : gW K A s.heap [gStO K st b n1 F] _ _ := hG
    exact g_nret S hr hlk hQ rfl dJ0_coder_7d493_14 (Nat.le_of_ble_eq_true rfl) (Nat.le_of_ble_eq_true rfl) (() : Unit) rfl hG

set_option maxHeartbeats 1000000 in
set_option maxRecDepth 100000 in
theorem m_J0_isLatin1 (l : Launch) (K : KC) (st : Nat) (b : Nat) (n1 : Nat) (F : Int → Int) : mG l yJ0_isLatin1_aae02 wsJ0_isLatin1_aae02 0 0 K [.ref st] [gStO K st b n1 F] (fun (v : Value) (u : Unit) => (v = .int (iI 1))) (fun (u : Unit) => [gStO K st b n1 F]) 0 0 := by
  refine mG_of cJ0_isLatin1_aae02 1 (by decide) rfl (Nat.le_of_ble_eq_true rfl) ?_
  intro p e s m below meth c A ls Q S C hG hl hr hlk hin hQ
  have S : CallFix p m c cJ0_isLatin1_aae02 1 s ([.ref st] : List Value).toArray wsJ0_isLatin1_aae02 RJ0 := S
  have iJ00 : ∀ w ∈ wsJ00, w ∈ wsJ0_isLatin1_aae02 := fun _ h => List.mem_cons_of_mem _ (List.mem_append_right _ (h))
  have hl : lv_has ls 1 [(0, .ref st)] := hl
  have hG : gW K A s.heap [gStO K st b n1 F] s.heap [] := hG
  refine g_gets S C hG C.1.2.2.2.2.1.2.2.1 (List.mem_of_getElem? (i := 1) rfl) dJ0_isLatin1_aae02_0 ?_
  refine g_top (w := .int (iI 1)) rfl ?_
  refine g_if_eq (tgt := 17) S dJ0_isLatin1_aae02_3 (by decide) (by omega) (fun q3 => ?_) (fun q3 => ?_)
  · skip
    exact absurd q3 (by decide)
  · skip
    refine lv_aload_n S.1 S.2.1 dJ0_isLatin1_aae02_6 rfl (lv_at hl 0 rfl) ?_
    refine g_get S C hG iJ00 0 rfl rfl 1 (by decide) (List.mem_of_getElem? (i := 2) rfl) rfl dJ0_isLatin1_aae02_7 ?_
    refine g_if_ne (tgt := 17) S dJ0_isLatin1_aae02_10 (by decide) (by omega) (fun q10 => ?_) (fun q10 => ?_)
    · skip
      exact absurd q10 (by decide)
    · skip
      refine g_iconst S dJ0_isLatin1_aae02_13 ?_
      refine lv_goto (tgt := 18) S.1 S.2.1 dJ0_isLatin1_aae02_14 (by decide) ?_
      have hG : gW K A s.heap [gStO K st b n1 F] _ _ := hG
      exact g_zret S hr hlk hQ (Or.inr rfl) dJ0_isLatin1_aae02_18 (Nat.le_of_ble_eq_true rfl) (Nat.le_of_ble_eq_true rfl) (() : Unit) rfl hG

set_option maxHeartbeats 1000000 in
set_option maxRecDepth 100000 in
theorem m_J0_length (l : Launch) (K : KC) (st : Nat) (b : Nat) (n1 : Nat) (F : Int → Int) (hn : n1 ≤ 602) : mG l yJ0_length_8abf5 wsJ0_length_8abf5 1 20 K [.ref st] [gStO K st b n1 F] (fun (v : Value) (u : Unit) => (v = .int (iI (n1 : Int)))) (fun (u : Unit) => [gStO K st b n1 F]) 0 0 := by
  refine mG_of cJ0_length_8abf5 1 (by decide) rfl (Nat.le_of_ble_eq_true rfl) ?_
  intro p e s m below meth c A ls Q S C hG hl hr hlk hin hQ
  have S : CallFix p m c cJ0_length_8abf5 1 s ([.ref st] : List Value).toArray wsJ0_length_8abf5 RJ0 := S
  have iJ00 : ∀ w ∈ wsJ00, w ∈ wsJ0_length_8abf5 := fun _ h => List.mem_cons_of_mem _ (List.mem_append_right _ (h))
  have hl : lv_has ls 1 [(0, .ref st)] := hl
  have hG : gW K A s.heap [gStO K st b n1 F] s.heap [] := hG
  refine lv_aload_n S.1 S.2.1 dJ0_length_8abf5_0 rfl (lv_at hl 0 rfl) ?_
  refine g_get S C hG iJ00 0 rfl rfl 0 (by decide) (List.mem_of_getElem? (i := 1) rfl) rfl dJ0_length_8abf5_1 ?_
  refine g_alen (z := (n1 : Int)) S C hG 1 1 rfl rfl rfl dJ0_length_8abf5_4 ?_
  refine lv_aload_n S.1 S.2.1 dJ0_length_8abf5_5 rfl (lv_at hl 0 rfl) ?_
  refine g_invV (As := []) (rest := [.int (iI (n1 : Int))]) (gs' := (fun u : Unit => [gStO K st b n1 F])) S C hG [0] (m_J0_coder l K st b n1 F) rfl rfl 0 rfl rfl (cwV 0 S.2.2.2.2 gJ0_length_8abf5_J0_coder_7d493 rfl rfl rfl (by decide +kernel) ⟨Nat.le_of_ble_eq_true rfl, Nat.le_of_ble_eq_true rfl⟩) rfl hl.1 rfl (Nat.le_of_ble_eq_true rfl) dJ0_length_8abf5_6 ⟨Nat.le_of_ble_eq_true rfl, Nat.le_of_ble_eq_true rfl⟩ (fun _ => Nat.le_of_ble_eq_true rfl) (fun _ => rfl) (fun v u H locs hp hG => ?_)
  subst hp
  refine g_shr0 S dJ0_length_8abf5_9 ?_
  have hG : gW K A s.heap [gStO K st b n1 F] _ _ := hG
  exact g_iret S hr hlk hQ dJ0_length_8abf5_10 (Nat.le_of_ble_eq_true rfl) (Nat.le_of_ble_eq_true rfl) (() : Unit) rfl hG

set_option maxHeartbeats 1000000 in
set_option maxRecDepth 100000 in
theorem m_J1_charAt (l : Launch) (K : KC) (b : Nat) (k : Int) (n1 : Nat) (F : Int → Int) (hk : 0 ≤ k ∧ k < (n1 : Int) ∧ (n1 : Int) ≤ 602) (hb : 0 ≤ F k ∧ F k ≤ 127) : mG l yJ1_charAt_3b067 wsJ1_charAt_3b067 2 43 K [.ref b, .int (iI k)] [gArrB K n1 b F] (fun (v : Value) (u : Unit) => (v = .int (iI (F k)))) (fun (u : Unit) => [gArrB K n1 b F]) 0 0 := by
  refine mG_of cJ1_charAt_3b067 2 (by decide) rfl (Nat.le_of_ble_eq_true rfl) ?_
  intro p e s m below meth c A ls Q S C hG hl hr hlk hin hQ
  have S : CallFix p m c cJ1_charAt_3b067 2 s ([.ref b, .int (iI k)] : List Value).toArray wsJ1_charAt_3b067 RJ1 := S
  have hl : lv_has ls 2 [(0, .ref b), (1, .int (iI k))] := hl
  have hG : gW K A s.heap [gArrB K n1 b F] s.heap [] := hG
  refine lv_iload_n S.1 S.2.1 dJ1_charAt_3b067_0 rfl (lv_at hl 1 rfl) ?_
  refine lv_aload_n S.1 S.2.1 dJ1_charAt_3b067_1 rfl (lv_at hl 0 rfl) ?_
  refine g_alen (z := (n1 : Int)) S C hG 0 1 rfl rfl rfl dJ1_charAt_3b067_2 ?_
  refine g_invSv (As := [.int (iI k), .int (iI (n1 : Int))]) (rest := []) (gs' := (fun u : Unit => [gArrB K n1 b F])) S C hG [] (c_J0_checkIndex_df160 l K k (n1 : Int) (by omega) (by omega)) rfl rfl (va_cwS 2 S.2.2.2.2 gJ1_charAt_3b067_J0_checkIndex_df160 rfl rfl rfl (by decide +kernel) ⟨Nat.le_of_ble_eq_true rfl, Nat.le_of_ble_eq_true rfl⟩) rfl hl.1 rfl (Nat.le_of_ble_eq_true rfl) dJ1_charAt_3b067_3 ⟨Nat.le_of_ble_eq_true rfl, Nat.le_of_ble_eq_true rfl⟩ (fun _ => Nat.le_of_ble_eq_true rfl) (fun _ => rfl) (fun u H locs hp hG => ?_)
  refine lv_aload_n S.1 S.2.1 dJ1_charAt_3b067_6 rfl (lv_at hl 0 rfl) ?_
  refine lv_iload_n S.1 S.2.1 dJ1_charAt_3b067_7 rfl (lv_at hl 1 rfl) ?_
  refine g_bald S C hG 0 rfl (by omega) (by omega) (by omega) dJ1_charAt_3b067_8 ?_
  refine g_sipush S dJ1_charAt_3b067_9 (by decide) ?_
  refine g_b255 S dJ1_charAt_3b067_12 ?_
  refine lv_i2c (v := iI ((F k) % 256)) S.1 S.2.1 dJ1_charAt_3b067_13 (i2c_small (by omega)) ?_
  have hG : gW K A s.heap [gArrB K n1 b F] _ _ := hG
  exact g_nret S hr hlk hQ (nar_small (by omega)) dJ1_charAt_3b067_14 (Nat.le_of_ble_eq_true rfl) (Nat.le_of_ble_eq_true rfl) (() : Unit) (congrArg (fun z : Int => Value.int (iI z)) (by first | rfl | omega)) hG

set_option maxHeartbeats 1000000 in
set_option maxRecDepth 100000 in
theorem m_J0_charAt (l : Launch) (K : KC) (st : Nat) (b : Nat) (n1 : Nat) (F : Int → Int) (k : Int) (hk : 0 ≤ k ∧ k < (n1 : Int) ∧ (n1 : Int) ≤ 602) (hb : 0 ≤ F k ∧ F k ≤ 127) : mG l yJ0_charAt_5068e wsJ0_charAt_5068e 3 64 K [.ref st, .int (iI k)] [gStO K st b n1 F] (fun (v : Value) (u : Unit) => (v = .int (iI (F k)))) (fun (u : Unit) => [gStO K st b n1 F]) 0 0 := by
  refine mG_of cJ0_charAt_5068e 2 (by decide) rfl (Nat.le_of_ble_eq_true rfl) ?_
  intro p e s m below meth c A ls Q S C hG hl hr hlk hin hQ
  have S : CallFix p m c cJ0_charAt_5068e 2 s ([.ref st, .int (iI k)] : List Value).toArray wsJ0_charAt_5068e RJ0 := S
  have iJ00 : ∀ w ∈ wsJ00, w ∈ wsJ0_charAt_5068e := fun _ h => List.mem_cons_of_mem _ (List.mem_append_right _ (h))
  have hl : lv_has ls 2 [(0, .ref st), (1, .int (iI k))] := hl
  have hG : gW K A s.heap [gStO K st b n1 F] s.heap [] := hG
  refine lv_aload_n S.1 S.2.1 dJ0_charAt_5068e_0 rfl (lv_at hl 0 rfl) ?_
  refine g_invV (As := []) (rest := []) (gs' := (fun u : Unit => [gStO K st b n1 F])) S C hG [0] (m_J0_isLatin1 l K st b n1 F) rfl rfl 0 rfl rfl (cwV 0 S.2.2.2.2 gJ0_charAt_5068e_J0_isLatin1_aae02 rfl rfl rfl (by decide +kernel) ⟨Nat.le_of_ble_eq_true rfl, Nat.le_of_ble_eq_true rfl⟩) rfl hl.1 rfl (Nat.le_of_ble_eq_true rfl) dJ0_charAt_5068e_1 ⟨Nat.le_of_ble_eq_true rfl, Nat.le_of_ble_eq_true rfl⟩ (fun _ => Nat.le_of_ble_eq_true rfl) (fun _ => rfl) (fun v u H locs hp hG => ?_)
  subst hp
  refine g_if_eq (tgt := 16) S dJ0_charAt_5068e_4 (by decide) (by omega) (fun q4 => ?_) (fun q4 => ?_)
  · skip
    exact absurd q4 (by decide)
  · skip
    refine lv_aload_n S.1 S.2.1 dJ0_charAt_5068e_7 rfl (lv_at hl 0 rfl) ?_
    refine g_get S C hG iJ00 0 rfl rfl 0 (by decide) (List.mem_of_getElem? (i := 1) rfl) rfl dJ0_charAt_5068e_8 ?_
    refine lv_iload_n S.1 S.2.1 dJ0_charAt_5068e_11 rfl (lv_at hl 1 rfl) ?_
    have hG : gW K A s.heap [gStOC K st b, gArrB K n1 b F] _ _ := hG
    refine g_invS (As := [.ref b, .int (iI k)]) (rest := []) (gs' := (fun u : Unit => [gStOC K st b, gArrB K n1 b F])) S C hG [1] (m_J1_charAt l K b k n1 F hk hb) rfl rfl (va_cwS 2 S.2.2.2.2 gJ0_charAt_5068e_J1_charAt_3b067 rfl rfl rfl (by decide +kernel) ⟨Nat.le_of_ble_eq_true rfl, Nat.le_of_ble_eq_true rfl⟩) rfl hl.1 rfl (Nat.le_of_ble_eq_true rfl) dJ0_charAt_5068e_12 ⟨Nat.le_of_ble_eq_true rfl, Nat.le_of_ble_eq_true rfl⟩ (fun _ => Nat.le_of_ble_eq_true rfl) (fun _ => rfl) (fun v u H locs hp hG => ?_)
    subst hp
    have hG : gW K A s.heap [gStO K st b n1 F] _ _ := hG
    exact g_nret S hr hlk hQ (nar_small (by omega)) dJ0_charAt_5068e_15 (Nat.le_of_ble_eq_true rfl) (Nat.le_of_ble_eq_true rfl) (() : Unit) rfl hG
