theorem c_L_isPath (l : Launch) (K : KC) (ad : Nat → Nat) (ou : Int) (mi : Int) (bo : Int) (ln : Int) (LF : Int → Int) (sn : Int) (SF : Int → Int) (N : Int → Int) (rs : Nat) (rv : RU) (XF : Int → Int) (pv : PV) (ps : Nat) (pr : RU) (pX : Int → Int) (y : Int) (hS : ScOk N ou mi bo ln LF sn SF) (hN : NOk0 N) (hy : 0 ≤ y ∧ y < N 4) : mG l yL_isPath wsL_isPath 6 143 K [.ref (ad 0), .int (iI y)] [gRLC K ad, gScn K (ad 3) (ad 14) (ad 15) (ad 16) (ad 17) ou mi bo ln LF sn SF, gRayU K (ad 7) (ad 23) (ad 24) (ad 25) (ad 26) rs rv XF, gPthV K (ad 8) (ad 27) (ad 35) (ad 28) (ad 29) (ad 30) (ad 31) (ad 32) (ad 33) (ad 34) pv, gRayU K (ad 35) (ad 36) (ad 37) (ad 38) (ad 39) ps pr pX] (fun (v : Value) (u : Nat × RU × (Int → Int) × PV × Nat × RU × (Int → Int)) => (v = .int (iI 1))) (fun (u : Nat × RU × (Int → Int) × PV × Nat × RU × (Int → Int)) => [gRLC K ad, gScn K (ad 3) (ad 14) (ad 15) (ad 16) (ad 17) ou mi bo ln LF sn SF, gRayU K (ad 7) (ad 23) (ad 24) (ad 25) (ad 26) u.1 u.2.1 u.2.2.1, gPthV K (ad 8) (ad 27) (ad 35) (ad 28) (ad 29) (ad 30) (ad 31) (ad 32) (ad 33) (ad 34) u.2.2.2.1, gRayU K (ad 35) (ad 36) (ad 37) (ad 38) (ad 39) u.2.2.2.2.1 u.2.2.2.2.2.1 u.2.2.2.2.2.2]) 2 10 := by
  by_cases hb : begS N y
  · exact c_L_isPath_y l K ad ou mi bo ln LF sn SF N rs rv XF pv ps pr pX y hS hN hy hb
  · exact c_L_isPath_n l K ad ou mi bo ln LF sn SF N rs rv XF pv ps pr pX y hS hN hy hb

set_option maxHeartbeats 8000000 in
set_option maxRecDepth 100000 in
theorem c_L_stands (l : Launch) (K : KC) (ad : Nat → Nat) (ou : Int) (mi : Int) (bo : Int) (ln : Int) (LF : Int → Int) (sn : Int) (SF : Int → Int) (N : Int → Int) (rs : Nat) (rv : RU) (XF : Int → Int) (pv : PV) (ps : Nat) (pr : RU) (pX : Int → Int) (hS : ScOk N ou mi bo ln LF sn SF) (hN : NOk0 N) : mG l yL_stands wsL_stands 7 177 K [.ref (ad 0)] [gRLC K ad, gScn K (ad 3) (ad 14) (ad 15) (ad 16) (ad 17) ou mi bo ln LF sn SF, gRayU K (ad 7) (ad 23) (ad 24) (ad 25) (ad 26) rs rv XF, gPthV K (ad 8) (ad 27) (ad 35) (ad 28) (ad 29) (ad 30) (ad 31) (ad 32) (ad 33) (ad 34) pv, gRayU K (ad 35) (ad 36) (ad 37) (ad 38) (ad 39) ps pr pX] (fun (v : Value) (u : Nat × RU × (Int → Int) × PV × Nat × RU × (Int → Int)) => (v = .int (iI 1))) (fun (u : Nat × RU × (Int → Int) × PV × Nat × RU × (Int → Int)) => [gRLC K ad, gScn K (ad 3) (ad 14) (ad 15) (ad 16) (ad 17) ou mi bo ln LF sn SF, gRayU K (ad 7) (ad 23) (ad 24) (ad 25) (ad 26) u.1 u.2.1 u.2.2.1, gPthV K (ad 8) (ad 27) (ad 35) (ad 28) (ad 29) (ad 30) (ad 31) (ad 32) (ad 33) (ad 34) u.2.2.2.1, gRayU K (ad 35) (ad 36) (ad 37) (ad 38) (ad 39) u.2.2.2.2.1 u.2.2.2.2.2.1 u.2.2.2.2.2.2]) 41 205 := by
  refine mG_of cL_stands 5 (by decide) rfl (Nat.le_of_ble_eq_true rfl) ?_
  intro p e s m below meth c A ls Q S C hG hl hr hlk hin hQ
  have S : CallFix p m c cL_stands 5 s ([.ref (ad 0)] : List Value).toArray wsL_stands RL := S
  have iX80 : ∀ w ∈ wsX80, w ∈ wsL_stands := fun _ h => List.mem_cons_of_mem _ (List.mem_append_left _ (List.mem_append_left _ (List.mem_append_left _ (List.mem_append_left _ (List.mem_append_left _ (List.mem_append_left _ (List.mem_append_right _ (h))))))))
  have iX50 : ∀ w ∈ wsX50, w ∈ wsL_stands := fun _ h => List.mem_cons_of_mem _ (List.mem_append_left _ (List.mem_append_left _ (List.mem_append_left _ (List.mem_append_left _ (List.mem_append_left _ (List.mem_append_right _ (h)))))))
  have iX70 : ∀ w ∈ wsX70, w ∈ wsL_stands := fun _ h => List.mem_cons_of_mem _ (List.mem_append_left _ (List.mem_append_left _ (List.mem_append_left _ (List.mem_append_left _ (List.mem_append_right _ (h))))))
  have iX40 : ∀ w ∈ wsX40, w ∈ wsL_stands := fun _ h => List.mem_cons_of_mem _ (List.mem_append_left _ (List.mem_append_left _ (List.mem_append_left _ (List.mem_append_right _ (h)))))
  have iX30 : ∀ w ∈ wsX30, w ∈ wsL_stands := fun _ h => List.mem_cons_of_mem _ (List.mem_append_left _ (List.mem_append_left _ (List.mem_append_right _ (h))))
  have hl : lv_has ls 5 [(0, .ref (ad 0))] := hl
  have hG : gW K A s.heap [gRLC K ad, gScn K (ad 3) (ad 14) (ad 15) (ad 16) (ad 17) ou mi bo ln LF sn SF, gRayU K (ad 7) (ad 23) (ad 24) (ad 25) (ad 26) rs rv XF, gPthV K (ad 8) (ad 27) (ad 35) (ad 28) (ad 29) (ad 30) (ad 31) (ad 32) (ad 33) (ad 34) pv, gRayU K (ad 35) (ad 36) (ad 37) (ad 38) (ad 39) ps pr pX] s.heap [] := hG
  obtain ⟨e0, e1, e2, e3, e4, e5, e6⟩ := id hS
  have n0 := hN.1
  have n1 := hN.2.1
  have n2 := hN.2.2.1
  have n3 := hN.2.2.2.1
  refine g_iconst S dL_stands_0 ?_
  refine g_newa (gs' := fun nw1 => [gRLC K ad, gScn K (ad 3) (ad 14) (ad 15) (ad 16) (ad 17) ou mi bo ln LF sn SF, gRayU K (ad 7) (ad 23) (ad 24) (ad 25) (ad 26) rs rv XF, gPthV K (ad 8) (ad 27) (ad 35) (ad 28) (ad 29) (ad 30) (ad 31) (ad 32) (ad 33) (ad 34) pv, gRayU K (ad 35) (ad 36) (ad 37) (ad 38) (ad 39) ps pr pX, gArr K 5 nw1 (fun _ => 0)]) (a0 := (5, .inl (fun j : Nat => iI ((fun _ : Int => 0) (j : Int))))) S C hG (ty := .int) rfl (List.mem_of_getElem? (i := 1) rfl) 0 rfl 5 rfl (ha_i 5) (Nat.le_of_ble_eq_true rfl) (Nat.le_of_ble_eq_true rfl) (Nat.le_of_ble_eq_true rfl) (Nat.le_of_ble_eq_true rfl) (fun _ => rfl) dL_stands_1 (fun nw1 H hG => ?_)
  refine lv_astore_n (lv' := [(1, .ref nw1), (0, .ref (ad 0))]) S.1 S.2.1 dL_stands_3 rfl hl (by decide) rfl (fun ls hl => ?_)
  refine g_iconst S dL_stands_4 ?_
  refine lv_istore_n (lv' := [(2, .int (iI 0)), (1, .ref nw1), (0, .ref (ad 0))]) S.1 S.2.1 dL_stands_5 rfl hl (by decide) rfl (fun ls hl => ?_)
  refine g_iconst S dL_stands_6 ?_
  refine lv_istore_n (lv' := [(3, .int (iI 0)), (2, .int (iI 0)), (1, .ref nw1), (0, .ref (ad 0))]) S.1 S.2.1 dL_stands_7 rfl hl (by decide) rfl (fun ls hl => ?_)
  have L8 : ∀ (fu : Nat) (kk : Nat) (EQ : Int → Int) (lg : Int) (rsk : Nat) (rvk : RU) (Xk : Int → Int) (pvk : PV) (psk : Nat) (prk : RU) (pXk : Int → Int) (kc8 : Nat) (ks8 : Nat) (H : Heap) (locs : List Loc) (ls : Array Slot), ((N 4).toNat - kk) < fu → ((kk : Int) ≤ N 4) → (lg = lgT N kk) → (EQ 0 = cntB (fun i : Nat => decide (eS N (i : Int) = 0)) kk ∧ EQ 1 = cntB (fun i : Nat => decide (eS N (i : Int) = 1)) kk ∧ EQ 2 = cntB (fun i : Nat => decide (eS N (i : Int) = 2)) kk ∧ EQ 3 = cntB (fun i : Nat => decide (eS N (i : Int) = 3)) kk ∧ EQ 4 = cntB (fun i : Nat => decide (eS N (i : Int) = 4)) kk) → ((kc8 : Int) ≤ ((0 + 1) : Nat) + 2 * (kk : Int) ∧ (ks8 : Int) ≤ ((0 + 5) : Nat) + 10 * (kk : Int)) → lv_has ls 5 [(0, .ref (ad 0)), (1, .ref nw1), (2, .int (iI lg)), (3, .int (iI (kk : Int)))] → gW K A s.heap [gRLC K ad, gScn K (ad 3) (ad 14) (ad 15) (ad 16) (ad 17) ou mi bo ln LF sn SF, gRayU K (ad 7) (ad 23) (ad 24) (ad 25) (ad 26) rsk rvk Xk, gPthV K (ad 8) (ad 27) (ad 35) (ad 28) (ad 29) (ad 30) (ad 31) (ad 32) (ad 33) (ad 34) pvk, gRayU K (ad 35) (ad 36) (ad 37) (ad 38) (ad 39) psk prk pXk, gArr K 5 nw1 EQ] H locs → W p l e { frames := 7, cells := 41, slots := 205, locals := 177 } s m ([.ref (ad 0)] : List Value).toArray below meth c H locs kc8 ks8 Q (F0 m 8 ls []) := by
    intro fu
    induction fu with
    | zero => intro kk EQ lg rsk rvk Xk pvk psk prk pXk kc8 ks8 H locs ls hfu; exact absurd hfu (Nat.not_lt_zero _)
    | succ fu ih =>
      intro kk EQ lg rsk rvk Xk pvk psk prk pXk kc8 ks8 H locs ls hfu hkk hlg hE hk8 hl hG
      refine lv_iload_n S.1 S.2.1 dL_stands_8 rfl (lv_at hl 3 rfl) ?_
      refine lv_aload_n S.1 S.2.1 dL_stands_9 rfl (lv_at hl 0 rfl) ?_
      refine g_iconst S dL_stands_10 ?_
      refine g_invV (As := [.int (iI 4)]) (rest := [.int (iI (kk : Int))]) (gs' := (fun u : Unit => [gRLC K ad, gScn K (ad 3) (ad 14) (ad 15) (ad 16) (ad 17) ou mi bo ln LF sn SF, gRayU K (ad 7) (ad 23) (ad 24) (ad 25) (ad 26) rsk rvk Xk, gPthV K (ad 8) (ad 27) (ad 35) (ad 28) (ad 29) (ad 30) (ad 31) (ad 32) (ad 33) (ad 34) pvk, gRayU K (ad 35) (ad 36) (ad 37) (ad 38) (ad 39) psk prk pXk, gArr K 5 nw1 EQ])) S C hG [0, 1] (c_X8_property l K ad ou mi bo ln LF sn SF N 4 hS hN (by omega)) rfl rfl 0 rfl rfl (cwV 1 S.2.2.2.2 gL_stands_X8_property rfl rfl rfl (by decide +kernel) ⟨Nat.le_of_ble_eq_true rfl, Nat.le_of_ble_eq_true rfl⟩) rfl hl.1 rfl (Nat.le_of_ble_eq_true rfl) dL_stands_11 ⟨show kc8 + 0 ≤ 41 by omega, show ks8 + 0 ≤ 205 by omega⟩ (fun _ => Nat.le_of_ble_eq_true rfl) (fun _ => rfl) (fun v u H locs hp hG => ?_)
      subst hp
      refine g_top (w := .int (iI (N 4))) (congrArg (fun z : Int => Value.int (iI z)) (by first | rfl | exact if_neg (by decide))) ?_
      refine g_icmp_ge (tgt := 54) S dL_stands_14 (by decide) (by omega) (by omega) (fun q14 => ?_) (fun q14 => ?_)
      · skip
        have k9 : kk = (N 4).toNat := by omega
        rw [k9] at hE hlg
        refine g_iconst S dL_stands_54 ?_
        refine lv_istore_n (lv' := [(3, .int (iI 0)), (0, .ref (ad 0)), (1, .ref nw1), (2, .int (iI lg))]) S.1 S.2.1 dL_stands_55 rfl hl (by decide) rfl (fun ls hl => ?_)
        have L56 : ∀ (fu : Nat) (e9 : Int) (rsj : Nat) (rvj : RU) (Xj : Int → Int) (H : Heap) (locs : List Loc) (ls : Array Slot), (((5 : Int) - e9).toNat) < fu → (0 ≤ e9 ∧ e9 ≤ 5) → lv_has ls 5 [(0, .ref (ad 0)), (1, .ref nw1), (2, .int (iI lg)), (3, .int (iI e9))] → gW K A s.heap [gRLC K ad, gScn K (ad 3) (ad 14) (ad 15) (ad 16) (ad 17) ou mi bo ln LF sn SF, gRayU K (ad 7) (ad 23) (ad 24) (ad 25) (ad 26) rsj rvj Xj, gPthV K (ad 8) (ad 27) (ad 35) (ad 28) (ad 29) (ad 30) (ad 31) (ad 32) (ad 33) (ad 34) pvk, gRayU K (ad 35) (ad 36) (ad 37) (ad 38) (ad 39) psk prk pXk, gArr K 5 nw1 EQ] H locs → W p l e { frames := 7, cells := 41, slots := 205, locals := 177 } s m ([.ref (ad 0)] : List Value).toArray below meth c H locs kc8 ks8 Q (F0 m 56 ls []) := by
          intro fu
          induction fu with
          | zero => intro e9 rsj rvj Xj H locs ls hfu; exact absurd hfu (Nat.not_lt_zero _)
          | succ fu ih56 =>
            intro e9 rsj rvj Xj H locs ls hfu he9 hl hG
            refine lv_iload_n S.1 S.2.1 dL_stands_56 rfl (lv_at hl 3 rfl) ?_
            refine g_iconst S dL_stands_57 ?_
            refine g_icmp_ge (tgt := 80) S dL_stands_58 (by decide) (by omega) (by omega) (fun q58 => ?_) (fun q58 => ?_)
            · skip
              refine g_iconst S dL_stands_80 ?_
              refine lv_istore_n (lv' := [(3, .int (iI 0)), (0, .ref (ad 0)), (1, .ref nw1), (2, .int (iI lg))]) S.1 S.2.1 dL_stands_81 rfl hl (by decide) rfl (fun ls hl => ?_)
              refine g_iconst S dL_stands_82 ?_
              refine lv_istore (lv' := [(4, .int (iI 0)), (3, .int (iI 0)), (0, .ref (ad 0)), (1, .ref nw1), (2, .int (iI lg))]) S.1 S.2.1 dL_stands_83 hl (by decide) rfl (fun ls hl => ?_)
              have L85 : ∀ (fu : Nat) (jj : Nat) (lh : Int) (th : Int) (pvj : PV) (psj : Nat) (prj : RU) (pXj : Int → Int) (H : Heap) (locs : List Loc) (ls : Array Slot), ((N 0).toNat - jj) < fu → ((jj : Int) ≤ N 0) → (lh = lgT N (N 4).toNat - smN (fun z9 : Nat => lacN N (z9 : Int) (N 4).toNat) jj) → (th = depN N jj) → lv_has ls 5 [(0, .ref (ad 0)), (1, .ref nw1), (2, .int (iI lh)), (3, .int (iI th)), (4, .int (iI (jj : Int)))] → gW K A s.heap [gRLC K ad, gScn K (ad 3) (ad 14) (ad 15) (ad 16) (ad 17) ou mi bo ln LF sn SF, gRayU K (ad 7) (ad 23) (ad 24) (ad 25) (ad 26) rsj rvj Xj, gPthV K (ad 8) (ad 27) (ad 35) (ad 28) (ad 29) (ad 30) (ad 31) (ad 32) (ad 33) (ad 34) pvj, gRayU K (ad 35) (ad 36) (ad 37) (ad 38) (ad 39) psj prj pXj, gArr K 5 nw1 EQ] H locs → W p l e { frames := 7, cells := 41, slots := 205, locals := 177 } s m ([.ref (ad 0)] : List Value).toArray below meth c H locs kc8 ks8 Q (F0 m 85 ls []) := by
                intro fu
                induction fu with
                | zero => intro jj lh th pvj psj prj pXj H locs ls hfu; exact absurd hfu (Nat.not_lt_zero _)
                | succ fu ih85 =>
                  intro jj lh th pvj psj prj pXj H locs ls hfu hjj hlh hth hl hG
                  refine lv_iload S.1 S.2.1 dL_stands_85 (lv_at hl 4 rfl) ?_
                  refine lv_aload_n S.1 S.2.1 dL_stands_87 rfl (lv_at hl 0 rfl) ?_
                  refine g_iconst S dL_stands_88 ?_
                  refine g_invV (As := [.int (iI 0)]) (rest := [.int (iI (jj : Int))]) (gs' := (fun u : Unit => [gRLC K ad, gScn K (ad 3) (ad 14) (ad 15) (ad 16) (ad 17) ou mi bo ln LF sn SF, gRayU K (ad 7) (ad 23) (ad 24) (ad 25) (ad 26) rsj rvj Xj, gPthV K (ad 8) (ad 27) (ad 35) (ad 28) (ad 29) (ad 30) (ad 31) (ad 32) (ad 33) (ad 34) pvj, gRayU K (ad 35) (ad 36) (ad 37) (ad 38) (ad 39) psj prj pXj, gArr K 5 nw1 EQ])) S C hG [0, 1] (c_X8_property l K ad ou mi bo ln LF sn SF N 0 hS hN (by omega)) rfl rfl 0 rfl rfl (cwV 1 S.2.2.2.2 gL_stands_X8_property rfl rfl rfl (by decide +kernel) ⟨Nat.le_of_ble_eq_true rfl, Nat.le_of_ble_eq_true rfl⟩) rfl hl.1 rfl (Nat.le_of_ble_eq_true rfl) dL_stands_89 ⟨show kc8 + 0 ≤ 41 by omega, show ks8 + 0 ≤ 205 by omega⟩ (fun _ => Nat.le_of_ble_eq_true rfl) (fun _ => rfl) (fun v u H locs hp hG => ?_)
                  subst hp
                  refine g_top (w := .int (iI (N 0))) (congrArg (fun z : Int => Value.int (iI z)) (by first | rfl | exact if_neg (by decide))) ?_
                  refine g_icmp_ge (tgt := 133) S dL_stands_92 (by decide) (by omega) (by omega) (fun q92 => ?_) (fun q92 => ?_)
                  · skip
                    have j9 : jj = (N 0).toNat := by omega
                    rw [j9] at hlh hth
                    have s9 := lac_all hN (N 4).toNat (by omega)
                    rw [s9] at hlh
                    have d9 := depN_bd hN (N 0).toNat (by omega)
                    refine lv_iload_n S.1 S.2.1 dL_stands_133 rfl (lv_at hl 2 rfl) ?_
                    refine g_if_ne (tgt := 150) S dL_stands_134 (by decide) (by omega) (fun q134 => ?_) (fun q134 => ?_)
                    · skip
                      omega
                    · skip
                      refine lv_aload_n S.1 S.2.1 dL_stands_137 rfl (lv_at hl 0 rfl) ?_
                      refine g_iconst S dL_stands_138 ?_
                      refine g_invV (As := [.int (iI 5)]) (rest := []) (gs' := (fun u : Unit => [gRLC K ad, gScn K (ad 3) (ad 14) (ad 15) (ad 16) (ad 17) ou mi bo ln LF sn SF, gRayU K (ad 7) (ad 23) (ad 24) (ad 25) (ad 26) rsj rvj Xj, gPthV K (ad 8) (ad 27) (ad 35) (ad 28) (ad 29) (ad 30) (ad 31) (ad 32) (ad 33) (ad 34) pvj, gRayU K (ad 35) (ad 36) (ad 37) (ad 38) (ad 39) psj prj pXj, gArr K 5 nw1 EQ])) S C hG [0, 1] (c_X8_property l K ad ou mi bo ln LF sn SF N 5 hS hN (by omega)) rfl rfl 0 rfl rfl (cwV 1 S.2.2.2.2 gL_stands_X8_property rfl rfl rfl (by decide +kernel) ⟨Nat.le_of_ble_eq_true rfl, Nat.le_of_ble_eq_true rfl⟩) rfl hl.1 rfl (Nat.le_of_ble_eq_true rfl) dL_stands_139 ⟨show kc8 + 0 ≤ 41 by omega, show ks8 + 0 ≤ 205 by omega⟩ (fun _ => Nat.le_of_ble_eq_true rfl) (fun _ => rfl) (fun v u H locs hp hG => ?_)
                      subst hp
                      refine g_top (w := .int (iI (depN N (N 0).toNat))) (congrArg (fun z : Int => Value.int (iI z)) (by first | rfl | exact if_neg (by decide))) ?_
                      refine lv_iload_n S.1 S.2.1 dL_stands_142 rfl (lv_at hl 3 rfl) ?_
                      refine g_icmp_ne (tgt := 150) S dL_stands_143 (by decide) (by omega) (by omega) (fun q143 => ?_) (fun q143 => ?_)
                      · skip
                        omega
                      · skip
                        refine g_iconst S dL_stands_146 ?_
                        refine lv_goto (tgt := 151) S.1 S.2.1 dL_stands_147 (by decide) ?_
                        have hG : gW K A s.heap [gRLC K ad, gScn K (ad 3) (ad 14) (ad 15) (ad 16) (ad 17) ou mi bo ln LF sn SF, gRayU K (ad 7) (ad 23) (ad 24) (ad 25) (ad 26) rsj rvj Xj, gPthV K (ad 8) (ad 27) (ad 35) (ad 28) (ad 29) (ad 30) (ad 31) (ad 32) (ad 33) (ad 34) pvj, gRayU K (ad 35) (ad 36) (ad 37) (ad 38) (ad 39) psj prj pXj] _ _ := gW_pick [0, 1, 2, 3, 4] rfl rfl hG
                        have hG : gW K A s.heap [gRLC K ad, gScn K (ad 3) (ad 14) (ad 15) (ad 16) (ad 17) ou mi bo ln LF sn SF, gRayU K (ad 7) (ad 23) (ad 24) (ad 25) (ad 26) rsj rvj Xj, gPthV K (ad 8) (ad 27) (ad 35) (ad 28) (ad 29) (ad 30) (ad 31) (ad 32) (ad 33) (ad 34) pvj, gRayU K (ad 35) (ad 36) (ad 37) (ad 38) (ad 39) psj prj pXj] _ _ := hG
                        exact g_zret S hr hlk hQ (Or.inr rfl) dL_stands_151 (by omega) (by omega) ((rsj, rvj, Xj, pvj, psj, prj, pXj) : Nat × RU × (Int → Int) × PV × Nat × RU × (Int → Int)) rfl hG
                  · skip
                    have d8 := depN_bd hN jj (by omega)
                    have dx9 := (lay_bd hN (y := (jj : Int)) (by omega) (by omega)).2.1
                    refine lv_aload_n S.1 S.2.1 dL_stands_95 rfl (lv_at hl 0 rfl) ?_
                    refine lv_iload S.1 S.2.1 dL_stands_96 (lv_at hl 4 rfl) ?_
                    refine g_iconst S dL_stands_98 ?_
                    refine g_invV (As := [.int (iI (jj : Int)), .int (iI 3)]) (rest := []) (gs' := (fun u : Unit => [gRLC K ad, gScn K (ad 3) (ad 14) (ad 15) (ad 16) (ad 17) ou mi bo ln LF sn SF, gRayU K (ad 7) (ad 23) (ad 24) (ad 25) (ad 26) rsj rvj Xj, gPthV K (ad 8) (ad 27) (ad 35) (ad 28) (ad 29) (ad 30) (ad 31) (ad 32) (ad 33) (ad 34) pvj, gRayU K (ad 35) (ad 36) (ad 37) (ad 38) (ad 39) psj prj pXj, gArr K 5 nw1 EQ])) S C hG [0, 1] (c_X8_layer l K ad ou mi bo ln LF sn SF N (jj : Int) 3 hS hN (by omega) (by omega) (by omega) (by omega)) rfl rfl 0 rfl rfl (cwV 2 S.2.2.2.2 gL_stands_X8_layer rfl rfl rfl (by decide +kernel) ⟨Nat.le_of_ble_eq_true rfl, Nat.le_of_ble_eq_true rfl⟩) rfl hl.1 rfl (Nat.le_of_ble_eq_true rfl) dL_stands_99 ⟨show kc8 + 0 ≤ 41 by omega, show ks8 + 0 ≤ 205 by omega⟩ (fun _ => Nat.le_of_ble_eq_true rfl) (fun _ => rfl) (fun v u H locs hp hG => ?_)
                    subst hp
                    refine g_top (w := .int (iI (depN N jj))) (congrArg (fun z : Int => Value.int (iI z)) (by first | rfl | exact if_neg (by decide))) ?_
                    refine lv_iload_n S.1 S.2.1 dL_stands_102 rfl (lv_at hl 3 rfl) ?_
                    refine g_icmp_eq (tgt := 108) S dL_stands_103 (by decide) (by omega) (by omega) (fun q103 => ?_) (fun q103 => ?_)
                    · skip
                      refine lv_iload_n S.1 S.2.1 dL_stands_108 rfl (lv_at hl 3 rfl) ?_
                      refine lv_aload_n S.1 S.2.1 dL_stands_109 rfl (lv_at hl 0 rfl) ?_
                      refine lv_iload S.1 S.2.1 dL_stands_110 (lv_at hl 4 rfl) ?_
                      refine g_iconst S dL_stands_112 ?_
                      refine g_invV (As := [.int (iI (jj : Int)), .int (iI 1)]) (rest := [.int (iI th)]) (gs' := (fun u : Unit => [gRLC K ad, gScn K (ad 3) (ad 14) (ad 15) (ad 16) (ad 17) ou mi bo ln LF sn SF, gRayU K (ad 7) (ad 23) (ad 24) (ad 25) (ad 26) rsj rvj Xj, gPthV K (ad 8) (ad 27) (ad 35) (ad 28) (ad 29) (ad 30) (ad 31) (ad 32) (ad 33) (ad 34) pvj, gRayU K (ad 35) (ad 36) (ad 37) (ad 38) (ad 39) psj prj pXj, gArr K 5 nw1 EQ])) S C hG [0, 1] (c_X8_layer l K ad ou mi bo ln LF sn SF N (jj : Int) 1 hS hN (by omega) (by omega) (by omega) (by omega)) rfl rfl 0 rfl rfl (cwV 2 S.2.2.2.2 gL_stands_X8_layer rfl rfl rfl (by decide +kernel) ⟨Nat.le_of_ble_eq_true rfl, Nat.le_of_ble_eq_true rfl⟩) rfl hl.1 rfl (Nat.le_of_ble_eq_true rfl) dL_stands_113 ⟨show kc8 + 0 ≤ 41 by omega, show ks8 + 0 ≤ 205 by omega⟩ (fun _ => Nat.le_of_ble_eq_true rfl) (fun _ => rfl) (fun v u H locs hp hG => ?_)
                      subst hp
                      refine g_top (w := .int (iI (dX N (jj : Int)))) (congrArg (fun z : Int => Value.int (iI z)) (by first | rfl | exact if_neg (by decide))) ?_
                      refine g_iadd S dL_stands_116 rfl ?_
                      refine lv_istore_n (lv' := [(3, .int (iI (th + (dX N (jj : Int))))), (0, .ref (ad 0)), (1, .ref nw1), (2, .int (iI lh)), (4, .int (iI (jj : Int)))]) S.1 S.2.1 dL_stands_117 rfl hl (by decide) rfl (fun ls hl => ?_)
                      refine lv_iload_n S.1 S.2.1 dL_stands_118 rfl (lv_at hl 3 rfl) ?_
                      refine lv_aload_n S.1 S.2.1 dL_stands_119 rfl (lv_at hl 1 rfl) ?_
                      refine lv_iload S.1 S.2.1 dL_stands_120 (lv_at hl 4 rfl) ?_
                      refine g_invV (As := [.int (iI (jj : Int))]) (rest := [.int (iI lh)]) (gs' := (fun u : PV × Nat × RU × (Int → Int) => [gRLC K ad, gScn K (ad 3) (ad 14) (ad 15) (ad 16) (ad 17) ou mi bo ln LF sn SF, gRayU K (ad 7) (ad 23) (ad 24) (ad 25) (ad 26) rsj rvj Xj, gPthV K (ad 8) (ad 27) (ad 35) (ad 28) (ad 29) (ad 30) (ad 31) (ad 32) (ad 33) (ad 34) u.1, gRayU K (ad 35) (ad 36) (ad 37) (ad 38) (ad 39) u.2.1 u.2.2.1 u.2.2.2, gArr K 5 nw1 EQ])) S C hG [0, 3, 4, 1] (c_X8_legsIn l K ad ou mi bo ln LF sn SF N pvj psj prj pXj (jj : Int) hS hN (by omega) (by omega)) rfl rfl 0 rfl rfl (cwV 1 S.2.2.2.2 gL_stands_X8_legsIn rfl rfl rfl (by decide +kernel) ⟨Nat.le_of_ble_eq_true rfl, Nat.le_of_ble_eq_true rfl⟩) rfl hl.1 rfl (Nat.le_of_ble_eq_true rfl) dL_stands_122 ⟨show kc8 + 0 ≤ 41 by omega, show ks8 + 0 ≤ 205 by omega⟩ (fun _ => Nat.le_of_ble_eq_true rfl) (fun _ => rfl) (fun v u H locs hp hG => ?_)
                      obtain ⟨pv2_122, ps2_122, pr2_122, pX2_122⟩ := u
                      subst hp
                      have hG : gW K A s.heap [gRLC K ad, gScn K (ad 3) (ad 14) (ad 15) (ad 16) (ad 17) ou mi bo ln LF sn SF, gRayU K (ad 7) (ad 23) (ad 24) (ad 25) (ad 26) rsj rvj Xj, gPthV K (ad 8) (ad 27) (ad 35) (ad 28) (ad 29) (ad 30) (ad 31) (ad 32) (ad 33) (ad 34) pv2_122, gRayU K (ad 35) (ad 36) (ad 37) (ad 38) (ad 39) ps2_122 pr2_122 pX2_122, gArr K 5 nw1 EQ] _ _ := hG
                      refine g_isub S dL_stands_125 rfl ?_
                      refine lv_istore_n (lv' := [(2, .int (iI (lh - (lacN N (jj : Int) (N 4).toNat)))), (3, .int (iI (th + (dX N (jj : Int))))), (0, .ref (ad 0)), (1, .ref nw1), (4, .int (iI (jj : Int)))]) S.1 S.2.1 dL_stands_126 rfl hl (by decide) rfl (fun ls hl => ?_)
                      refine lv_iinc (v := iI ((jj + 1 : Nat) : Int)) (lv' := [(4, .int (iI ((jj + 1 : Nat) : Int))), (2, .int (iI (lh - (lacN N (jj : Int) (N 4).toNat)))), (3, .int (iI (th + (dX N (jj : Int))))), (0, .ref (ad 0)), (1, .ref nw1)]) S.1 S.2.1 dL_stands_127 hl (k := 4) rfl (g_iinc (by omega)) (by decide) rfl (fun ls hl => ?_)
                      refine lv_goto (tgt := 85) S.1 S.2.1 dL_stands_130 (by decide) ?_
                      exact ih85 (jj + 1) (lh - (lacN N (jj : Int) (N 4).toNat)) (th + (dX N (jj : Int))) pv2_122 ps2_122 pr2_122 pX2_122 _ _ _ (by omega) (by omega) (by show _ = _ - (smN (fun z9 : Nat => lacN N (z9 : Int) (N 4).toNat) jj + lacN N (jj : Int) (N 4).toNat); omega) (by show _ = depN N jj + N (5 + 3 * (jj : Int) + 1); rw [hth]; rfl) (lv_sub hl [3, 4, 1, 2, 0] rfl) hG
                    · skip
                      omega
              exact L85 (Nat.succ ((N 0).toNat - 0)) 0 lg 0 pvk psk prk pXk _ _ _ (Nat.lt_succ_self _) (by omega) (by show _ = _ - (0 : Int); omega) rfl (lv_sub hl [2, 3, 4, 1, 0] rfl) hG
            · skip
              refine lv_aload_n S.1 S.2.1 dL_stands_61 rfl (lv_at hl 0 rfl) ?_
              refine lv_iload_n S.1 S.2.1 dL_stands_62 rfl (lv_at hl 3 rfl) ?_
              refine g_invV (As := [.int (iI e9)]) (rest := []) (gs' := (fun u : Nat × RU × (Int → Int) => [gRLC K ad, gScn K (ad 3) (ad 14) (ad 15) (ad 16) (ad 17) ou mi bo ln LF sn SF, gRayU K (ad 7) (ad 23) (ad 24) (ad 25) (ad 26) u.1 u.2.1 u.2.2, gPthV K (ad 8) (ad 27) (ad 35) (ad 28) (ad 29) (ad 30) (ad 31) (ad 32) (ad 33) (ad 34) pvk, gRayU K (ad 35) (ad 36) (ad 37) (ad 38) (ad 39) psk prk pXk, gArr K 5 nw1 EQ])) S C hG [0, 1, 2] (c_X8_count l K ad ou mi bo ln LF sn SF N rsj rvj Xj e9 hS hN (by omega) (by omega)) rfl rfl 0 rfl rfl (cwV 1 S.2.2.2.2 gL_stands_X8_count rfl rfl rfl (by decide +kernel) ⟨Nat.le_of_ble_eq_true rfl, Nat.le_of_ble_eq_true rfl⟩) rfl hl.1 rfl (Nat.le_of_ble_eq_true rfl) dL_stands_63 ⟨show kc8 + 0 ≤ 41 by omega, show ks8 + 0 ≤ 205 by omega⟩ (fun _ => Nat.le_of_ble_eq_true rfl) (fun _ => rfl) (fun v u H locs hp hG => ?_)
              obtain ⟨rs2_63, rv2_63, X2_63⟩ := u
              subst hp
              have hG : gW K A s.heap [gRLC K ad, gScn K (ad 3) (ad 14) (ad 15) (ad 16) (ad 17) ou mi bo ln LF sn SF, gRayU K (ad 7) (ad 23) (ad 24) (ad 25) (ad 26) rs2_63 rv2_63 X2_63, gPthV K (ad 8) (ad 27) (ad 35) (ad 28) (ad 29) (ad 30) (ad 31) (ad 32) (ad 33) (ad 34) pvk, gRayU K (ad 35) (ad 36) (ad 37) (ad 38) (ad 39) psk prk pXk, gArr K 5 nw1 EQ] _ _ := hG
              have c8 := cntB_bd (fun i : Nat => decide (eS N (i : Int) = e9)) (N 4).toNat
              have c9 : EQ e9 = cntB (fun i : Nat => decide (eS N (i : Int) = e9)) (N 4).toNat := by
                rcases (by omega : e9 = 0 ∨ e9 = 1 ∨ e9 = 2 ∨ e9 = 3 ∨ e9 = 4) with rfl | rfl | rfl | rfl | rfl
                · exact hE.1
                · exact hE.2.1
                · exact hE.2.2.1
                · exact hE.2.2.2.1
                · exact hE.2.2.2.2
              refine lv_aload_n S.1 S.2.1 dL_stands_66 rfl (lv_at hl 1 rfl) ?_
              refine lv_iload_n S.1 S.2.1 dL_stands_67 rfl (lv_at hl 3 rfl) ?_
              refine g_iald S C hG 25 rfl (by omega) (by omega) (by omega) dL_stands_68 ?_
              refine g_icmp_eq (tgt := 74) S dL_stands_69 (by decide) (by omega) (by omega) (fun q69 => ?_) (fun q69 => ?_)
              · skip
                refine lv_iinc (v := iI (e9 + 1)) (lv' := [(3, .int (iI (e9 + 1))), (0, .ref (ad 0)), (1, .ref nw1), (2, .int (iI lg))]) S.1 S.2.1 dL_stands_74 hl (k := 3) rfl (g_iinc rfl) (by decide) rfl (fun ls hl => ?_)
                refine lv_goto (tgt := 56) S.1 S.2.1 dL_stands_77 (by decide) ?_
                exact ih56 (e9 + 1) rs2_63 rv2_63 X2_63 _ _ _ (by omega) (by omega) (lv_sub hl [1, 2, 3, 0] rfl) hG
              · skip
                omega
        exact L56 (Nat.succ (((5 : Int) - 0).toNat)) 0 rsk rvk Xk _ _ _ (Nat.lt_succ_self _) (by omega) (lv_sub hl [1, 2, 3, 0] rfl) hG
      · skip
        have es9 := eS_bd N (kk : Int)
        have g60 : gS N (kk : Int) ≤ 60 := lgF_bd N (sP N (kk : Int)) (sY N (kk : Int)) (sD N (kk : Int))
        refine lv_aload_n S.1 S.2.1 dL_stands_17 rfl (lv_at hl 0 rfl) ?_
        refine lv_iload_n S.1 S.2.1 dL_stands_18 rfl (lv_at hl 3 rfl) ?_
        refine g_invS (As := [.ref (ad 0), .int (iI (kk : Int))]) (rest := []) (gs' := (fun u : Nat × RU × (Int → Int) × PV × Nat × RU × (Int → Int) => [gRLC K ad, gScn K (ad 3) (ad 14) (ad 15) (ad 16) (ad 17) ou mi bo ln LF sn SF, gRayU K (ad 7) (ad 23) (ad 24) (ad 25) (ad 26) u.1 u.2.1 u.2.2.1, gPthV K (ad 8) (ad 27) (ad 35) (ad 28) (ad 29) (ad 30) (ad 31) (ad 32) (ad 33) (ad 34) u.2.2.2.1, gRayU K (ad 35) (ad 36) (ad 37) (ad 38) (ad 39) u.2.2.2.2.1 u.2.2.2.2.2.1 u.2.2.2.2.2.2, gArr K 5 nw1 EQ])) S C hG [0, 1, 2, 3, 4] (c_L_isPath l K ad ou mi bo ln LF sn SF N rsk rvk Xk pvk psk prk pXk (kk : Int) hS hN ⟨by omega, by omega⟩) rfl rfl (va_cwS 2 S.2.2.2.2 gL_stands_L_isPath rfl rfl rfl (by decide +kernel) ⟨Nat.le_of_ble_eq_true rfl, Nat.le_of_ble_eq_true rfl⟩) rfl hl.1 rfl (Nat.le_of_ble_eq_true rfl) dL_stands_19 ⟨show kc8 + 2 ≤ 41 by omega, show ks8 + 10 ≤ 205 by omega⟩ (fun _ => Nat.le_of_ble_eq_true rfl) (fun _ => rfl) (fun v u H locs hp hG => ?_)
        obtain ⟨rs2_19, rv2_19, X2_19, pv2_19, ps2_19, pr2_19, pX2_19⟩ := u
        subst hp
        have hG : gW K A s.heap [gRLC K ad, gScn K (ad 3) (ad 14) (ad 15) (ad 16) (ad 17) ou mi bo ln LF sn SF, gRayU K (ad 7) (ad 23) (ad 24) (ad 25) (ad 26) rs2_19 rv2_19 X2_19, gPthV K (ad 8) (ad 27) (ad 35) (ad 28) (ad 29) (ad 30) (ad 31) (ad 32) (ad 33) (ad 34) pv2_19, gRayU K (ad 35) (ad 36) (ad 37) (ad 38) (ad 39) ps2_19 pr2_19 pX2_19, gArr K 5 nw1 EQ] _ _ := hG
        refine g_if_ne (tgt := 27) S dL_stands_22 (by decide) (by omega) (fun q22 => ?_) (fun q22 => ?_)
        · skip
          refine lv_aload_n S.1 S.2.1 dL_stands_27 rfl (lv_at hl 1 rfl) ?_
          refine lv_aload_n S.1 S.2.1 dL_stands_28 rfl (lv_at hl 0 rfl) ?_
          refine lv_iload_n S.1 S.2.1 dL_stands_29 rfl (lv_at hl 3 rfl) ?_
          refine g_iconst S dL_stands_30 ?_
          refine g_invV (As := [.int (iI (kk : Int)), .int (iI 1)]) (rest := [.ref nw1]) (gs' := (fun u : RU × (Int → Int) => [gRLC K ad, gScn K (ad 3) (ad 14) (ad 15) (ad 16) (ad 17) ou mi bo ln LF sn SF, gRayU K (ad 7) (ad 23) (ad 24) (ad 25) (ad 26) (ad 3) u.1 u.2, gPthV K (ad 8) (ad 27) (ad 35) (ad 28) (ad 29) (ad 30) (ad 31) (ad 32) (ad 33) (ad 34) pv2_19, gRayU K (ad 35) (ad 36) (ad 37) (ad 38) (ad 39) ps2_19 pr2_19 pX2_19, gArr K 5 nw1 EQ])) S C hG [0, 1, 2] (c_X8_path l K ad ou mi bo ln LF sn SF N rs2_19 rv2_19 X2_19 (kk : Int) 1 hS hN (by omega) ⟨by omega, by omega⟩ (by omega)) rfl rfl 0 rfl rfl (cwV 2 S.2.2.2.2 gL_stands_X8_path rfl rfl rfl (by decide +kernel) ⟨Nat.le_of_ble_eq_true rfl, Nat.le_of_ble_eq_true rfl⟩) rfl hl.1 rfl (Nat.le_of_ble_eq_true rfl) dL_stands_31 ⟨show (kc8 + 2) + 0 ≤ 41 by omega, show (ks8 + 10) + 0 ≤ 205 by omega⟩ (fun _ => Nat.le_of_ble_eq_true rfl) (fun _ => rfl) (fun v u H locs hp hG => ?_)
          obtain ⟨rv2_31, X2_31⟩ := u
          obtain ⟨rfl, hr_31⟩ := hp
          have hr_31 : ResU N (sP N (kk : Int)) (sY N (kk : Int)) (sD N (kk : Int)) rv2_31 := hr_31
          have hG : gW K A s.heap [gRLC K ad, gScn K (ad 3) (ad 14) (ad 15) (ad 16) (ad 17) ou mi bo ln LF sn SF, gRayU K (ad 7) (ad 23) (ad 24) (ad 25) (ad 26) (ad 3) rv2_31 X2_31, gPthV K (ad 8) (ad 27) (ad 35) (ad 28) (ad 29) (ad 30) (ad 31) (ad 32) (ad 33) (ad 34) pv2_19, gRayU K (ad 35) (ad 36) (ad 37) (ad 38) (ad 39) ps2_19 pr2_19 pX2_19, gArr K 5 nw1 EQ] _ _ := hG
          refine g_top (w := .int (iI (eS N (kk : Int)))) (congrArg (fun z : Int => Value.int (iI z)) (by first | rfl | exact if_neg (by decide))) ?_
          refine lv_dup2_11 S.1 S.2.1 dL_stands_34 rfl rfl ?_
          refine g_iald S C hG 25 rfl (by omega) (by omega) (by omega) dL_stands_35 ?_
          refine g_iconst S dL_stands_36 ?_
          refine g_iadd S dL_stands_37 rfl ?_
          refine g_iast (gs' := [gRLC K ad, gScn K (ad 3) (ad 14) (ad 15) (ad 16) (ad 17) ou mi bo ln LF sn SF, gRayU K (ad 7) (ad 23) (ad 24) (ad 25) (ad 26) (ad 3) rv2_31 X2_31, gPthV K (ad 8) (ad 27) (ad 35) (ad 28) (ad 29) (ad 30) (ad 31) (ad 32) (ad 33) (ad 34) pv2_19, gRayU K (ad 35) (ad 36) (ad 37) (ad 38) (ad 39) ps2_19 pr2_19 pX2_19, gArr K 5 nw1 (upI EQ (eS N (kk : Int)) ((EQ (eS N (kk : Int))) + 1))]) S C hG 25 rfl (by omega) (by omega) (by omega) rfl dL_stands_38 (fun H locs hG => ?_)
          refine lv_iload_n S.1 S.2.1 dL_stands_39 rfl (lv_at hl 2 rfl) ?_
          refine lv_aload_n S.1 S.2.1 dL_stands_40 rfl (lv_at hl 0 rfl) ?_
          refine lv_iload_n S.1 S.2.1 dL_stands_41 rfl (lv_at hl 3 rfl) ?_
          refine g_iconst S dL_stands_42 ?_
          refine g_invV (As := [.int (iI (kk : Int)), .int (iI 0)]) (rest := [.int (iI lg)]) (gs' := (fun u : RU × (Int → Int) => [gRLC K ad, gScn K (ad 3) (ad 14) (ad 15) (ad 16) (ad 17) ou mi bo ln LF sn SF, gRayU K (ad 7) (ad 23) (ad 24) (ad 25) (ad 26) (ad 3) u.1 u.2, gPthV K (ad 8) (ad 27) (ad 35) (ad 28) (ad 29) (ad 30) (ad 31) (ad 32) (ad 33) (ad 34) pv2_19, gRayU K (ad 35) (ad 36) (ad 37) (ad 38) (ad 39) ps2_19 pr2_19 pX2_19, gArr K 5 nw1 (upI EQ (eS N (kk : Int)) ((EQ (eS N (kk : Int))) + 1))])) S C hG [0, 1, 2] (c_X8_path l K ad ou mi bo ln LF sn SF N (ad 3) rv2_31 X2_31 (kk : Int) 0 hS hN (by omega) ⟨by omega, by omega⟩ (by omega)) rfl rfl 0 rfl rfl (cwV 2 S.2.2.2.2 gL_stands_X8_path rfl rfl rfl (by decide +kernel) ⟨Nat.le_of_ble_eq_true rfl, Nat.le_of_ble_eq_true rfl⟩) rfl hl.1 rfl (Nat.le_of_ble_eq_true rfl) dL_stands_43 ⟨show (kc8 + 2) + 0 ≤ 41 by omega, show (ks8 + 10) + 0 ≤ 205 by omega⟩ (fun _ => Nat.le_of_ble_eq_true rfl) (fun _ => rfl) (fun v u H locs hp hG => ?_)
          obtain ⟨rv2_43, X2_43⟩ := u
          obtain ⟨rfl, hr_43⟩ := hp
          have hr_43 : ResU N (sP N (kk : Int)) (sY N (kk : Int)) (sD N (kk : Int)) rv2_43 := hr_43
          have hG : gW K A s.heap [gRLC K ad, gScn K (ad 3) (ad 14) (ad 15) (ad 16) (ad 17) ou mi bo ln LF sn SF, gRayU K (ad 7) (ad 23) (ad 24) (ad 25) (ad 26) (ad 3) rv2_43 X2_43, gPthV K (ad 8) (ad 27) (ad 35) (ad 28) (ad 29) (ad 30) (ad 31) (ad 32) (ad 33) (ad 34) pv2_19, gRayU K (ad 35) (ad 36) (ad 37) (ad 38) (ad 39) ps2_19 pr2_19 pX2_19, gArr K 5 nw1 (upI EQ (eS N (kk : Int)) ((EQ (eS N (kk : Int))) + 1))] _ _ := hG
          refine g_top (w := .int (iI ((gS N (kk : Int) : Int)))) (congrArg (fun z : Int => Value.int (iI z)) (by first | rfl | exact if_neg (by decide))) ?_
          refine g_iadd S dL_stands_46 rfl ?_
          refine lv_istore_n (lv' := [(2, .int (iI (lg + (gS N (kk : Int) : Int)))), (0, .ref (ad 0)), (1, .ref nw1), (3, .int (iI (kk : Int)))]) S.1 S.2.1 dL_stands_47 rfl hl (by decide) rfl (fun ls hl => ?_)
          refine lv_iinc (v := iI ((kk + 1 : Nat) : Int)) (lv' := [(3, .int (iI ((kk + 1 : Nat) : Int))), (2, .int (iI (lg + (gS N (kk : Int) : Int)))), (0, .ref (ad 0)), (1, .ref nw1)]) S.1 S.2.1 dL_stands_48 hl (k := 3) rfl (g_iinc (by omega)) (by decide) rfl (fun ls hl => ?_)
          refine lv_goto (tgt := 8) S.1 S.2.1 dL_stands_51 (by decide) ?_
          exact ih (kk + 1) (upI EQ (eS N (kk : Int)) ((EQ (eS N (kk : Int))) + 1)) (lg + (gS N (kk : Int) : Int)) (ad 3) rv2_43 X2_43 pv2_19 ps2_19 pr2_19 pX2_19 (kc8 + 2) (ks8 + 10) _ _ _ (by omega) (by omega) (by rw [hlg]; rfl) (by simp only [cntB]; rw [upE, upE, upE, upE, upE, hE.1, hE.2.1, hE.2.2.1, hE.2.2.2.1, hE.2.2.2.2]; simp only [decide_eq_true_eq]; refine ⟨?_, ?_, ?_, ?_, ?_⟩ <;> first | rfl | trivial) (by omega) (lv_sub hl [2, 3, 1, 0] rfl) hG
        · skip
          exact absurd q22 (by decide)
  exact L8 (Nat.succ ((N 4).toNat - 0)) 0 (fun _ => 0) 0 rs rv XF pv ps pr pX (0 + 1) (0 + 5) _ _ _ (Nat.lt_succ_self _) (by omega) rfl ⟨rfl, rfl, rfl, rfl, rfl⟩ (by omega) (lv_sub hl [3, 2, 1, 0] rfl) hG
