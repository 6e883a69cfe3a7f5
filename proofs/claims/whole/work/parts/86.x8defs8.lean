/-! ===== slots; floats ===== -/
theorem c_X8_keep (l : Launch) (K : KC) (ad : Nat → Nat) (ou mi bo ln : Int) (LF : Int → Int) (sn : Int) (SF N : Int → Int) (o : Nat → Option SR) (y : Int) (hS : ScOk N ou mi bo ln LF sn SF) (hN : NOk0 N) (hy : 0 ≤ y ∧ y < 2) :
    mG l yX8_keep wsX8_keep 3 102 K [.ref (ad 0), .int (iI y)] [gRLC K ad, gScn K (ad 3) (ad 14) (ad 15) (ad 16) (ad 17) ou mi bo ln LF sn SF, gQS K (ad 6) 2 (oP o), gSOs K o (List.range 2)] (fun (v : Value) (u : SR) => v = .int (iI (N 4)) ∧ ScR N u) (fun u : SR => [gRLC K ad, gScn K (ad 3) (ad 14) (ad 15) (ad 16) (ad 17) ou mi bo ln LF sn SF, gQS K (ad 6) 2 (oP (oup o y.toNat u)), gSOs K (oup o y.toNat u) (List.range 2)]) 5 129 := by
  have hk : y.toNat ∈ List.range 2 := List.mem_range.mpr (by omega)
  have hp := gSOs_pick K o hk
  cases ho : o y.toNat with
  | none =>
    rw [ho] at hp
    refine mG.world (c_X8_keep_n l K ad ou mi bo ln LF sn SF N (oP o) y (gSOs K o ((List.range 2).erase y.toNat)) hS hN hy (by unfold oP; rw [ho]; rfl)) ?_ (fun v u hv => ?_)
    · simp only [List.flatten_cons, List.flatten_nil, List.append_nil]
      exact List.Perm.append_left _ (List.Perm.append_left _ (List.Perm.append_left _ hp))
    · let r : SR := (u.1, u.2.1, u.2.2.1, u.2.2.2.1, u.2.2.2.2, ou, mi, bo, ln, cpyI LF (fun _ => 0) 60, sn, cpyI SF (fun _ => 0) 60)
      refine ⟨r, ⟨hv, hS.cpy hN⟩, ?_⟩
      simp only [List.flatten_cons, List.flatten_nil, List.append_nil]
      have e : gQS K (ad 6) 2 (va_up (oP o) y.toNat (some u.1)) = gQS K (ad 6) 2 (oP (oup o y.toNat r)) := by
        unfold gQS
        rw [← oP_up]
      rw [e]
      exact List.Perm.append_left _ (List.Perm.append_left _ (List.Perm.append_left _ (gSOs_upp K o List.nodup_range hk r).symm))
  | some r3 =>
    rw [ho] at hp
    obtain ⟨a3, la3, lb3, sa3, sb3, ou3, mi3, bo3, ln3, LF3, sn3, SF3⟩ := r3
    refine mG.world (c_X8_keep_s l K ad ou mi bo ln LF sn SF N (oP o) y a3 la3 lb3 sa3 sb3 ou3 mi3 bo3 ln3 LF3 sn3 SF3 (gSOs K o ((List.range 2).erase y.toNat)) hS hN hy (by unfold oP; rw [ho]; rfl)) ?_ (fun v u hv => ?_)
    · simp only [List.flatten_cons, List.flatten_nil, List.append_nil]
      exact List.Perm.append_left _ (List.Perm.append_left _ (List.Perm.append_left _ hp))
    · let r : SR := (a3, la3, lb3, sa3, sb3, ou, mi, bo, ln, cpyI LF LF3 60, sn, cpyI SF SF3 60)
      refine ⟨r, ⟨hv, hS.cpy hN⟩, ?_⟩
      simp only [List.flatten_cons, List.flatten_nil, List.append_nil]
      have e : gQS K (ad 6) 2 (oP o) = gQS K (ad 6) 2 (oP (oup o y.toNat r)) := by
        unfold gQS
        rw [← oP_up]
        congr 4
        funext j
        unfold va_up
        by_cases h : j = y.toNat
        · rw [if_pos h, h]; unfold oP; rw [ho]; rfl
        · rw [if_neg h]
      rw [e]
      exact List.Perm.append_left _ (List.Perm.append_left _ (List.Perm.append_left _ (gSOs_upp K o List.nodup_range hk r).symm))
theorem c_X8_restore (l : Launch) (K : KC) (ad : Nat → Nat) (ou mi bo ln : Int) (LF : Int → Int) (sn : Int) (SF N : Int → Int) (nx sz : Int) (o os : Nat → Option SR) (y : Int) (r3 : SR) (M : Int → Int) (hS : ScOk N ou mi bo ln LF sn SF) (hN : NOk0 N) (hnx : 0 ≤ nx ∧ nx < 6) (hsz : 0 ≤ sz ∧ sz ≤ 6) (hy : 0 ≤ y ∧ y < 2) (ho : os y.toNat = some r3) (hM : ScR M r3) (hN2 : NOk0 M) :
    mG l yX8_restore wsX8_restore 4 124 K [.ref (ad 0), .int (iI y)] [gRLC K ad, gScn K (ad 3) (ad 14) (ad 15) (ad 16) (ad 17) ou mi bo ln LF sn SF, gHisC K (ad 5) (ad 22) nx sz, gQS K (ad 22) 6 (oP o), gQS K (ad 6) 2 (oP os), gSOs K o (List.range 6), gSOs K os (List.range 2)] (fun (v : Value) (u : SR × Int × Int × Int × Int × (Int → Int) × Int × (Int → Int)) => v = .int (iI (M 4)) ∧ ScR N u.1 ∧ ScOk M u.2.1 u.2.2.1 u.2.2.2.1 u.2.2.2.2.1 u.2.2.2.2.2.1 u.2.2.2.2.2.2.1 u.2.2.2.2.2.2.2) (fun u => [gRLC K ad, gScn K (ad 3) (ad 14) (ad 15) (ad 16) (ad 17) u.2.1 u.2.2.1 u.2.2.2.1 u.2.2.2.2.1 u.2.2.2.2.2.1 u.2.2.2.2.2.2.1 u.2.2.2.2.2.2.2, gHisC K (ad 5) (ad 22) ((nx + 1) % 6) (min (sz + 1) 6), gQS K (ad 22) 6 (oP (oup o nx.toNat u.1)), gQS K (ad 6) 2 (oP os), gSOs K (oup o nx.toNat u.1) (List.range 6), gSOs K os (List.range 2)]) 5 129 := by
  have hk : y.toNat ∈ List.range 2 := List.mem_range.mpr (by omega)
  obtain ⟨a3, la3, lb3, sa3, sb3, ou3, mi3, bo3, ln3, LF3, sn3, SF3⟩ := r3
  have hp := gSOs_set K os hk ho
  have hm : mi3 = 0 ∨ mi3 = 1 := by
    have h2 : M 2 = mi3 := hM.2.2.1
    have h3 := hN2.2.2.1
    omega
  have h4 : M 4 = sn3 := hM.2.2.2.2.1
  refine mG.world (c_X8_restore_s l K ad ou mi bo ln LF sn SF N nx sz o (oP os) y a3 la3 lb3 sa3 sb3 ou3 mi3 bo3 ln3 LF3 sn3 SF3 (gSOs K os ((List.range 2).erase y.toNat)) hS hN hnx hsz hy hm (by unfold oP; rw [ho]; rfl)) ?_ (fun v u hv => ?_)
  · simp only [List.flatten_cons, List.flatten_nil, List.append_nil]
    refine List.Perm.append_left _ (List.Perm.append_left _ (List.Perm.append_left _ (List.Perm.append_left _ (List.Perm.append_left _ ?_))))
    exact (List.Perm.append_left _ hp).trans (List.perm_append_comm_assoc _ _ _)
  · refine ⟨(u, ou3, mi3, bo3, ln3, cpyI LF3 LF 60, sn3, cpyI SF3 SF 60), ⟨by rw [h4]; exact hv.1, hv.2, ScOk.cpy hM hN2⟩, ?_⟩
    simp only [List.flatten_cons, List.flatten_nil, List.append_nil]
    refine List.Perm.append_left _ (List.Perm.append_left _ (List.Perm.append_left _ (List.Perm.append_left _ (List.Perm.append_left _ ?_))))
    exact (List.perm_append_comm_assoc _ _ _).trans (List.Perm.append_left _ hp.symm)
theorem nn64 {x : UInt64} (h : FP.Core.dIsNaN x = false) : vf_n64 x := by
  unfold vf_n64
  rw [UInt64.le_iff_toNat_le, UInt64.toNat_and]
  have h1 : (0x7fffffffffffffff : UInt64).toNat = 2 ^ 63 - 1 := by decide
  have h2 : (0x7ff0000000000000 : UInt64).toNat = 9218868437227405312 := by decide
  rw [h1, h2, Nat.and_two_pow_sub_one_eq_mod]
  rw [← Bool.not_eq_true, FP.Core.isNaN_bits] at h
  omega
theorem nn32 {x : UInt32} (h : FP.Core.fIsNaN x = false) : vf_n32 x := by
  unfold vf_n32
  rw [UInt32.le_iff_toNat_le, UInt32.toNat_and]
  have h1 : (0x7fffffff : UInt32).toNat = 2 ^ 31 - 1 := by decide
  have h2 : (0x7f800000 : UInt32).toNat = 2139095040 := by decide
  rw [h1, h2, Nat.and_two_pow_sub_one_eq_mod]
  rw [← Bool.not_eq_true, FP.Core.isNaN_bits32] at h
  omega
theorem dfin_nn {x : UInt64} (h : FP.Core.DFin x) : FP.Core.dIsNaN x = false := by
  rw [FP.Core.fin_bits] at h
  rw [← Bool.not_eq_true, FP.Core.isNaN_bits]
  omega
theorem ffin_nn {x : UInt32} (h : FP.Core.FFin x) : FP.Core.fIsNaN x = false := by
  rw [FP.Core.fin_bits32] at h
  rw [← Bool.not_eq_true, FP.Core.isNaN_bits32]
  omega
theorem mean_nn (a : Int32) {b : Int32} (h : b ≠ 0) : FP.Core.dIsNaN (FP.ddiv (FP.i2d a) (FP.i2d b)) = false :=
  FP.Core.ddiv_out (dfin_nn (FP.Core.i2d_fin a)) (FP.Core.i2d_fin b) (fun z => FP.Core.i2d_ne_zero h ((FP.Core.zero_bits2 _).mp z))
theorem shr_nn (a : Int32) : FP.Core.fIsNaN (FP.fdiv (FP.i2f a) 1232348160) = false :=
  FP.Core.fdiv_out (ffin_nn (FP.Core.i2f_fin a)) ((FP.Core.fin_bits32 _).mpr (by decide)) (fun z => absurd ((FP.Core.zero_bits232 _).mp z) (by decide))
theorem f2d_nn {x : UInt32} (h : FP.Core.fIsNaN x = false) : FP.Core.dIsNaN (FP.f2d x) = false := (FP.f2d_nan x).trans h
theorem lv_ldcwf {p : Program} {l : Launch} {e : Env} {R : Room} {s : State} {m : MethodId} {args : Array Value} {below : List Frame} {meth : Method} {c : Code} {H : Heap} {locs : List Loc} {cells slots : Nat} {Q : State → Prop} {cc : ByteArray} {pc : Nat} {ls : Array Slot} {rest : List Value} (hexec : p.tables.exec = Jvm.exec) (hb : c.code = cc) {own : String} {index : Nat} {v : UInt32} (hown : s.vm.findClass own = some m.cls) (hconst : (Jvm.Cond.constantFloat own index v).before args s = true) (hdg : decode cc pc = .ok (.ldc_w index, 3)) (k : W p l e R s m args below meth c H locs cells slots Q (F0 m (pc + 3) ls (.float v :: rest))) : W p l e R s m args below meth c H locs cells slots Q (F0 m pc ls rest) := by
  intro T hT X
  obtain ⟨t, a, b⟩ := k T hT X
  obtain ⟨k9, cf, hk, hcf, hcp⟩ := Cond.constantFloat_spec hown hconst
  obtain ⟨k', hk', he⟩ := X.warmed.alike.2.2 _ _ hk
  refine ⟨t, ?_, b⟩
  have hd : decode c.code (F0 m pc ls rest).pc = .ok (.ldc_w index, 3) := by rw [hb]; exact hdg
  jvm_step X.here [hexec, hd, Op.ldc_w.wp_float (s := T) (f := F0 m pc ls rest) X.here.top hk' (by rw [he]; exact hcf) hcp]
  exact a
