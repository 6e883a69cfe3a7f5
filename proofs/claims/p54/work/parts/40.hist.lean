/-! ===== the history: scenes that may be there ===== -/
abbrev SR : Type := Nat × Nat × Nat × Nat × Nat × Int × Int × Int × Int × (Int → Int) × Int × (Int → Int)
def gSR (K : KC) (r : SR) : va_W := gScn K r.1 r.2.1 r.2.2.1 r.2.2.2.1 r.2.2.2.2.1 r.2.2.2.2.2.1 r.2.2.2.2.2.2.1 r.2.2.2.2.2.2.2.1 r.2.2.2.2.2.2.2.2.1 r.2.2.2.2.2.2.2.2.2.1 r.2.2.2.2.2.2.2.2.2.2.1 r.2.2.2.2.2.2.2.2.2.2.2
def ScR (N : Int → Int) (r : SR) : Prop := ScOk N r.2.2.2.2.2.1 r.2.2.2.2.2.2.1 r.2.2.2.2.2.2.2.1 r.2.2.2.2.2.2.2.2.1 r.2.2.2.2.2.2.2.2.2.1 r.2.2.2.2.2.2.2.2.2.2.1 r.2.2.2.2.2.2.2.2.2.2.2
def gSO (K : KC) : Option SR → va_W
  | none => []
  | some r => gSR K r
def oP (o : Nat → Option SR) : Nat → Option Nat := fun j => (o j).map (fun r => r.1)
def oup (o : Nat → Option SR) (k : Nat) (r : SR) : Nat → Option SR := fun j => if j = k then some r else o j
theorem oup_s (o : Nat → Option SR) (k : Nat) (r : SR) : oup o k r k = some r := if_pos rfl
theorem oup_n (o : Nat → Option SR) {k j : Nat} (r : SR) (h : j ≠ k) : oup o k r j = o j := if_neg h
theorem oP_up (o : Nat → Option SR) (k : Nat) (r : SR) : va_up (oP o) k (some r.1) = oP (oup o k r) := by
  funext j
  unfold oP oup va_up
  by_cases h : j = k
  · rw [if_pos h, if_pos h]; rfl
  · rw [if_neg h, if_neg h]
def gSOs (K : KC) (o : Nat → Option SR) (ks : List Nat) : va_W := ks.flatMap (fun k => gSO K (o k))
theorem gSOs_pick (K : KC) (o : Nat → Option SR) {ks : List Nat} {k : Nat} (h : k ∈ ks) : (gSOs K o ks).Perm (gSO K (o k) ++ gSOs K o (ks.erase k)) :=
  List.Perm.flatMap_right _ (List.perm_cons_erase h)
theorem gSOs_up (K : KC) (o : Nat → Option SR) {ks : List Nat} (hn : ks.Nodup) (k : Nat) (r : SR) : gSOs K (oup o k r) (ks.erase k) = gSOs K o (ks.erase k) := by
  unfold gSOs
  rw [List.flatMap_def, List.flatMap_def]
  congr 1
  apply List.map_congr_left
  intro j hj
  rw [oup_n]
  intro e
  subst e
  exact (hn.mem_erase_iff.mp hj).1 rfl
theorem gSOs_upp (K : KC) (o : Nat → Option SR) {ks : List Nat} (hn : ks.Nodup) {k : Nat} (h : k ∈ ks) (r : SR) : (gSOs K (oup o k r) ks).Perm (gSR K r ++ gSOs K o (ks.erase k)) := by
  have := gSOs_pick K (oup o k r) h
  rw [gSOs_up K o hn, oup_s] at this
  exact this
theorem cpy_ok {N LF SF LF2 SF2 : Int → Int} {ou mi bo ln sn : Int} (h : ScOk N ou mi bo ln LF2 sn SF2) (hN : NOk0 N) : ScOk N ou mi bo ln (cpyI LF2 LF 60) sn (cpyI SF2 SF 60) := h.cpy hN
theorem c_X1_remember (l : Launch) (K : KC) (a pa : Nat) (nx sz : Int) (o : Nat → Option SR) (a2 la2 lb2 sa2 sb2 : Nat) (ou2 mi2 bo2 ln2 : Int) (LF2 : Int → Int) (sn2 : Int) (SF2 : Int → Int) (N : Int → Int) (h0 : 0 ≤ nx ∧ nx < 6) (h1 : 0 ≤ sz ∧ sz ≤ 6) (hS : ScOk N ou2 mi2 bo2 ln2 LF2 sn2 SF2) (hN : NOk0 N) :
    mV l yX1_remember wsX1_remember 3 102 K [.ref a, .ref a2] [gHisC K a pa nx sz, gQS K pa 6 (oP o), gScn K a2 la2 lb2 sa2 sb2 ou2 mi2 bo2 ln2 LF2 sn2 SF2, gSOs K o (List.range 6)] (fun u : SR => ScR N u) (fun u : SR => [gHisC K a pa ((nx + 1) % 6) (min (sz + 1) 6), gQS K pa 6 (oP (oup o nx.toNat u)), gScn K a2 la2 lb2 sa2 sb2 ou2 mi2 bo2 ln2 LF2 sn2 SF2, gSOs K (oup o nx.toNat u) (List.range 6)]) 5 129 := by
  have hm : mi2 = 0 ∨ mi2 = 1 := by
    have h2 := hS.2.2.1
    have h3 := hN.2.2.1
    omega
  have hk : nx.toNat ∈ List.range 6 := List.mem_range.mpr (by omega)
  have hp := gSOs_pick K o hk
  cases ho : o nx.toNat with
  | none =>
    rw [ho] at hp
    refine mV.world (c_X1_remember_n l K a pa nx sz (oP o) a2 la2 lb2 sa2 sb2 ou2 mi2 bo2 ln2 LF2 sn2 SF2 (gSOs K o ((List.range 6).erase nx.toNat)) h0 h1 hm (by unfold oP; rw [ho]; rfl)) ?_ (fun u _ => ?_)
    · simp only [List.flatten_cons, List.flatten_nil, List.append_nil]
      exact List.Perm.append_left _ (List.Perm.append_left _ (List.Perm.append_left _ hp))
    · let r : SR := (u.1, u.2.1, u.2.2.1, u.2.2.2.1, u.2.2.2.2, ou2, mi2, bo2, ln2, cpyI LF2 (fun _ => 0) 60, sn2, cpyI SF2 (fun _ => 0) 60)
      refine ⟨r, hS.cpy hN, ?_⟩
      simp only [List.flatten_cons, List.flatten_nil, List.append_nil]
      have e : gQS K pa 6 (va_up (oP o) nx.toNat (some u.1)) = gQS K pa 6 (oP (oup o nx.toNat r)) := by
        unfold gQS
        rw [← oP_up]
      rw [e]
      exact List.Perm.append_left _ (List.Perm.append_left _ (List.Perm.append_left _ (gSOs_upp K o List.nodup_range hk r).symm))
  | some r3 =>
    rw [ho] at hp
    obtain ⟨a3, la3, lb3, sa3, sb3, ou3, mi3, bo3, ln3, LF3, sn3, SF3⟩ := r3
    refine mV.world (c_X1_remember_s l K a pa nx sz (oP o) a2 la2 lb2 sa2 sb2 ou2 mi2 bo2 ln2 LF2 sn2 SF2 a3 la3 lb3 sa3 sb3 ou3 mi3 bo3 ln3 LF3 sn3 SF3 (gSOs K o ((List.range 6).erase nx.toNat)) h0 h1 hm (by unfold oP; rw [ho]; rfl)) ?_ (fun u _ => ?_)
    · simp only [List.flatten_cons, List.flatten_nil, List.append_nil]
      exact List.Perm.append_left _ (List.Perm.append_left _ (List.Perm.append_left _ hp))
    · let r : SR := (a3, la3, lb3, sa3, sb3, ou2, mi2, bo2, ln2, cpyI LF2 LF3 60, sn2, cpyI SF2 SF3 60)
      refine ⟨r, hS.cpy hN, ?_⟩
      simp only [List.flatten_cons, List.flatten_nil, List.append_nil]
      have e : gQS K pa 6 (oP o) = gQS K pa 6 (oP (oup o nx.toNat r)) := by
        unfold gQS
        rw [← oP_up]
        congr 4
        funext j
        unfold va_up
        by_cases h : j = nx.toNat
        · rw [if_pos h, h]; unfold oP; rw [ho]; rfl
        · rw [if_neg h]
      rw [e]
      exact List.Perm.append_left _ (List.Perm.append_left _ (List.Perm.append_left _ (gSOs_upp K o List.nodup_range hk r).symm))
