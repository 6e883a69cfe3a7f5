/-! ===== the object's cells by one function of addresses; paths with their content as one tuple ===== -/
def gRLC (K : KC) (ad : Nat → Nat) : va_W := [(ad 0, .inr (8, [.ref (ad 1), .ref (ad 2), .ref (ad 3), .ref (ad 4), .ref (ad 5), .ref (ad 6), .ref (ad 7), .ref (ad 8), .ref (ad 9), .ref (ad 10), .ref (ad 11)]))]
abbrev PV : Type := Int × Int × (Int → Int) × (Int → Int) × (Int → Int) × (Int → Int) × (Int → Int) × (Int → Int) × (Int → Int)
def gPthV (K : KC) (pa nb rp r0 r1 r2 r3 r4 r5 r6 : Nat) (pv : PV) : va_W := gPth K pa nb rp pv.1 pv.2.1 r0 r1 r2 r3 r4 r5 r6 pv.2.2.1 pv.2.2.2.1 pv.2.2.2.2.1 pv.2.2.2.2.2.1 pv.2.2.2.2.2.2.1 pv.2.2.2.2.2.2.2.1 pv.2.2.2.2.2.2.2.2
def PthR (N : Int → Int) (p y e : Int) (pv : PV) : Prop := PthOk N p y e (lgF N p y e) pv.1 pv.2.1 pv.2.2.1 pv.2.2.2.1 pv.2.2.2.2.1 pv.2.2.2.2.2.1 pv.2.2.2.2.2.2.1 pv.2.2.2.2.2.2.2.1 pv.2.2.2.2.2.2.2.2
theorem c_X3_traceV (l : Launch) (K : KC) (pa nb rp r0 r1 r2 r3 r4 r5 r6 : Nat) (pv : PV) (xa sha lea tma sc : Nat) (rv : RU) (XF : Int → Int) (s2 la lb sa sb : Nat) (ou mi bo ln : Int) (LF : Int → Int) (sn : Int) (SF N : Int → Int) (y0 e0 x : Int) (hS : ScOk N ou mi bo ln LF sn SF) (hN : NOk0 N) (h0 : -2147483648 ≤ y0 ∧ y0 < 2147483648) (h1 : 0 ≤ x ∧ x ≤ 3999) (h2 : e0 = 0 ∨ e0 = 1) :
    mV l yX3_trace wsX3_trace 3 70 K [.ref pa, .ref s2, .int (iI y0), .int (iI e0), .int (iI x)] [gPthV K pa nb rp r0 r1 r2 r3 r4 r5 r6 pv, gRayU K rp xa sha lea tma sc rv XF, gScn K s2 la lb sa sb ou mi bo ln LF sn SF] (fun u : PV × RU × (Int → Int) => PthR N x y0 e0 u.1) (fun u => [gPthV K pa nb rp r0 r1 r2 r3 r4 r5 r6 u.1, gRayU K rp xa sha lea tma s2 u.2.1 u.2.2, gScn K s2 la lb sa sb ou mi bo ln LF sn SF]) 0 0 :=
  mV.world (c_X3_trace l K pa nb rp pv.1 pv.2.1 r0 r1 r2 r3 r4 r5 r6 pv.2.2.1 pv.2.2.2.1 pv.2.2.2.2.1 pv.2.2.2.2.2.1 pv.2.2.2.2.2.2.1 pv.2.2.2.2.2.2.2.1 pv.2.2.2.2.2.2.2.2 xa sha lea tma sc _ _ _ _ _ _ _ _ _ _ _ _ _ XF _ _ _ s2 la lb sa sb ou mi bo ln LF sn SF N y0 e0 x hS hN h0 h1 h2) (List.Perm.refl _) (fun u hu => ⟨((u.2.2.2.1, u.2.2.2.2.1, u.2.2.2.2.2.2.2.2.2.2.2.2.2.2.2.2.2.1, u.2.2.2.2.2.2.2.2.2.2.2.2.2.2.2.2.2.2.1, u.2.2.2.2.2.2.2.2.2.2.2.2.2.2.2.2.2.2.2.1, u.2.2.2.2.2.2.2.2.2.2.2.2.2.2.2.2.2.2.2.2.1, u.2.2.2.2.2.2.2.2.2.2.2.2.2.2.2.2.2.2.2.2.2.1, u.2.2.2.2.2.2.2.2.2.2.2.2.2.2.2.2.2.2.2.2.2.2.1, u.2.2.2.2.2.2.2.2.2.2.2.2.2.2.2.2.2.2.2.2.2.2.2), (x, u.2.1, u.2.2.1, u.2.2.2.1, u.2.2.2.2.1, u.2.2.2.2.2.1, u.2.2.2.2.2.2.1, u.2.2.2.2.2.2.2.1, u.2.2.2.2.2.2.2.2.1, u.2.2.2.2.2.2.2.2.2.1, u.2.2.2.2.2.2.2.2.2.2.1, u.2.2.2.2.2.2.2.2.2.2.2.1, u.2.2.2.2.2.2.2.2.2.2.2.2.1, u.2.2.2.2.2.2.2.2.2.2.2.2.2.2.1, u.2.2.2.2.2.2.2.2.2.2.2.2.2.2.2.1, u.2.2.2.2.2.2.2.2.2.2.2.2.2.2.2.2.1), u.2.2.2.2.2.2.2.2.2.2.2.2.2.1), by
    have e9 := lgF_eq hu.1
    show PthOk _ _ _ _ (lgF N x y0 e0) _ _ _ _ _ _ _ _ _
    rw [← e9]
    exact hu, List.Perm.refl _⟩)
/-! a shot's layer, direction, slant -/
def sY (N : Int → Int) (r : Int) : Int := N (35 + 3 * r + 0)
def sD (N : Int → Int) (r : Int) : Int := N (35 + 3 * r + 1)
def sP (N : Int → Int) (r : Int) : Int := N (35 + 3 * r + 2)
theorem sho_bd {N : Int → Int} (h : NOk0 N) {r : Int} (h0 : 0 ≤ r) (h1 : r < N 4) : (0 ≤ sY N r ∧ sY N r ≤ 9) ∧ (sD N r = 0 ∨ sD N r = 1) ∧ 0 ≤ sP N r ∧ sP N r ≤ 3999 := h.2.2.2.2.2 r h0 h1
/-- what the law's calls ask of a path -/
def eS (N : Int → Int) (r : Int) : Int := enF N (sP N r) (sY N r) (sD N r)
def tS (N : Int → Int) (r : Int) : Int := tmF N (sP N r) (sY N r) (sD N r)
def pS (N : Int → Int) (r : Int) : Int := pwF N (sP N r) (sY N r) (sD N r)
def gS (N : Int → Int) (r : Int) : Nat := lgF N (sP N r) (sY N r) (sD N r)
def lacS (N : Int → Int) (y r : Int) : Int := cnF (fun i => yN N (sP N r) (sY N r) (sD N r) i.toNat) y (gS N r)
/-- legs across a layer, of the first shots -/
def lacN (N : Int → Int) (y : Int) : Nat → Int
  | 0 => 0
  | k + 1 => lacN N y k + lacS N y (k : Int)
theorem cnF_congr {F G : Int → Int} (y : Int) : ∀ n : Nat, (∀ i : Nat, i < n → F (i : Int) = G (i : Int)) → cnF F y n = cnF G y n
  | 0, _ => rfl
  | n + 1, h => by
    unfold cnF
    rw [cnF_congr y n (fun i hi => h i (by omega)), h n (by omega)]
theorem lacS_bd (N : Int → Int) (y r : Int) : 0 ≤ lacS N y r ∧ lacS N y r ≤ 60 := by
  have a := cnF_bd (fun i => yN N (sP N r) (sY N r) (sD N r) i.toNat) y (gS N r)
  have b := lgF_bd N (sP N r) (sY N r) (sD N r)
  unfold lacS
  unfold gS at a ⊢
  omega
theorem lacN_bd (N : Int → Int) (y : Int) : ∀ k : Nat, 0 ≤ lacN N y k ∧ lacN N y k ≤ 60 * k
  | 0 => by simp [lacN]
  | k + 1 => by
    have a := lacN_bd N y k
    have b := lacS_bd N y (k : Int)
    simp only [lacN]
    omega
theorem PthR.lac {N : Int → Int} {r : Int} {pv : PV} (h : PthR N (sP N r) (sY N r) (sD N r) pv) (y : Int) : cnF pv.2.2.1 y pv.1.toNat = lacS N y r := by
  obtain ⟨h1, h2, h3, h4⟩ := h
  rw [show pv.1.toNat = gS N r by unfold gS; omega]
  exact cnF_congr y _ (fun i hi => (h4 i hi).1)
theorem PthR.bd {N : Int → Int} (hN : NOk0 N) {p y e : Int} {pv : PV} (h : PthR N p y e pv) (hp : 0 ≤ p) (he : e = 0 ∨ e = 1) : (0 ≤ pv.1 ∧ pv.1 ≤ 60) ∧ pv.1 = (lgF N p y e : Int) ∧ pv.2.1 = enF N p y e ∧ ∀ i : Int, 0 ≤ i → i < pv.1 → (0 ≤ pv.2.2.1 i ∧ pv.2.2.1 i ≤ 9 ∧ pv.2.2.1 i < N 0) ∧ (0 ≤ pv.2.2.2.1 i ∧ pv.2.2.2.1 i ≤ 1) ∧ (0 ≤ pv.2.2.2.2.1 i ∧ pv.2.2.2.2.1 i ≤ 499500) ∧ 1 ≤ pv.2.2.2.2.2.2.1 i ∧ pv.2.2.2.2.2.2.1 i ≤ 1998000 := by
  obtain ⟨h1, h2, h3, h4⟩ := h
  have hl := lgF_bd N p y e
  refine ⟨by omega, h2, h3, fun i i0 i1 => ?_⟩
  have h5 := h4 i.toNat (by omega)
  rw [Int.toNat_of_nonneg i0] at h5
  rcases h1 with ⟨-, z⟩ | ⟨hb, k, z, z60, ho, hv⟩
  · omega
  · have g := on_bd hN hp hb he i.toNat (by omega) (fun j hj => ho j (by omega))
    have n0 := hN.1
    have b := leg_bd hN g.1.1 g.1.2 hp g.2.1
    rw [h5.1, h5.2.1, h5.2.2.1, h5.2.2.2.2.1]
    unfold shK tmK
    exact ⟨⟨g.1.1, by omega, g.1.2⟩, by have := g.2.2.1; omega, b.1, by omega, by omega⟩
