theorem smN_mono {f g : Nat → Int} : ∀ n : Nat, (∀ i, i < n → f i ≤ g i) → smN f n ≤ smN g n
  | 0, _ => Int.le_refl _
  | n + 1, h => by
    have := smN_mono n (fun i hi => h i (by omega))
    have := h n (by omega)
    simp only [smN]
    omega
/-- within a part: sums no less, power no more -/
theorem sum_mono {N : Int → Int} (h : NOk0 N) {p p' y e : Int} (p0 : 0 ≤ p) (hp : p ≤ p') (hs : sameT N p p') (hb : begN N y p') (he : e = 0 ∨ e = 1) (hl : lgF N p' y e = lgF N p y e) :
    shF N p y e ≤ shF N p' y e ∧ tmF N p y e ≤ tmF N p' y e ∧ pwF N p' y e ≤ pwF N p y e := by
  have hb0 : begN N y p := ⟨hb.1, hb.2.1, by have := hb.2.2; omega⟩
  rcases isN_lgF N p' y e with ⟨x, -⟩ | ⟨-, j, e', l', o', v'⟩
  · exact absurd hb x
  obtain ⟨a, b, c, d⟩ := way_mono h p0 hp hs hb he j (by omega) o'
  have g' := on_bd h (by omega : 0 ≤ p') hb he j (by omega) o'
  have g := on_bd h p0 hb0 he j (by omega) a
  have kq : kN N p' y e j ≤ kN N p y e j := by
    unfold kN
    rw [b]
    rw [b] at g'
    exact qN_mono h g.1.1 g.1.2 p0 hp g'.2.1 g'.2.2.2.1 d
  have q0 := (lost_bd h g'.1.1 g'.1.2 (by omega : 0 ≤ p') g'.2.1 g'.2.2.2.1 g'.2.2.2.2).2.2
  have q1 := (lost_bd h g.1.1 g.1.2 p0 g.2.1 g.2.2.2.1 g.2.2.2.2).2.2
  have hv : vE N p' y e j = vE N p y e j ∨ vE N p' y e j = 5 ∨ vE N p' y e j = 7 := by
    have := evN_mono h (p := p) (p' := p') (k := (j : Int) + 1) (e := eN N p y e j) g.1.1 g.1.2 hs (q := kN N p y e j) (q' := kN N p' y e j) q0.1 kq
    unfold vE
    rw [b, c]
    exact this
  have hleg : ∀ i, i < j + 1 → shN N p (yN N p y e i) ≤ shN N p' (yN N p y e i) ∧ leN N p (yN N p y e i) ≤ leN N p' (yN N p y e i) ∧ tmN N p (yN N p y e i) ≤ tmN N p' (yN N p y e i) ∧ yN N p' y e i = yN N p y e i := fun i hi => by
    obtain ⟨a1, b1, c1, d1⟩ := way_mono h p0 hp hs hb he i (by omega) (fun k hk => o' k (by omega))
    have g1 := on_bd h (by omega : 0 ≤ p') hb he i (by omega) (fun k hk => o' k (by omega))
    rw [b1] at g1
    have := leg_mono h g1.1.1 g1.1.2 p0 hp g1.2.1
    exact ⟨this.1, this.2.1, this.2.2, b1⟩
  refine ⟨?_, ?_, ?_⟩
  · unfold shF
    rw [hl, ← hl, e']
    exact smN_mono _ (fun i hi => by unfold shK; rw [(hleg i hi).2.2.2]; exact (hleg i hi).1)
  · unfold tmF
    rw [hl, ← hl, e']
    exact smN_mono _ (fun i hi => by unfold tmK; rw [(hleg i hi).2.2.2]; exact (hleg i hi).2.2.1)
  · unfold pwF pwN
    rw [hl, ← hl, e', if_neg (by omega), if_neg (by omega), nx_w, nx_w]
    have hve : 3 ≤ vE N p y e j := by
      rcases Nat.lt_or_ge j (ffst (vE N p y e) 59 0) with q | q
      · exfalso
        have : lgF N p y e = ffst (vE N p y e) 59 0 + 1 := by unfold lgF; rw [if_pos hb0]
        omega
      · rcases isN_lgF N p y e with ⟨x, -⟩ | ⟨-, j2, e2, l2, o2, v2⟩
        · exact absurd hb0 x
        · have : j2 = j := by omega
          subst this
          exact v2
    rw [if_neg (show ¬ vE N p' y e j = 0 by omega), if_neg (show ¬ vE N p' y e j = 2 by omega), if_neg (show ¬ vE N p y e j = 0 by omega), if_neg (show ¬ vE N p y e j = 2 by omega)]
    have z5 : vE N p' y e j = 5 → kN N p' y e j = 0 := fun z => by
      unfold vE evN at z
      split at z
      · next x => exact x
      · exfalso
        (repeat' split at z) <;> omega
    have k0 : 0 ≤ kN N p y e j := q1.1
    by_cases x7 : vE N p' y e j = 7
    · rw [if_pos x7]
      split <;> omega
    · rw [if_neg x7]
      split
      · next y7 =>
        have : vE N p' y e j = 5 := by omega
        have := z5 this
        omega
      · exact kq
/-- how many places' indices lie between -/
def plN (N : Int → Int) (nA f : Int) : Nat → Int
  | 0 => 0
  | k + 1 => plN N nA f k + if f < ixN N ((k : Int) - 1) ∧ ixN N ((k : Int) - 1) < nA then 1 else 0
def MN (N : Int → Int) (y e f : Int) : Int := 61 * plN N (nX N y) f (N 0 + 2).toNat + rk N f y e
/-- up to here the turns are the same -/
def untN (N : Int → Int) (y f t : Int) : Prop := (f < t ∧ t ≤ nX N y) ∧ (∀ z : Int, -1 ≤ z → z ≤ N 0 → f < ixN N z → t ≤ ixN N z) ∧ (t = nX N y ∨ ∃ z : Int, -1 ≤ z ∧ z ≤ N 0 ∧ ixN N z = t)
theorem untN.same {N : Int → Int} {y f t p p' : Int} (h : untN N y f t) (h1 : f ≤ p ∧ p < t) (h2 : f ≤ p' ∧ p' < t) : sameT N p p' := fun z z0 z1 => by
  by_cases g : f < ixN N z
  · have := h.2.1 z z0 z1 g
    constructor <;> intro <;> omega
  · constructor <;> intro <;> omega
/-- one part: from f up to t, all with this end and these legs -/
def PartN (N : Int → Int) (y e f t en : Int) : Prop := (f < t ∧ t ≤ nX N y) ∧ en = enF N f y e ∧ (∀ p : Int, f ≤ p → p < t → sameT N f p ∧ enF N p y e = en ∧ lgF N p y e = lgF N f y e) ∧ (t < nX N y → MN N y e t < MN N y e f) ∧ 1 ≤ MN N y e f
/-! the ray as one -/
abbrev RU : Type := Int × Int × Int × Int × Int × Int × Int × Int × Int × Int × Int × Int × Int × (Int → Int) × (Int → Int) × (Int → Int)
def gRayU (K : KC) (ra xa sha lea tma sc : Nat) (rv : RU) (XF : Int → Int) : va_W := gRay K ra xa sha lea tma sc rv.1 rv.2.1 rv.2.2.1 rv.2.2.2.1 rv.2.2.2.2.1 rv.2.2.2.2.2.1 rv.2.2.2.2.2.2.1 rv.2.2.2.2.2.2.2.1 rv.2.2.2.2.2.2.2.2.1 rv.2.2.2.2.2.2.2.2.2.1 rv.2.2.2.2.2.2.2.2.2.2.1 rv.2.2.2.2.2.2.2.2.2.2.2.1 rv.2.2.2.2.2.2.2.2.2.2.2.2.1 XF rv.2.2.2.2.2.2.2.2.2.2.2.2.2.1 rv.2.2.2.2.2.2.2.2.2.2.2.2.2.2.1 rv.2.2.2.2.2.2.2.2.2.2.2.2.2.2.2
def ResU (N : Int → Int) (p y e : Int) (rv : RU) : Prop := RayRes N p y e (lgF N p y e) rv.2.2.2.1 rv.2.2.2.2.1 rv.2.2.2.2.2.1 rv.2.2.2.2.2.2.1 rv.2.2.2.2.2.2.2.1 rv.2.2.2.2.2.2.2.2.1 rv.2.2.2.2.2.2.2.2.2.1 rv.2.2.2.2.2.2.2.2.2.2.1 rv.2.2.2.2.2.2.2.2.2.2.2.1 rv.2.2.2.2.2.2.2.2.2.2.2.2.1
theorem ResU.f {N : Int → Int} {p y e : Int} {rv : RU} (h : ResU N p y e rv) : rv.2.2.2.1 = (lgF N p y e : Int) ∧ rv.2.2.2.2.1 = enF N p y e ∧ rv.2.2.2.2.2.1 = shF N p y e ∧ rv.2.2.2.2.2.2.2.1 = tmF N p y e ∧ rv.2.2.2.2.2.2.2.2.1 = pwF N p y e := ⟨h.2.1.1, h.2.2.1, h.2.1.2.1, h.2.1.2.2.2.1, h.2.2.2⟩
theorem c_X4_runU (l : Launch) (K : KC) (ra xa sha lea tma sc : Nat) (rv : RU) (XF : Int → Int) (la lb sa sb : Nat) (ou mi bo ln : Int) (LF : Int → Int) (sn : Int) (SF N : Int → Int) (y0 e0 x : Int) (hS : ScOk N ou mi bo ln LF sn SF) (hN : NOk0 N) (hE : EntOk N XF) (h0 : -2147483648 ≤ y0 ∧ y0 < 2147483648) (h1 : 0 ≤ x ∧ x ≤ 3999) (h2 : e0 = 0 ∨ e0 = 1) :
    mV l yX4_run wsX4_run 3 70 K [.ref ra, .int (iI y0), .int (iI e0), .int (iI x)] [gRayU K ra xa sha lea tma sc rv XF, gScn K sc la lb sa sb ou mi bo ln LF sn SF] (fun u : RU => ResU N x y0 e0 u) (fun u => [gRayU K ra xa sha lea tma sc u XF, gScn K sc la lb sa sb ou mi bo ln LF sn SF]) 0 0 :=
  mV.world (c_X4_run l K ra xa sha lea tma sc _ _ _ _ _ _ _ _ _ _ _ _ _ XF _ _ _ la lb sa sb ou mi bo ln LF sn SF N y0 e0 x hS hN hE h0 h1 h2) (List.Perm.refl _) (fun u hu => ⟨(x, u.2.1, u.2.2.1, u.2.2.2.1, u.2.2.2.2.1, u.2.2.2.2.2.1, u.2.2.2.2.2.2.1, u.2.2.2.2.2.2.2.1, u.2.2.2.2.2.2.2.2.1, u.2.2.2.2.2.2.2.2.2.1, u.2.2.2.2.2.2.2.2.2.2.1, u.2.2.2.2.2.2.2.2.2.2.2.1, u.2.2.2.2.2.2.2.2.2.2.2.2.1, u.2.2.2.2.2.2.2.2.2.2.2.2.2.1, u.2.2.2.2.2.2.2.2.2.2.2.2.2.2.1, u.2.2.2.2.2.2.2.2.2.2.2.2.2.2.2), by
    have e9 := lgF_eq hu.1
    show RayRes _ _ _ _ _ _ _ _ _ _ _ _ _ _ _
    rw [← e9]
    exact hu, List.Perm.refl _⟩)
