/-! ===== my kit: numbers of the machine as whole numbers; worlds as lists of groups of cells ===== -/
def iI (z : Int) : Int32 := Int32.ofInt z
def iL (z : Int) : Int64 := Int64.ofInt z
def bB (z : Int) : Int32 := (iI z).toInt8.toInt32
theorem iI_add (a b : Int) : iI a + iI b = iI (a + b) := (Int32.ofInt_add a b).symm
theorem iI_sub (a b : Int) : iI a - iI b = iI (a - b) := (Int32.ofInt_sub a b).symm
theorem iI_mul (a b : Int) : iI a * iI b = iI (a * b) := (Int32.ofInt_mul a b).symm
theorem iL_sub (a b : Int) : iL a - iL b = iL (a - b) := (Int64.ofInt_sub a b).symm
theorem iL_mul (a b : Int) : iL a * iL b = iL (a * b) := (Int64.ofInt_mul a b).symm
theorem iI_toInt {z : Int} (h : -2147483648 ≤ z ∧ z < 2147483648) : (iI z).toInt = z := Int32.toInt_ofInt_of_le (by omega) (by omega)
theorem iL_toInt {z : Int} (h : -9223372036854775808 ≤ z ∧ z < 9223372036854775808) : (iL z).toInt = z := Int64.toInt_ofInt_of_le (by omega) (by omega)
theorem iI_lt {a b : Int} (ha : -2147483648 ≤ a ∧ a < 2147483648) (hb : -2147483648 ≤ b ∧ b < 2147483648) : iI a < iI b ↔ a < b := by
  rw [Int32.lt_iff_toInt_lt, iI_toInt ha, iI_toInt hb]
theorem iI_le {a b : Int} (ha : -2147483648 ≤ a ∧ a < 2147483648) (hb : -2147483648 ≤ b ∧ b < 2147483648) : iI a ≤ iI b ↔ a ≤ b := by
  rw [Int32.le_iff_toInt_le, iI_toInt ha, iI_toInt hb]
theorem iI_eq {a b : Int} (ha : -2147483648 ≤ a ∧ a < 2147483648) (hb : -2147483648 ≤ b ∧ b < 2147483648) : iI a = iI b ↔ a = b := by
  rw [← Int32.toInt_inj, iI_toInt ha, iI_toInt hb]
theorem iL_lt {a b : Int} (ha : -9223372036854775808 ≤ a ∧ a < 9223372036854775808) (hb : -9223372036854775808 ≤ b ∧ b < 9223372036854775808) : iL a < iL b ↔ a < b := by
  rw [Int64.lt_iff_toInt_lt, iL_toInt ha, iL_toInt hb]
theorem iL_eq {a b : Int} (ha : -9223372036854775808 ≤ a ∧ a < 9223372036854775808) (hb : -9223372036854775808 ≤ b ∧ b < 9223372036854775808) : iL a = iL b ↔ a = b := by
  rw [← Int64.toInt_inj, iL_toInt ha, iL_toInt hb]
theorem iI_div {a b : Int} (ha : 0 ≤ a ∧ a < 2147483648) (hb : 0 < b ∧ b < 2147483648) : iI a / iI b = iI (a / b) := by
  have h := Int32.ofInt_tdiv (a := a) (b := b) (by rw [Int32.toInt_minValue]; omega) (by rw [Int32.toInt_maxValue]; omega) (by rw [Int32.toInt_minValue]; omega) (by rw [Int32.toInt_maxValue]; omega)
  rw [Int.tdiv_eq_ediv_of_nonneg ha.1] at h
  exact h.symm
theorem iL_div {a b : Int} (ha : 0 ≤ a ∧ a < 9223372036854775808) (hb : 0 < b ∧ b < 9223372036854775808) : iL a / iL b = iL (a / b) := by
  have h := Int64.ofInt_tdiv (a := a) (b := b) (by rw [Int64.toInt_minValue]; omega) (by rw [Int64.toInt_maxValue]; omega) (by rw [Int64.toInt_minValue]; omega) (by rw [Int64.toInt_maxValue]; omega)
  rw [Int.tdiv_eq_ediv_of_nonneg ha.1] at h
  exact h.symm
theorem iI_rem {a b : Int} (ha : 0 ≤ a ∧ a < 2147483648) (hb : 0 < b ∧ b < 2147483648) : iI a - iI a / iI b * iI b = iI (a % b) := by
  rw [iI_div ha hb, iI_mul, iI_sub, Int.emod_def, Int.mul_comm b]
theorem iI_ne0 {b : Int} (hb : -2147483648 ≤ b ∧ b < 2147483648) (h : b ≠ 0) : ¬ iI b = 0 := by
  rw [show (0 : Int32) = iI 0 from rfl, iI_eq hb (by omega)]
  exact h
theorem iL_ne0 {b : Int} (hb : -9223372036854775808 ≤ b ∧ b < 9223372036854775808) (h : b ≠ 0) : ¬ iL b = 0 := by
  rw [show (0 : Int64) = iL 0 from rfl, iL_eq hb (by omega)]
  exact h
theorem iI_cl {z : Int} {k : Nat} (h : z = (k : Int)) (hk : (k : Int) < 2147483648) : (iI z).toNatClampNeg = k := by
  subst h
  rw [iI, Int32.toNatClampNeg_ofInt_of_le (by omega) (by omega)]
  exact Int.toNat_natCast k
theorem iI_in {z : Int} {k n : Nat} (h : z = (k : Int)) (hk : k < n) (hn : n ≤ 2147483647) : vp_in (iI z) n := by
  subst h
  refine vp_in_iff.mpr ⟨?_, ?_⟩ <;> rw [iI_toInt (by omega)] <;> omega
theorem iI_l {z : Int} (h : -2147483648 ≤ z ∧ z < 2147483648) : (iI z).toInt64 = iL z := Int32.toInt64_ofInt (by rw [Int32.toInt_minValue]; omega) (by rw [Int32.toInt_maxValue]; omega)
theorem iL_i (z : Int) : (iL z).toInt32 = iI z := Int64.toInt32_ofInt
theorem nI_iI (n : Nat) : Int32.ofNat n = iI (n : Int) := Int32.ofInt_eq_ofNat.symm
theorem i8_i {z : Int} (h : -128 ≤ z ∧ z ≤ 127) : (Int8.ofInt z).toInt32 = iI z := Int8.toInt32_ofInt (by rw [Int8.toInt_minValue]; omega) (by rw [Int8.toInt_maxValue]; omega)
theorem i16_i {z : Int} (h : -32768 ≤ z ∧ z ≤ 32767) : (Int16.ofInt z).toInt32 = iI z := Int16.toInt32_ofInt (by rw [Int16.toInt_minValue]; omega) (by rw [Int16.toInt_maxValue]; omega)
def upI (F : Int → Int) (k : Int) (v : Int) : Int → Int := fun j => if j = k then v else F j
theorem upI_s (F : Int → Int) (k : Int) (v : Int) : upI F k v k = v := if_pos rfl
theorem upI_n (F : Int → Int) {k j : Int} (v : Int) (h : j ≠ k) : upI F k v j = F j := if_neg h
theorem upI_e (F : Int → Int) {k j : Int} (v : Int) (h : j = k) : upI F k v j = v := if_pos h
/-! worlds as sets of cells -/
theorem vaP_iff {D : va_G} {cl : List vw_C} {ws : va_W} {H : Heap} : va_P D cl ws H ↔ ∀ q ∈ ws, va_at D cl q H :=
  ⟨fun h q hq => by obtain ⟨k, hk⟩ := List.getElem?_of_mem hq; exact h k q hk, fun h k q hk => h q (List.mem_of_getElem? hk)⟩
def nEq (p q : Nat × va_E) : Prop := p.1 ≠ q.1
theorem vaD_iff {A : Nat → Prop} {ws : va_W} : va_D A ws ↔ ws.Pairwise nEq ∧ ∀ q ∈ ws, A q.1 := by
  constructor
  · intro h
    refine ⟨List.pairwise_iff_getElem.mpr fun i j hi hj hij e => ?_, fun q hq => ?_⟩
    · have := h.1 i j _ _ (List.getElem?_eq_getElem hi) (List.getElem?_eq_getElem hj) e
      omega
    · obtain ⟨k, hk⟩ := List.getElem?_of_mem hq
      exact h.2 k q hk
  · intro h
    refine ⟨fun i j p q hi hj e => ?_, fun k q hk => h.2 q (List.mem_of_getElem? hk)⟩
    obtain ⟨li, ei⟩ := List.getElem?_eq_some_iff.mp hi
    obtain ⟨lj, ej⟩ := List.getElem?_eq_some_iff.mp hj
    rcases Nat.lt_trichotomy i j with g | g | g
    · exact absurd (by rw [ei, ej]; exact e) (List.pairwise_iff_getElem.mp h.1 i j li lj g)
    · exact g
    · exact absurd (by rw [ei, ej]; exact e.symm) (List.pairwise_iff_getElem.mp h.1 j i lj li g)
/-- two groups have no cell in common -/
def gAp (g h : va_W) : Prop := ∀ x ∈ g, ∀ y ∈ h, nEq x y
theorem gAp.symm {g h : va_W} (a : gAp g h) : gAp h g := fun x hx y hy e => a y hy x hx e.symm
theorem flP_iff {D : va_G} {cl : List vw_C} {gs : List va_W} {H : Heap} : va_P D cl gs.flatten H ↔ ∀ (k : Nat) (g : va_W), gs[k]? = some g → ∀ q ∈ g, va_at D cl q H := by
  rw [vaP_iff]
  constructor
  · intro h k g hk q hq
    exact h q (List.mem_flatten.mpr ⟨g, List.mem_of_getElem? hk, hq⟩)
  · intro h q hq
    obtain ⟨g, hg, hq⟩ := List.mem_flatten.mp hq
    obtain ⟨k, hk⟩ := List.getElem?_of_mem hg
    exact h k g hk q hq
theorem flD_iff {A : Nat → Prop} {gs : List va_W} : va_D A gs.flatten ↔ (∀ (k : Nat) (g : va_W), gs[k]? = some g → g.Pairwise nEq ∧ ∀ q ∈ g, A q.1) ∧ ∀ (i j : Nat) (g h : va_W), gs[i]? = some g → gs[j]? = some h → i ≠ j → gAp g h := by
  rw [vaD_iff, List.pairwise_flatten]
  constructor
  · intro h
    refine ⟨fun k g hk => ⟨h.1.1 g (List.mem_of_getElem? hk), fun q hq => h.2 q (List.mem_flatten.mpr ⟨g, List.mem_of_getElem? hk, hq⟩)⟩, fun i j g g' hi hj hij => ?_⟩
    obtain ⟨li, ei⟩ := List.getElem?_eq_some_iff.mp hi
    obtain ⟨lj, ej⟩ := List.getElem?_eq_some_iff.mp hj
    rcases Nat.lt_or_gt_of_ne hij with q | q
    · have := List.pairwise_iff_getElem.mp h.1.2 i j li lj q
      rw [ei, ej] at this
      exact this
    · have := List.pairwise_iff_getElem.mp h.1.2 j i lj li q
      rw [ei, ej] at this
      exact gAp.symm this
  · intro h
    refine ⟨⟨fun g hg => ?_, List.pairwise_iff_getElem.mpr fun i j hi hj hij => h.2 i j _ _ (List.getElem?_eq_getElem hi) (List.getElem?_eq_getElem hj) (Nat.ne_of_lt hij)⟩, fun q hq => ?_⟩
    · obtain ⟨k, hk⟩ := List.getElem?_of_mem hg
      exact (h.1 k g hk).1
    · obtain ⟨g, hg, hq⟩ := List.mem_flatten.mp hq
      obtain ⟨k, hk⟩ := List.getElem?_of_mem hg
      exact (h.1 k g hk).2 q hq
def setAll {α : Type} : List Nat → List α → List α → List α
  | [], gs, _ => gs
  | i :: is, gs, l => match l with
    | [] => gs
    | g :: l => setAll is (gs.set i g) l
theorem setAll_len {α : Type} : ∀ (is : List Nat) (gs l : List α), (setAll is gs l).length = gs.length
  | [], _, _ => rfl
  | _ :: _, _, [] => rfl
  | i :: is, gs, g :: l => by rw [setAll, setAll_len is, List.length_set]
theorem setAll_get {α : Type} : ∀ (is : List Nat) (gs l : List α), va_nd is = true → is.length ≤ l.length → (∀ i ∈ is, i < gs.length) → ∀ (k : Nat) (g : α), (setAll is gs l)[k]? = some g → (∃ j : Nat, is[j]? = some k ∧ l[j]? = some g) ∨ (k ∉ is ∧ gs[k]? = some g)
  | [], gs, l, _, _, _, k, g, h => Or.inr ⟨List.not_mem_nil, h⟩
  | i :: is, gs, [], _, hl, _, k, g, h => by simp at hl
  | i :: is, gs, x :: l, hn, hl, hi, k, g, h => by
    simp only [va_nd, Bool.and_eq_true, decide_eq_true_eq] at hn
    rw [setAll] at h
    rcases setAll_get is (gs.set i x) l hn.2 (by simpa using hl) (fun j hj => by rw [List.length_set]; exact hi j (List.mem_cons_of_mem _ hj)) k g h with ⟨j, h1, h2⟩ | ⟨h1, h2⟩
    · exact Or.inl ⟨j + 1, by simpa using h1, by simpa using h2⟩
    · by_cases e : k = i
      · subst e
        rw [List.getElem?_set_self (hi k List.mem_cons_self)] at h2
        exact Or.inl ⟨0, rfl, h2⟩
      · rw [List.getElem?_set_ne (Ne.symm e)] at h2
        exact Or.inr ⟨fun q => (List.mem_cons.mp q).elim e h1, h2⟩
/-- the groups behind a call: the callee's in their places, what it made behind all -/
def gback (gs : List va_W) (is : List Nat) (w : List va_W) : List va_W := setAll is gs w ++ w.drop is.length
theorem gback_get {gs w : List va_W} {is : List Nat} (hn : va_nd is = true) (hl : is.length ≤ w.length) (hi : ∀ i ∈ is, i < gs.length) {k : Nat} {g : va_W} (h : (gback gs is w)[k]? = some g) : (k ∉ is ∧ gs[k]? = some g) ∨ ∃ j : Nat, w[j]? = some g ∧ (is[j]? = some k ∨ (is.length ≤ j ∧ k = gs.length + (j - is.length))) := by
  unfold gback at h
  by_cases c : k < gs.length
  · rw [List.getElem?_append_left (by rw [setAll_len]; exact c)] at h
    rcases setAll_get is gs w hn hl hi k g h with ⟨j, h1, h2⟩ | h1
    · exact Or.inr ⟨j, h2, Or.inl h1⟩
    · exact Or.inl h1
  · rw [List.getElem?_append_right (by rw [setAll_len]; omega), setAll_len, List.getElem?_drop] at h
    exact Or.inr ⟨_, h, Or.inr ⟨by omega, by omega⟩⟩
theorem gpick_at {gs gc : List va_W} {is : List Nat} (hC : is.map (fun i => gs[i]?) = gc.map some) {j : Nat} {g : va_W} (h : gc[j]? = some g) : ∃ i, is[j]? = some i ∧ gs[i]? = some g := by
  have h1 : (is.map (fun i => gs[i]?))[j]? = some (some g) := by rw [hC, List.getElem?_map, h]; rfl
  rw [List.getElem?_map] at h1
  cases hi : is[j]? with
  | none => rw [hi] at h1; cases h1
  | some i => rw [hi] at h1; exact ⟨i, rfl, Option.some.inj h1⟩
theorem gpick_to {gs gc : List va_W} {is : List Nat} (hC : is.map (fun i => gs[i]?) = gc.map some) {i : Nat} (h : i ∈ is) : ∃ g, gs[i]? = some g ∧ g ∈ gc := by
  obtain ⟨j, hj⟩ := List.getElem?_of_mem h
  have h1 : (gc.map some)[j]? = some (gs[i]?) := by rw [← hC, List.getElem?_map, hj]; rfl
  rw [List.getElem?_map] at h1
  cases hg : gc[j]? with
  | none => rw [hg] at h1; cases h1
  | some g => rw [hg] at h1; exact ⟨g, (Option.some.inj h1).symm, List.mem_of_getElem? hg⟩
theorem gpick_lt {gs gc : List va_W} {is : List Nat} (hC : is.map (fun i => gs[i]?) = gc.map some) : ∀ i ∈ is, i < gs.length := fun i h => by
  obtain ⟨g, hg, -⟩ := gpick_to hC h
  exact (List.getElem?_eq_some_iff.mp hg).1
theorem gpick_P {D : va_G} {cl : List vw_C} {gs gc : List va_W} {is : List Nat} {H : Heap} (hP : va_P D cl gs.flatten H) (hC : is.map (fun i => gs[i]?) = gc.map some) : va_P D cl gc.flatten H :=
  flP_iff.mpr fun k g hk => by
    obtain ⟨i, -, hi⟩ := gpick_at hC hk
    exact flP_iff.mp hP i g hi
theorem gpick_D {A : Nat → Prop} {gs gc : List va_W} {is : List Nat} (hD : va_D A gs.flatten) (hC : is.map (fun i => gs[i]?) = gc.map some) (hn : va_nd is = true) : va_D A gc.flatten :=
  flD_iff.mpr ⟨fun k g hk => by
    obtain ⟨i, -, hi⟩ := gpick_at hC hk
    exact (flD_iff.mp hD).1 i g hi, fun j k g h hj hk e => by
    obtain ⟨i1, a1, b1⟩ := gpick_at hC hj
    obtain ⟨i2, a2, b2⟩ := gpick_at hC hk
    exact (flD_iff.mp hD).2 i1 i2 g h b1 b2 (fun q => e (va_nd_inj is hn j k i1 a1 (by rw [q]; exact a2)))⟩
theorem gpick_F {A0 : Nat → Prop} {gs gc : List va_W} {is : List Nat} {H0 H : Heap} {locs : List Loc} (hD : va_D A0 gs.flatten) (hS : va_S A0 H0 H locs) (hA : ∀ q, H0.size ≤ q → A0 q) (hC : is.map (fun i => gs[i]?) = gc.map some) (hn : va_nd is = true) : ∀ q, va_A gc.flatten H.size q → A0 q := by
  intro q h
  rcases h with ⟨k, e, h⟩ | h
  · exact (gpick_D hD hC hn).2 k (q, e) h
  · exact hA q (Nat.le_trans hS.1 h)
theorem gback_PD {A0 : Nat → Prop} {D : va_G} {cl : List vw_C} {gs gc w : List va_W} {is : List Nat} {H H1 : Heap} (hP : va_P D cl gs.flatten H) (hD : va_D A0 gs.flatten) (hC : is.map (fun i => gs[i]?) = gc.map some) (hn : va_nd is = true) (hl : is.length ≤ w.length)
    (hk : ∀ q : Nat, q < H.size → ¬ va_A gc.flatten H.size q → H1[q]? = H[q]?) (hF : ∀ q, va_A gc.flatten H.size q → A0 q) (hP1 : va_P D cl w.flatten H1) (hD1 : va_D (va_A gc.flatten H.size) w.flatten) : va_P D cl (gback gs is w).flatten H1 ∧ va_D A0 (gback gs is w).flatten := by
  have hi := gpick_lt hC
  have old : ∀ (k : Nat) (g : va_W), k ∉ is → gs[k]? = some g → ∀ x ∈ g, x.1 < H.size ∧ ¬ va_A gc.flatten H.size x.1 := by
    intro k g hk hg x hx
    have hlt := (flP_iff.mp hP k g hg x hx).lt
    refine ⟨hlt, fun h => ?_⟩
    rcases h with ⟨n, e, h⟩ | h
    · obtain ⟨g2, h2, h3⟩ := List.mem_flatten.mp (List.mem_of_getElem? h)
      obtain ⟨j, hj⟩ := List.getElem?_of_mem h2
      obtain ⟨i, a, b⟩ := gpick_at hC hj
      have hik : i ≠ k := fun q => hk (by rw [← q]; exact List.mem_of_getElem? a)
      exact (flD_iff.mp hD).2 i k g2 g b hg hik (x.1, e) h3 x hx rfl
    · omega
  have new : ∀ (j : Nat) (g : va_W), w[j]? = some g → ∀ x ∈ g, va_A gc.flatten H.size x.1 := fun j g hj => ((flD_iff.mp hD1).1 j g hj).2
  refine ⟨flP_iff.mpr fun k g hg x hx => ?_, flD_iff.mpr ⟨fun k g hg => ?_, fun k1 k2 g1 g2 h1 h2 hne => ?_⟩⟩
  · rcases gback_get hn hl hi hg with ⟨a, b⟩ | ⟨j, a, -⟩
    · obtain ⟨c1, c2⟩ := old k g a b x hx
      exact (flP_iff.mp hP k g b x hx).kept (hk x.1 c1 c2)
    · exact flP_iff.mp hP1 j g a x hx
  · rcases gback_get hn hl hi hg with ⟨a, b⟩ | ⟨j, a, -⟩
    · exact (flD_iff.mp hD).1 k g b
    · exact ⟨((flD_iff.mp hD1).1 j g a).1, fun q hq => hF _ (new j g a q hq)⟩
  · rcases gback_get hn hl hi h1 with ⟨a, b⟩ | ⟨j, a, a2⟩ <;> rcases gback_get hn hl hi h2 with ⟨c, d⟩ | ⟨j', c, c2⟩
    · exact (flD_iff.mp hD).2 k1 k2 g1 g2 b d hne
    · exact fun x hx y hy e => (old k1 g1 a b x hx).2 (by rw [show x.1 = y.1 from e]; exact new j' g2 c y hy)
    · exact fun x hx y hy e => (old k2 g2 c d y hy).2 (by rw [show y.1 = x.1 from Eq.symm e]; exact new j g1 a x hx)
    · refine (flD_iff.mp hD1).2 j j' g1 g2 a c (fun q => hne ?_)
      subst q
      rcases a2 with a2 | ⟨a2, a3⟩ <;> rcases c2 with c2 | ⟨c2, c3⟩
      · exact Option.some.inj (a2.symm.trans c2)
      · have := (List.getElem?_eq_some_iff.mp a2).1
        omega
      · have := (List.getElem?_eq_some_iff.mp c2).1
        omega
      · omega
