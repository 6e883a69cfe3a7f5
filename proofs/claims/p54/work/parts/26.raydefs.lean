/-! ===== RayLayers$Ray: cells, and what its numbers say ===== -/
def gRayC (K : KC) (ra xa sha lea tma sc : Nat) (pp ly dn lg en sh le tm pw tr mr cr de : Int) : va_W := [(ra, .inr (4, [.ref xa, .ref sha, .ref lea, .ref tma, .ref sc, .int (iI pp), .int (iI ly), .int (iI dn), .int (iI lg), .int (iI en), .int (iI sh), .int (iI le), .int (iI tm), .int (iI pw), .int (iI tr), .int (iI mr), .int (iI cr), .int (iI de)]))]
def gRay (K : KC) (ra xa sha lea tma sc : Nat) (pp ly dn lg en sh le tm pw tr mr cr de : Int) (XF HF EF TF : Int → Int) : va_W := gRayC K ra xa sha lea tma sc pp ly dn lg en sh le tm pw tr mr cr de ++ (gArr K 12 xa XF ++ (gArr K 10 sha HF ++ (gArr K 10 lea EF ++ gArr K 10 tma TF)))
/-- the indexes at the places have been read -/
def EntOk (N XF : Int → Int) : Prop := ∀ z : Int, -1 ≤ z → z ≤ N 0 → XF (z + 1) = ixN N z
/-- what has been measured so far -/
def CachN (N : Int → Int) (p : Int) (TF HF EF : Int → Int) : Prop := ∀ y : Int, 0 ≤ y → y < N 0 → TF y = 0 ∨ (TF y = tmN N p y ∧ HF y = shN N p y ∧ EF y = leN N p y)
theorem CachN.upd {N : Int → Int} {p : Int} {TF HF EF : Int → Int} (h : CachN N p TF HF EF) (z : Int) : CachN N p (upI TF z (tmN N p z)) (upI HF z (shN N p z)) (upI EF z (leN N p z)) := by
  intro y h0 h1
  by_cases e : y = z
  · subst e
    exact Or.inr ⟨upI_s _ _ _, upI_s _ _ _, upI_s _ _ _⟩
  · rw [upI_n _ _ e, upI_n _ _ e, upI_n _ _ e]
    exact h y h0 h1
/-- what leg() tells of what happened -/
def whE (v : Int) : Int := if v = 7 then 5 else v
def shK (N : Int → Int) (p y0 e0 : Int) (i : Nat) : Int := shN N p (yN N p y0 e0 i)
def leK (N : Int → Int) (p y0 e0 : Int) (i : Nat) : Int := leN N p (yN N p y0 e0 i)
def tmK (N : Int → Int) (p y0 e0 : Int) (i : Nat) : Int := tmN N p (yN N p y0 e0 i)
def trK (N : Int → Int) (p y0 e0 : Int) (i : Nat) : Int := if vE N p y0 e0 i = 1 then 1 else 0
def mrK (N : Int → Int) (p y0 e0 : Int) (i : Nat) : Int := if vE N p y0 e0 i = 2 ∨ vE N p y0 e0 i = 7 then 1 else 0
def crK (N : Int → Int) (p y0 e0 : Int) (i : Nat) : Int := if vE N p y0 e0 i = 0 then 1 else 0
def SumI (N : Int → Int) (p y0 e0 : Int) (k : Nat) (lg sh le tm tr mr cr de : Int) : Prop :=
  lg = (k : Int) ∧ sh = smN (shK N p y0 e0) k ∧ le = smN (leK N p y0 e0) k ∧ tm = smN (tmK N p y0 e0) k ∧ tr = smN (trK N p y0 e0) k ∧ mr = smN (mrK N p y0 e0) k ∧ cr = smN (crK N p y0 e0) k ∧ de = dpN (yN N p y0 e0) k
/-- behind k legs: under way, or at an end, or not begun -/
def RunI (N : Int → Int) (p y0 e0 : Int) (k : Nat) (ly dn lg en sh le tm pw tr mr cr de : Int) : Prop :=
  SumI N p y0 e0 k lg sh le tm tr mr cr de ∧
  ((begN N y0 p ∧ en = -1 ∧ pw = wN N p y0 e0 k ∧ onN N p y0 e0 k ∧ ly = yN N p y0 e0 k ∧ dn = eN N p y0 e0 k) ∨
   (begN N y0 p ∧ pw = wN N p y0 e0 k ∧ ∃ j : Nat, k = j + 1 ∧ onN N p y0 e0 j ∧ 3 ≤ vE N p y0 e0 j ∧ en = endE (vE N p y0 e0 j)) ∨
   (¬ begN N y0 p ∧ k = 0 ∧ en = 4 ∧ pw = 0))
def RayRes (N : Int → Int) (p y0 e0 : Int) (n : Nat) (lg en sh le tm pw tr mr cr de : Int) : Prop :=
  isN N p y0 e0 n ∧ SumI N p y0 e0 n lg sh le tm tr mr cr de ∧ en = enN N p y0 e0 n ∧ pw = pwN N p y0 e0 n
theorem endE_ge {v : Int} : 0 ≤ endE v ∧ endE v ≤ 3 := by
  unfold endE
  (repeat' split) <;> omega
theorem RunI.start_t {N : Int → Int} {p y0 e0 : Int} (h : begN N y0 p) : RunI N p y0 e0 0 y0 e0 0 (-1) 0 0 0 1000000 0 0 0 (-1) :=
  ⟨⟨rfl, rfl, rfl, rfl, rfl, rfl, rfl, rfl⟩, Or.inl ⟨h, rfl, rfl, fun i hi => absurd hi (Nat.not_lt_zero i), rfl, rfl⟩⟩
theorem RunI.start_f {N : Int → Int} {p y0 e0 : Int} (h : ¬ begN N y0 p) : RunI N p y0 e0 0 y0 e0 0 4 0 0 0 0 0 0 0 (-1) :=
  ⟨⟨rfl, rfl, rfl, rfl, rfl, rfl, rfl, rfl⟩, Or.inr (Or.inr ⟨h, rfl, rfl, rfl⟩)⟩
theorem RunI.done {N : Int → Int} {p y0 e0 : Int} {k : Nat} {ly dn lg en sh le tm pw tr mr cr de : Int} (h : RunI N p y0 e0 k ly dn lg en sh le tm pw tr mr cr de) (hk : k ≤ 60) (hx : 60 ≤ k ∨ en ≠ -1) : RayRes N p y0 e0 k lg en sh le tm pw tr mr cr de := by
  obtain ⟨hs, h⟩ := h
  rcases h with ⟨hb, he, hw, ho, -, -⟩ | ⟨hb, hw, j, rfl, ho, hv, he⟩ | ⟨hb, rfl, he, hw⟩
  · have h60 : k = 60 := by omega
    subst h60
    have := ho 59 (by omega)
    have h2 : 3 ≤ vE N p y0 e0 59 := evN_60 N p _ _ _ _ (by decide)
    omega
  · exact ⟨Or.inr ⟨hb, j, rfl, by omega, ho, hv⟩, hs, by rw [he, enN, if_neg (by omega)]; rfl, by rw [hw, pwN, if_neg (by omega)]⟩
  · exact ⟨Or.inl ⟨hb, rfl⟩, hs, he, hw⟩
theorem lgN_s (N : Int → Int) (p y0 e0 : Int) (k : Nat) : lgN N p y0 e0 (k + 1) = nxN N p k (lgN N p y0 e0 k) := rfl
/-- the next state, piece by piece -/
theorem nx_y (N : Int → Int) (p y0 e0 : Int) (k : Nat) : yN N p y0 e0 (k + 1) = if vE N p y0 e0 k = 0 then ahd (yN N p y0 e0 k) (eN N p y0 e0 k) else yN N p y0 e0 k := by
  unfold yN vE kN wN eN
  rw [lgN_s]
  unfold nxN
  show _ = if evN N p ((k : Int) + 1) (lgN N p y0 e0 k).1 (lgN N p y0 e0 k).2.1 (qN N p (lgN N p y0 e0 k).1 (lgN N p y0 e0 k).2.2) = 0 then _ else _
  (repeat' split) <;> first | rfl | (exfalso; omega)
theorem nx_e (N : Int → Int) (p y0 e0 : Int) (k : Nat) : eN N p y0 e0 (k + 1) = if vE N p y0 e0 k = 1 then 1 - eN N p y0 e0 k else if vE N p y0 e0 k = 2 then 0 else eN N p y0 e0 k := by
  unfold eN vE kN wN yN
  rw [lgN_s]
  unfold nxN
  show _ = if evN N p ((k : Int) + 1) (lgN N p y0 e0 k).1 (lgN N p y0 e0 k).2.1 (qN N p (lgN N p y0 e0 k).1 (lgN N p y0 e0 k).2.2) = 1 then _ else if evN N p ((k : Int) + 1) (lgN N p y0 e0 k).1 (lgN N p y0 e0 k).2.1 (qN N p (lgN N p y0 e0 k).1 (lgN N p y0 e0 k).2.2) = 2 then _ else _
  (repeat' split) <;> first | rfl | (exfalso; omega)
theorem nx_w (N : Int → Int) (p y0 e0 : Int) (k : Nat) : wN N p y0 e0 (k + 1) = if vE N p y0 e0 k = 0 then ppN N (yN N p y0 e0 k) (ahd (yN N p y0 e0 k) (eN N p y0 e0 k)) (kN N p y0 e0 k) else if vE N p y0 e0 k = 2 then kN N p y0 e0 k * N 3 / 100 else if vE N p y0 e0 k = 7 then 0 else kN N p y0 e0 k := by
  unfold wN vE kN yN eN
  rw [lgN_s]
  unfold nxN
  show _ = if evN N p ((k : Int) + 1) (lgN N p y0 e0 k).1 (lgN N p y0 e0 k).2.1 (qN N p (lgN N p y0 e0 k).1 (lgN N p y0 e0 k).2.2) = 0 then _ else if evN N p ((k : Int) + 1) (lgN N p y0 e0 k).1 (lgN N p y0 e0 k).2.1 (qN N p (lgN N p y0 e0 k).1 (lgN N p y0 e0 k).2.2) = 2 then _ else if evN N p ((k : Int) + 1) (lgN N p y0 e0 k).1 (lgN N p y0 e0 k).2.1 (qN N p (lgN N p y0 e0 k).1 (lgN N p y0 e0 k).2.2) = 7 then _ else _
  (repeat' split) <;> first | rfl | (exfalso; omega)
theorem evN_rng (N : Int → Int) (p k y e q : Int) : 0 ≤ evN N p k y e q ∧ evN N p k y e q ≤ 7 := by
  unfold evN
  (repeat' split) <;> omega
/-- one leg more -/
theorem RunI.step {N : Int → Int} {p y0 e0 : Int} {k : Nat} {ly dn lg en sh le tm pw tr mr cr de : Int} (h : RunI N p y0 e0 k ly dn lg en sh le tm pw tr mr cr de) (he : en = -1)
    {v en2 ly2 dn2 pw2 tr2 mr2 cr2 : Int} (hv : v = evN N p (lg + 1) ly dn (qN N p ly pw)) (h1 : en2 = if 3 ≤ v then endE v else en) (h2 : ly2 = if v = 0 then ahd ly dn else ly) (h3 : dn2 = if v = 1 then 1 - dn else if v = 2 then 0 else dn)
    (h4 : pw2 = if v = 0 then ppN N ly (ahd ly dn) (qN N p ly pw) else if v = 2 then qN N p ly pw * N 3 / 100 else if v = 7 then 0 else qN N p ly pw) (h5 : tr2 = tr + if v = 1 then 1 else 0) (h6 : mr2 = mr + if v = 2 ∨ v = 7 then 1 else 0) (h7 : cr2 = cr + if v = 0 then 1 else 0) :
    RunI N p y0 e0 (k + 1) ly2 dn2 (lg + 1) en2 (sh + shN N p ly) (le + leN N p ly) (tm + tmN N p ly) pw2 tr2 mr2 cr2 (max de ly) := by
  obtain ⟨⟨s1, s2, s3, s4, s5, s6, s7, s8⟩, h⟩ := h
  rcases h with ⟨hb, -, hw, ho, hy, hd⟩ | ⟨hb, hw, j, rfl, ho, hv', he'⟩ | ⟨hb, rfl, he', hw⟩
  · have hve : v = vE N p y0 e0 k := by rw [hv, s1, hw, hy, hd]; rfl
    have hr := evN_rng N p (lg + 1) ly dn (qN N p ly pw)
    rw [← hv] at hr
    refine ⟨⟨by rw [s1]; rfl, by rw [s2, hy]; rfl, by rw [s3, hy]; rfl, by rw [s4, hy]; rfl, by rw [h5, s5, hve]; rfl, by rw [h6, s6, hve]; rfl, by rw [h7, s7, hve]; rfl, by rw [s8, hy]; rfl⟩, ?_⟩
    have e2 : pw2 = wN N p y0 e0 (k + 1) := by rw [nx_w, h4, hve, hy, hd, hw]; rfl
    by_cases g : 3 ≤ v
    · refine Or.inr (Or.inl ⟨hb, e2, k, rfl, ho, by rw [← hve]; exact g, by rw [h1, if_pos g, hve]⟩)
    · refine Or.inl ⟨hb, by rw [h1, if_neg g, he], e2, fun i hi => ?_, by rw [nx_y, h2, hve, hy, hd], by rw [nx_e, h3, hve, hd]⟩
      rcases Nat.lt_succ_iff_lt_or_eq.mp hi with q | q
      · exact ho i q
      · rw [q, ← hve]; omega
  · have := endE_ge (v := vE N p y0 e0 j)
    omega
  · omega
/-- where it is under way, the leg's layer and power are in range -/
theorem RunI.bd {N : Int → Int} (hN : NOk0 N) {p y0 e0 : Int} {k : Nat} {ly dn lg en sh le tm pw tr mr cr de : Int} (h : RunI N p y0 e0 k ly dn lg en sh le tm pw tr mr cr de) (hk : k ≤ 60) (he : en = -1) (p0 : 0 ≤ p) (he0 : e0 = 0 ∨ e0 = 1) : (0 ≤ ly ∧ ly < N 0) ∧ p < nX N ly ∧ (dn = 0 ∨ dn = 1) ∧ 0 ≤ pw ∧ pw ≤ 1000000 := by
  obtain ⟨-, h⟩ := h
  rcases h with ⟨hb, -, hw, ho, hy, hd⟩ | ⟨hb, hw, j, rfl, ho, hv', he'⟩ | ⟨hb, rfl, he', hw⟩
  · have := on_bd hN p0 hb he0 k hk ho
    rw [hw, hy, hd]
    exact this
  · have := endE_ge (v := vE N p y0 e0 j)
    omega
  · omega
/-- the sums' ranges -/
theorem SumI.bd {N : Int → Int} (hN : NOk0 N) {p y0 e0 : Int} {k : Nat} {lg sh le tm tr mr cr de : Int} (h : SumI N p y0 e0 k lg sh le tm tr mr cr de) (hk : k ≤ 60) (p0 : 0 ≤ p) (hb : k = 0 ∨ begN N y0 p) (he0 : e0 = 0 ∨ e0 = 1) (ho : onN N p y0 e0 (k - 1)) : (lg = (k : Int)) ∧ (0 ≤ sh ∧ sh ≤ 29970000) ∧ (0 ≤ le ∧ le ≤ 29970000) ∧ (0 ≤ tm ∧ tm ≤ 119880000) ∧ (0 ≤ tr ∧ tr ≤ 60) ∧ (0 ≤ mr ∧ mr ≤ 60) ∧ (0 ≤ cr ∧ cr ≤ 60) ∧ -1 ≤ de ∧ de ≤ 9 := by
  obtain ⟨s1, s2, s3, s4, s5, s6, s7, s8⟩ := h
  have hl : ∀ i : Nat, i < k → (0 ≤ yN N p y0 e0 i ∧ yN N p y0 e0 i < N 0) ∧ p < nX N (yN N p y0 e0 i) := fun i hi => by
    have := on_bd hN p0 (hb.resolve_left (by omega)) he0 i (by omega) (fun j hj => ho j (by omega))
    exact ⟨this.1, this.2.1⟩
  have hg : ∀ i : Nat, i < k → _ := fun i hi => leg_bd hN (hl i hi).1.1 (hl i hi).1.2 p0 (hl i hi).2
  have a1 := smN_bd (f := shK N p y0 e0) (b := 499500) k (fun i hi => (hg i hi).1)
  have a2 := smN_bd (f := leK N p y0 e0) (b := 499500) k (fun i hi => ⟨by have := (hg i hi).2.1.1; unfold leK; omega, (hg i hi).2.1.2⟩)
  have a3 := smN_bd (f := tmK N p y0 e0) (b := 1998000) k (fun i hi => ⟨by have := (hg i hi).2.2.1.1; unfold tmK; omega, (hg i hi).2.2.1.2⟩)
  have a4 := smN_bd (f := trK N p y0 e0) (b := 1) k (fun i hi => by unfold trK; split <;> omega)
  have a5 := smN_bd (f := mrK N p y0 e0) (b := 1) k (fun i hi => by unfold mrK; split <;> omega)
  have a6 := smN_bd (f := crK N p y0 e0) (b := 1) k (fun i hi => by unfold crK; split <;> omega)
  have a7 : ∀ j : Nat, j ≤ k → -1 ≤ dpN (yN N p y0 e0) j ∧ dpN (yN N p y0 e0) j ≤ 9 := by
    intro j
    induction j with
    | zero => intro _; simp only [dpN]; omega
    | succ j ih =>
      intro hj
      have := ih (by omega)
      have h2 := (hl j (by omega)).1
      have h3 := hN.1
      simp only [dpN]
      omega
  have a8 := a7 k (Nat.le_refl _)
  have hkk : (k : Int) ≤ 60 := by omega
  refine ⟨s1, ?_, ?_, ?_, ?_, ?_, ?_, ?_⟩ <;> omega
