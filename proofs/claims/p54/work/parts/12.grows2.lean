section GROWS
variable {p : Program} {l : Launch} {e : Env} {R : Room} {s : State} {m : MethodId} {args : Array Value} {below : List Frame} {meth : Method} {c : Code} {H : Heap} {locs : List Loc} {cells slots : Nat} {Q : State → Prop}
variable {cc : ByteArray} {pc nL : Nat} {ls : Array Slot} {rest : List Value} {Ts : List Cond} {own : String}
theorem g_iadd (S : CallFix p m c cc nL s args Ts own) {a b z : Int} (hd : decode cc pc = .ok (.iadd, 1)) (hz : a + b = z) (k : W p l e R s m args below meth c H locs cells slots Q (F0 m (pc + 1) ls (.int (iI z) :: rest))) : W p l e R s m args below meth c H locs cells slots Q (F0 m pc ls (.int (iI b) :: .int (iI a) :: rest)) := by
  subst hz
  rw [← iI_add] at k
  exact lv_iadd S.1 S.2.1 hd k
theorem g_isub (S : CallFix p m c cc nL s args Ts own) {a b z : Int} (hd : decode cc pc = .ok (.isub, 1)) (hz : a - b = z) (k : W p l e R s m args below meth c H locs cells slots Q (F0 m (pc + 1) ls (.int (iI z) :: rest))) : W p l e R s m args below meth c H locs cells slots Q (F0 m pc ls (.int (iI b) :: .int (iI a) :: rest)) := by
  subst hz
  rw [← iI_sub] at k
  exact lv_isub S.1 S.2.1 hd k
theorem g_imul (S : CallFix p m c cc nL s args Ts own) {a b z : Int} (hd : decode cc pc = .ok (.imul, 1)) (hz : a * b = z) (k : W p l e R s m args below meth c H locs cells slots Q (F0 m (pc + 1) ls (.int (iI z) :: rest))) : W p l e R s m args below meth c H locs cells slots Q (F0 m pc ls (.int (iI b) :: .int (iI a) :: rest)) := by
  subst hz
  rw [← iI_mul] at k
  exact lv_imul S.1 S.2.1 hd k
theorem g_lsub (S : CallFix p m c cc nL s args Ts own) {a b z : Int} (hd : decode cc pc = .ok (.lsub, 1)) (hz : a - b = z) (k : W p l e R s m args below meth c H locs cells slots Q (F0 m (pc + 1) ls (.long (iL z) :: rest))) : W p l e R s m args below meth c H locs cells slots Q (F0 m pc ls (.long (iL b) :: .long (iL a) :: rest)) := by
  subst hz
  rw [← iL_sub] at k
  exact lv_lsub S.1 S.2.1 hd k
theorem g_lmul (S : CallFix p m c cc nL s args Ts own) {a b z : Int} (hd : decode cc pc = .ok (.lmul, 1)) (hz : a * b = z) (k : W p l e R s m args below meth c H locs cells slots Q (F0 m (pc + 1) ls (.long (iL z) :: rest))) : W p l e R s m args below meth c H locs cells slots Q (F0 m pc ls (.long (iL b) :: .long (iL a) :: rest)) := by
  subst hz
  rw [← iL_mul] at k
  exact lv_lmul S.1 S.2.1 hd k
theorem g_idiv (S : CallFix p m c cc nL s args Ts own) {a b z : Int} (hd : decode cc pc = .ok (.idiv, 1)) (ha : 0 ≤ a ∧ a < 2147483648) (hb : 0 < b ∧ b < 2147483648) (hz : a / b = z) (k : W p l e R s m args below meth c H locs cells slots Q (F0 m (pc + 1) ls (.int (iI z) :: rest))) : W p l e R s m args below meth c H locs cells slots Q (F0 m pc ls (.int (iI b) :: .int (iI a) :: rest)) := by
  subst hz
  rw [← iI_div ha hb] at k
  exact lv_idiv S.1 S.2.1 hd (iI_ne0 (by omega) (by omega)) k
theorem g_ldiv (S : CallFix p m c cc nL s args Ts own) {a b z : Int} (hd : decode cc pc = .ok (.ldiv, 1)) (ha : 0 ≤ a ∧ a < 9223372036854775808) (hb : 0 < b ∧ b < 9223372036854775808) (hz : a / b = z) (k : W p l e R s m args below meth c H locs cells slots Q (F0 m (pc + 1) ls (.long (iL z) :: rest))) : W p l e R s m args below meth c H locs cells slots Q (F0 m pc ls (.long (iL b) :: .long (iL a) :: rest)) := by
  subst hz
  rw [← iL_div ha hb] at k
  exact lv_ldiv S.1 S.2.1 hd (iL_ne0 (by omega) (by omega)) k
theorem g_irem (S : CallFix p m c cc nL s args Ts own) {a b z : Int} (hd : decode cc pc = .ok (.irem, 1)) (ha : 0 ≤ a ∧ a < 2147483648) (hb : 0 < b ∧ b < 2147483648) (hz : a % b = z) (k : W p l e R s m args below meth c H locs cells slots Q (F0 m (pc + 1) ls (.int (iI z) :: rest))) : W p l e R s m args below meth c H locs cells slots Q (F0 m pc ls (.int (iI b) :: .int (iI a) :: rest)) := by
  subst hz
  rw [← iI_rem ha hb] at k
  exact lv_irem S.1 S.2.1 hd (iI_ne0 (by omega) (by omega)) k
theorem g_i2l (S : CallFix p m c cc nL s args Ts own) {a : Int} (hd : decode cc pc = .ok (.i2l, 1)) (ha : (-2147483648 ≤ a ∧ a < 2147483648)) (k : W p l e R s m args below meth c H locs cells slots Q (F0 m (pc + 1) ls (.long (iL a) :: rest))) : W p l e R s m args below meth c H locs cells slots Q (F0 m pc ls (.int (iI a) :: rest)) := lv_i2l S.1 S.2.1 hd (iI_l ha) k
theorem g_l2i (S : CallFix p m c cc nL s args Ts own) {a : Int} (hd : decode cc pc = .ok (.l2i, 1)) (k : W p l e R s m args below meth c H locs cells slots Q (F0 m (pc + 1) ls (.int (iI a) :: rest))) : W p l e R s m args below meth c H locs cells slots Q (F0 m pc ls (.long (iL a) :: rest)) := lv_l2i S.1 S.2.1 hd (iL_i a) k
theorem g_i2b (S : CallFix p m c cc nL s args Ts own) {a : Int} (hd : decode cc pc = .ok (.i2b, 1)) (k : W p l e R s m args below meth c H locs cells slots Q (F0 m (pc + 1) ls (.int (bB a) :: rest))) : W p l e R s m args below meth c H locs cells slots Q (F0 m pc ls (.int (iI a) :: rest)) := lv_i2b S.1 S.2.1 hd rfl k
theorem g_iconst (S : CallFix p m c cc nL s args Ts own) {n : Int} (hd : decode cc pc = .ok (.iconst n, 1)) (k : W p l e R s m args below meth c H locs cells slots Q (F0 m (pc + 1) ls (.int (iI n) :: rest))) : W p l e R s m args below meth c H locs cells slots Q (F0 m pc ls rest) := lv_iconst S.1 S.2.1 hd rfl k
theorem g_bipush (S : CallFix p m c cc nL s args Ts own) {n : Int} (hd : decode cc pc = .ok (.bipush n, 2)) (hn : -128 ≤ n ∧ n ≤ 127) (k : W p l e R s m args below meth c H locs cells slots Q (F0 m (pc + 2) ls (.int (iI n) :: rest))) : W p l e R s m args below meth c H locs cells slots Q (F0 m pc ls rest) := lv_bipush S.1 S.2.1 hd (i8_i hn) k
theorem g_sipush (S : CallFix p m c cc nL s args Ts own) {n : Int} (hd : decode cc pc = .ok (.sipush n, 3)) (hn : -32768 ≤ n ∧ n ≤ 32767) (k : W p l e R s m args below meth c H locs cells slots Q (F0 m (pc + 3) ls (.int (iI n) :: rest))) : W p l e R s m args below meth c H locs cells slots Q (F0 m pc ls rest) := lv_sipush S.1 S.2.1 hd (i16_i hn) k
theorem g_lconst (S : CallFix p m c cc nL s args Ts own) {n : Fin 2} {z : Int} (hd : decode cc pc = .ok (.lconst n, 1)) (hz : ((n : Nat) : Int) = z) (k : W p l e R s m args below meth c H locs cells slots Q (F0 m (pc + 1) ls (.long (iL z) :: rest))) : W p l e R s m args below meth c H locs cells slots Q (F0 m pc ls rest) := by
  subst hz
  exact lv_lconst S.1 S.2.1 hd Int64.ofInt_eq_ofNat.symm k
theorem g_ldc (S : CallFix p m c cc nL s args Ts own) {index : Nat} {v : Int32} {z : Int} (hd : decode cc pc = .ok (.ldc index, 2)) (hw : Cond.constant own index v ∈ Ts) (hv : v = iI z) (k : W p l e R s m args below meth c H locs cells slots Q (F0 m (pc + 2) ls (.int (iI z) :: rest))) : W p l e R s m args below meth c H locs cells slots Q (F0 m pc ls rest) := by
  subst hv
  exact lv_ldc S.1 S.2.1 S.2.2.2.1 (S.2.2.2.2 _ hw) hd k
theorem g_ldc2 (S : CallFix p m c cc nL s args Ts own) {index : Nat} {v : Int64} {z : Int} (hd : decode cc pc = .ok (.ldc2_w index, 3)) (hw : Cond.constantLong own index v ∈ Ts) (hv : v = iL z) (k : W p l e R s m args below meth c H locs cells slots Q (F0 m (pc + 3) ls (.long (iL z) :: rest))) : W p l e R s m args below meth c H locs cells slots Q (F0 m pc ls rest) := by
  subst hv
  exact lv_ldc2 S.1 S.2.1 S.2.2.2.1 (S.2.2.2.2 _ hw) hd k
theorem g_iinc {a n z : Int} (h : a + n = z) : iI a + Int32.ofInt n = iI z := by
  subst h
  exact iI_add a n
theorem g_icmp_lt (S : CallFix p m c cc nL s args Ts own) {a b : Int} {off : Int} {tgt : Nat} (hd : decode cc pc = .ok (.if_icmp .lt off, 3)) (ht : (pc : Int) + off = (tgt : Int)) (ha : (-2147483648 ≤ a ∧ a < 2147483648)) (hb : (-2147483648 ≤ b ∧ b < 2147483648)) (kt : a < b → W p l e R s m args below meth c H locs cells slots Q (F0 m tgt ls rest)) (kf : ¬ (a < b) → W p l e R s m args below meth c H locs cells slots Q (F0 m (pc + 3) ls rest)) : W p l e R s m args below meth c H locs cells slots Q (F0 m pc ls (.int (iI b) :: .int (iI a) :: rest)) :=
  lv_icmp_lt S.1 S.2.1 hd ht (fun h => kt ((iI_lt ha hb).mp h)) (fun h => kf (fun g => h ((iI_lt ha hb).mpr g)))
theorem g_if_lt (S : CallFix p m c cc nL s args Ts own) {a : Int} {off : Int} {tgt : Nat} (hd : decode cc pc = .ok (.ifCond .lt off, 3)) (ht : (pc : Int) + off = (tgt : Int)) (ha : (-2147483648 ≤ a ∧ a < 2147483648)) (kt : a < 0 → W p l e R s m args below meth c H locs cells slots Q (F0 m tgt ls rest)) (kf : ¬ (a < 0) → W p l e R s m args below meth c H locs cells slots Q (F0 m (pc + 3) ls rest)) : W p l e R s m args below meth c H locs cells slots Q (F0 m pc ls (.int (iI a) :: rest)) :=
  lv_if_lt S.1 S.2.1 hd ht (fun h => kt ((iI_lt (b := 0) ha (by omega)).mp h)) (fun h => kf (fun g => h ((iI_lt (b := 0) ha (by omega)).mpr g)))
theorem g_icmp_ge (S : CallFix p m c cc nL s args Ts own) {a b : Int} {off : Int} {tgt : Nat} (hd : decode cc pc = .ok (.if_icmp .ge off, 3)) (ht : (pc : Int) + off = (tgt : Int)) (ha : (-2147483648 ≤ a ∧ a < 2147483648)) (hb : (-2147483648 ≤ b ∧ b < 2147483648)) (kt : b ≤ a → W p l e R s m args below meth c H locs cells slots Q (F0 m tgt ls rest)) (kf : ¬ (b ≤ a) → W p l e R s m args below meth c H locs cells slots Q (F0 m (pc + 3) ls rest)) : W p l e R s m args below meth c H locs cells slots Q (F0 m pc ls (.int (iI b) :: .int (iI a) :: rest)) :=
  lv_icmp_ge S.1 S.2.1 hd ht (fun h => kt ((iI_le hb ha).mp h)) (fun h => kf (fun g => h ((iI_le hb ha).mpr g)))
theorem g_if_ge (S : CallFix p m c cc nL s args Ts own) {a : Int} {off : Int} {tgt : Nat} (hd : decode cc pc = .ok (.ifCond .ge off, 3)) (ht : (pc : Int) + off = (tgt : Int)) (ha : (-2147483648 ≤ a ∧ a < 2147483648)) (kt : 0 ≤ a → W p l e R s m args below meth c H locs cells slots Q (F0 m tgt ls rest)) (kf : ¬ (0 ≤ a) → W p l e R s m args below meth c H locs cells slots Q (F0 m (pc + 3) ls rest)) : W p l e R s m args below meth c H locs cells slots Q (F0 m pc ls (.int (iI a) :: rest)) :=
  lv_if_ge S.1 S.2.1 hd ht (fun h => kt ((iI_le (a := 0) (by omega) ha).mp h)) (fun h => kf (fun g => h ((iI_le (a := 0) (by omega) ha).mpr g)))
theorem g_icmp_gt (S : CallFix p m c cc nL s args Ts own) {a b : Int} {off : Int} {tgt : Nat} (hd : decode cc pc = .ok (.if_icmp .gt off, 3)) (ht : (pc : Int) + off = (tgt : Int)) (ha : (-2147483648 ≤ a ∧ a < 2147483648)) (hb : (-2147483648 ≤ b ∧ b < 2147483648)) (kt : b < a → W p l e R s m args below meth c H locs cells slots Q (F0 m tgt ls rest)) (kf : ¬ (b < a) → W p l e R s m args below meth c H locs cells slots Q (F0 m (pc + 3) ls rest)) : W p l e R s m args below meth c H locs cells slots Q (F0 m pc ls (.int (iI b) :: .int (iI a) :: rest)) :=
  lv_icmp_gt S.1 S.2.1 hd ht (fun h => kt ((iI_lt hb ha).mp h)) (fun h => kf (fun g => h ((iI_lt hb ha).mpr g)))
theorem g_icmp_le (S : CallFix p m c cc nL s args Ts own) {a b : Int} {off : Int} {tgt : Nat} (hd : decode cc pc = .ok (.if_icmp .le off, 3)) (ht : (pc : Int) + off = (tgt : Int)) (ha : (-2147483648 ≤ a ∧ a < 2147483648)) (hb : (-2147483648 ≤ b ∧ b < 2147483648)) (kt : a ≤ b → W p l e R s m args below meth c H locs cells slots Q (F0 m tgt ls rest)) (kf : ¬ (a ≤ b) → W p l e R s m args below meth c H locs cells slots Q (F0 m (pc + 3) ls rest)) : W p l e R s m args below meth c H locs cells slots Q (F0 m pc ls (.int (iI b) :: .int (iI a) :: rest)) :=
  lv_icmp_le S.1 S.2.1 hd ht (fun h => kt ((iI_le ha hb).mp h)) (fun h => kf (fun g => h ((iI_le ha hb).mpr g)))
theorem g_if_le (S : CallFix p m c cc nL s args Ts own) {a : Int} {off : Int} {tgt : Nat} (hd : decode cc pc = .ok (.ifCond .le off, 3)) (ht : (pc : Int) + off = (tgt : Int)) (ha : (-2147483648 ≤ a ∧ a < 2147483648)) (kt : a ≤ 0 → W p l e R s m args below meth c H locs cells slots Q (F0 m tgt ls rest)) (kf : ¬ (a ≤ 0) → W p l e R s m args below meth c H locs cells slots Q (F0 m (pc + 3) ls rest)) : W p l e R s m args below meth c H locs cells slots Q (F0 m pc ls (.int (iI a) :: rest)) :=
  lv_if_le S.1 S.2.1 hd ht (fun h => kt ((iI_le (b := 0) ha (by omega)).mp h)) (fun h => kf (fun g => h ((iI_le (b := 0) ha (by omega)).mpr g)))
theorem g_icmp_eq (S : CallFix p m c cc nL s args Ts own) {a b : Int} {off : Int} {tgt : Nat} (hd : decode cc pc = .ok (.if_icmp .eq off, 3)) (ht : (pc : Int) + off = (tgt : Int)) (ha : (-2147483648 ≤ a ∧ a < 2147483648)) (hb : (-2147483648 ≤ b ∧ b < 2147483648)) (kt : a = b → W p l e R s m args below meth c H locs cells slots Q (F0 m tgt ls rest)) (kf : ¬ (a = b) → W p l e R s m args below meth c H locs cells slots Q (F0 m (pc + 3) ls rest)) : W p l e R s m args below meth c H locs cells slots Q (F0 m pc ls (.int (iI b) :: .int (iI a) :: rest)) :=
  lv_icmp_eq S.1 S.2.1 hd ht (fun h => kt ((iI_eq ha hb).mp h)) (fun h => kf (fun g => h ((iI_eq ha hb).mpr g)))
theorem g_if_eq (S : CallFix p m c cc nL s args Ts own) {a : Int} {off : Int} {tgt : Nat} (hd : decode cc pc = .ok (.ifCond .eq off, 3)) (ht : (pc : Int) + off = (tgt : Int)) (ha : (-2147483648 ≤ a ∧ a < 2147483648)) (kt : a = 0 → W p l e R s m args below meth c H locs cells slots Q (F0 m tgt ls rest)) (kf : ¬ (a = 0) → W p l e R s m args below meth c H locs cells slots Q (F0 m (pc + 3) ls rest)) : W p l e R s m args below meth c H locs cells slots Q (F0 m pc ls (.int (iI a) :: rest)) :=
  lv_if_eq S.1 S.2.1 hd ht (fun h => kt ((iI_eq (b := 0) ha (by omega)).mp h)) (fun h => kf (fun g => h ((iI_eq (b := 0) ha (by omega)).mpr g)))
theorem g_icmp_ne (S : CallFix p m c cc nL s args Ts own) {a b : Int} {off : Int} {tgt : Nat} (hd : decode cc pc = .ok (.if_icmp .ne off, 3)) (ht : (pc : Int) + off = (tgt : Int)) (ha : (-2147483648 ≤ a ∧ a < 2147483648)) (hb : (-2147483648 ≤ b ∧ b < 2147483648)) (kt : ¬ (a = b) → W p l e R s m args below meth c H locs cells slots Q (F0 m tgt ls rest)) (kf : a = b → W p l e R s m args below meth c H locs cells slots Q (F0 m (pc + 3) ls rest)) : W p l e R s m args below meth c H locs cells slots Q (F0 m pc ls (.int (iI b) :: .int (iI a) :: rest)) :=
  lv_icmp_ne S.1 S.2.1 hd ht (fun h => kt (fun g => h ((iI_eq ha hb).mpr g))) (fun h => kf ((iI_eq ha hb).mp h))
theorem g_if_ne (S : CallFix p m c cc nL s args Ts own) {a : Int} {off : Int} {tgt : Nat} (hd : decode cc pc = .ok (.ifCond .ne off, 3)) (ht : (pc : Int) + off = (tgt : Int)) (ha : (-2147483648 ≤ a ∧ a < 2147483648)) (kt : ¬ (a = 0) → W p l e R s m args below meth c H locs cells slots Q (F0 m tgt ls rest)) (kf : a = 0 → W p l e R s m args below meth c H locs cells slots Q (F0 m (pc + 3) ls rest)) : W p l e R s m args below meth c H locs cells slots Q (F0 m pc ls (.int (iI a) :: rest)) :=
  lv_if_ne S.1 S.2.1 hd ht (fun h => kt (fun g => h ((iI_eq (b := 0) ha (by omega)).mpr g))) (fun h => kf ((iI_eq (b := 0) ha (by omega)).mp h))
/-- a truth value -/
def bI (P : Prop) [Decidable P] : Int := if P then 1 else 0
theorem bI_t {P : Prop} [Decidable P] (h : P) : bI P = 1 := if_pos h
theorem bI_f {P : Prop} [Decidable P] (h : ¬ P) : bI P = 0 := if_neg h
theorem bI_01 (P : Prop) [Decidable P] : bI P = 0 ∨ bI P = 1 := by
  by_cases h : P
  · exact Or.inr (bI_t h)
  · exact Or.inl (bI_f h)
theorem g_ifeq_b (S : CallFix p m c cc nL s args Ts own) {B : Prop} [Decidable B] {off : Int} {tgt : Nat} (hd : decode cc pc = .ok (.ifCond .eq off, 3)) (ht : (pc : Int) + off = (tgt : Int)) (kt : ¬ B → W p l e R s m args below meth c H locs cells slots Q (F0 m tgt ls rest)) (kf : B → W p l e R s m args below meth c H locs cells slots Q (F0 m (pc + 3) ls rest)) : W p l e R s m args below meth c H locs cells slots Q (F0 m pc ls (.int (iI (bI B)) :: rest)) :=
  g_if_eq S hd ht (by rcases bI_01 B with h | h <;> rw [h] <;> omega) (fun h => kt (fun b => by rw [bI_t b] at h; exact absurd h (by decide))) (fun h => kf (Decidable.byContradiction (fun b => h (bI_f b))))
theorem g_ifne_b (S : CallFix p m c cc nL s args Ts own) {B : Prop} [Decidable B] {off : Int} {tgt : Nat} (hd : decode cc pc = .ok (.ifCond .ne off, 3)) (ht : (pc : Int) + off = (tgt : Int)) (kt : B → W p l e R s m args below meth c H locs cells slots Q (F0 m tgt ls rest)) (kf : ¬ B → W p l e R s m args below meth c H locs cells slots Q (F0 m (pc + 3) ls rest)) : W p l e R s m args below meth c H locs cells slots Q (F0 m pc ls (.int (iI (bI B)) :: rest)) :=
  g_if_ne S hd ht (by rcases bI_01 B with h | h <;> rw [h] <;> omega) (fun h => kt (Decidable.byContradiction (fun b => h (bI_f b)))) (fun h => kf (fun b => by rw [bI_t b] at h; exact absurd h (by decide)))
theorem nz_b {z : Int} (h : z = 0 ∨ z = 1) : narrow .boolean (.int (iI z)) = .int (iI z) := by
  rcases h with rfl | rfl <;> rfl
theorem fz_b {z : Int} (h : z = 0 ∨ z = 1) : fits .boolean (.int (iI z)) = true := by
  rcases h with rfl | rfl <;> rfl
theorem lcmp_iI {a b : Int} (ha : (-9223372036854775808 ≤ a ∧ a < 9223372036854775808)) (hb : (-9223372036854775808 ≤ b ∧ b < 9223372036854775808)) : lg_cmp (iL a) (iL b) = iI (if b < a then 1 else if a = b then 0 else -1) := by
  unfold lg_cmp
  by_cases h1 : b < a
  · rw [if_pos h1, if_pos (show iL a > iL b from (iL_lt hb ha).mpr h1)]
    rfl
  · rw [if_neg h1, if_neg (show ¬ iL a > iL b from fun h => h1 ((iL_lt hb ha).mp h))]
    by_cases h2 : a = b
    · rw [if_pos h2, if_pos ((iL_eq ha hb).mpr h2)]
      rfl
    · rw [if_neg h2, if_neg (fun h => h2 ((iL_eq ha hb).mp h))]
      rfl
theorem g_lcmp (S : CallFix p m c cc nL s args Ts own) {a b : Int} (hd : decode cc pc = .ok (.lcmp, 1)) (ha : (-9223372036854775808 ≤ a ∧ a < 9223372036854775808)) (hb : (-9223372036854775808 ≤ b ∧ b < 9223372036854775808)) (k : W p l e R s m args below meth c H locs cells slots Q (F0 m (pc + 1) ls (.int (iI (if b < a then 1 else if a = b then 0 else -1)) :: rest))) : W p l e R s m args below meth c H locs cells slots Q (F0 m pc ls (.long (iL b) :: .long (iL a) :: rest)) := by
  rw [← lcmp_iI ha hb] at k
  exact W.lcmp S.1 S.2.1 hd k
theorem iI_shr {a : Int} (ha : -2147483648 ≤ a ∧ a < 2147483648) (k : Nat) (P : Int) (hs : ((iI (k : Int) &&& 31).toBitVec.smod 32).toNat = k) (hP : ((2 ^ k : Nat) : Int) = P) (hr : -2147483648 ≤ a / P ∧ a / P < 2147483648) : iI a >>> (iI (k : Int) &&& 31) = iI (a / P) := by
  rw [← Int32.toInt_inj, pk_shr _ _ k hs, iI_toInt ha, iI_toInt hr, Int.shiftRight_eq_div_pow, hP]
theorem g_ishr (S : CallFix p m c cc nL s args Ts own) {a : Int} (k : Nat) (P : Int) (hd : decode cc pc = .ok (.ishr, 1)) (ha : (-2147483648 ≤ a ∧ a < 2147483648)) (hs : ((iI (k : Int) &&& 31).toBitVec.smod 32).toNat = k) (hP : ((2 ^ k : Nat) : Int) = P) (hr : (-2147483648 ≤ a / P ∧ a / P < 2147483648)) (kk : W p l e R s m args below meth c H locs cells slots Q (F0 m (pc + 1) ls (.int (iI (a / P)) :: rest))) : W p l e R s m args below meth c H locs cells slots Q (F0 m pc ls (.int (iI (k : Int)) :: .int (iI a) :: rest)) := by
  rw [← iI_shr ha k P hs hP hr] at kk
  exact lv_ishr S.1 S.2.1 hd kk
end GROWS
section GFLD
variable {p : Program} {l : Launch} {e : Env} {R : Room} {s : State} {m : MethodId} {args : Array Value} {below : List Frame} {meth : Method} {c : Code} {H : Heap} {locs : List Loc} {cells slots : Nat} {Q : State → Prop}
variable {cc : ByteArray} {pc nL : Nat} {ls : Array Slot} {rest : List Value} {Ts : List Cond} {own : String} {K : KC} {A : Nat → Prop} {H0 : Heap} {gs gs' : List va_W} {a : Nat}
theorem g_get (S : CallFix p m c cc nL s args Ts own) (C : gC K A H0 s) (hG : gW K A H0 gs H locs) {Cn : String} {T : u_T} {N ci index : Nat} (hin : ∀ w ∈ u_ws Cn T N, w ∈ Ts) (q0 : Nat) {fs : List Value} (he : gs.flatten[q0]? = some (a, .inr (ci, fs))) (hc : vwCl[ci]? = some (Cn, T, N)) (k : Nat) (hk : k < N) (hw : Cond.fieldLink own index (T k).1 (T k).2.1 (T k).2.2.1 ∈ Ts) {v : Value} (hv : fs[k]? = some v) (hd : decode cc pc = .ok (.getfield index, 3))
    (kk : W p l e R s m args below meth c H locs cells slots Q (F0 m (pc + 3) ls (v :: rest))) : W p l e R s m args below meth c H locs cells slots Q (F0 m pc ls (.ref a :: rest)) :=
  va_get S.1 S.2.1 S.2.2.2.2 hin S.2.2.2.1 C.1.1 hG.1 q0 he hc k hk (S.2.2.2.2 _ hw) (fun _ h => h) hv hd kk
theorem g_put (S : CallFix p m c cc nL s args Ts own) (C : gC K A H0 s) (hG : gW K A H0 gs H locs) {Cn : String} {T : u_T} {N ci index : Nat} (hin : ∀ w ∈ u_ws Cn T N, w ∈ Ts) (ty0 : Nat → FieldType) (hty : ∀ k, k < N → parseFieldDescriptor (T k).2.2.1 = some (ty0 k)) (hnm : ∀ a, a < N → ∀ b, b < N → a ≠ b → (T a).2.1 ≠ (T b).2.1) (q0 : Nat) {fs : List Value} (he : gs.flatten[q0]? = some (a, .inr (ci, fs))) (hc : vwCl[ci]? = some (Cn, T, N)) (k : Nat) (hk : k < N) (hw : Cond.fieldLink own index (T k).1 (T k).2.1 (T k).2.2.1 ∈ Ts) (hfin : (T k).2.2.2 = false) {v : Value} (hn : narrow (ty0 k) v = v) (hfit : fits (ty0 k) v = true) (hl : k < fs.length) (hs : gs.flatten.set q0 (a, .inr (ci, fs.set k v)) = gs'.flatten) (hd : decode cc pc = .ok (.putfield index, 3))
    (kk : ∀ (H1 : Heap) (locs1 : List Loc), gW K A H0 gs' H1 locs1 → W p l e R s m args below meth c H1 locs1 cells slots Q (F0 m (pc + 3) ls rest)) : W p l e R s m args below meth c H locs cells slots Q (F0 m pc ls (v :: .ref a :: rest)) :=
  va_put S.1 S.2.1 S.2.2.2.2 hin ty0 hty hnm S.2.2.2.1 C.1.1 hG.1 hG.2.1 hG.2.2 q0 he hc k hk (S.2.2.2.2 _ hw) (fun _ h => h) hfin (hty k hk) hn hfit hl hd (fun H1 locs1 a b d => kk H1 locs1 ⟨by rw [← hs]; exact a, by rw [← hs]; exact b, d⟩)
theorem g_putF (S : CallFix p m c cc nL s args Ts own) (C : gC K A H0 s) (hG : gW K A H0 gs H locs) {Cn : String} {T : u_T} {N ci index : Nat} (hin : ∀ w ∈ u_ws Cn T N, w ∈ Ts) (ty0 : Nat → FieldType) (hty : ∀ k, k < N → parseFieldDescriptor (T k).2.2.1 = some (ty0 k)) (hnm : ∀ a, a < N → ∀ b, b < N → a ≠ b → (T a).2.1 ≠ (T b).2.1) (q0 : Nat) {fs : List Value} (he : gs.flatten[q0]? = some (a, .inr (ci, fs))) (hc : vwCl[ci]? = some (Cn, T, N)) (k : Nat) (hk : k < N) (hw : Cond.fieldLink own index (T k).1 (T k).2.1 (T k).2.2.1 ∈ Ts) (hfin : (T k).2.2.2 = true) (hin2 : meth.name = "<init>") (hdecl : (T k).1 = own) {v : Value} (hn : narrow (ty0 k) v = v) (hfit : fits (ty0 k) v = true) (hl : k < fs.length) (hs : gs.flatten.set q0 (a, .inr (ci, fs.set k v)) = gs'.flatten) (hd : decode cc pc = .ok (.putfield index, 3))
    (kk : ∀ (H1 : Heap) (locs1 : List Loc), gW K A H0 gs' H1 locs1 → W p l e R s m args below meth c H1 locs1 cells slots Q (F0 m (pc + 3) ls rest)) : W p l e R s m args below meth c H locs cells slots Q (F0 m pc ls (v :: .ref a :: rest)) :=
  va_putF S.1 S.2.1 S.2.2.2.2 hin ty0 hty hnm S.2.2.2.1 C.1.1 hG.1 hG.2.1 hG.2.2 q0 he hc k hk (S.2.2.2.2 _ hw) (fun _ h => h) hfin hin2 hdecl (hty k hk) hn hfit hl hd (fun H1 locs1 a b d => kk H1 locs1 ⟨by rw [← hs]; exact a, by rw [← hs]; exact b, d⟩)
/-- arrays as cells: of ints, of bytes, of truth values, of longs, of references -/
abbrev aI (K : KC) (a n : Nat) (F : Int → Int) : Nat × va_E := (a, .inl (K.2.1 0, n, .inl (fun j : Nat => iI (F (j : Int)))))
abbrev aB (K : KC) (a n : Nat) (F : Int → Int) : Nat × va_E := (a, .inl (K.2.1 1, n, .inl (fun j : Nat => bB (F (j : Int)))))
abbrev aQ (K : KC) (t a n : Nat) (F : Nat → Option Nat) : Nat × va_E := (a, .inl (K.2.1 t, n, .inr (.inr (.inr (.inr F)))))
theorem upd_iI (F : Int → Int) (k : Nat) (v : Int) : upd (fun j : Nat => iI (F (j : Int))) k (iI v) = fun j : Nat => iI (upI F (k : Int) v (j : Int)) := by
  funext j
  by_cases h : j = k
  · subst h
    simp [upd, upI]
  · have h2 : ¬ (j : Int) = (k : Int) := by omega
    simp [upd, upI, h, h2]
theorem upd_bB (F : Int → Int) (k : Nat) (v : Int) : upd (fun j : Nat => bB (F (j : Int))) k (bB v) = fun j : Nat => bB (upI F (k : Int) v (j : Int)) := by
  funext j
  by_cases h : j = k
  · subst h
    simp [upd, upI]
  · have h2 : ¬ (j : Int) = (k : Int) := by omega
    simp [upd, upI, h, h2]
theorem g_iald (S : CallFix p m c cc nL s args Ts own) (C : gC K A H0 s) (hG : gW K A H0 gs H locs) (q0 : Nat) {n : Nat} {F : Int → Int} (he : gs.flatten[q0]? = some (aI K a n F)) {z : Int} (h0 : 0 ≤ z) (h1 : z < (n : Int)) (hn : n ≤ 2147483647) (hd : decode cc pc = .ok (.iaload, 1)) (kk : W p l e R s m args below meth c H locs cells slots Q (F0 m (pc + 1) ls (.int (iI (F z)) :: rest))) : W p l e R s m args below meth c H locs cells slots Q (F0 m pc ls (.int (iI z) :: .ref a :: rest)) := by
  obtain ⟨k, rfl⟩ : ∃ k : Nat, z = (k : Int) := ⟨z.toNat, by omega⟩
  refine va_iald S.1 S.2.1 C.1.1 hG.1 q0 0 he rfl (iI_in rfl (by omega) hn) hd ?_
  rw [iI_cl rfl (by omega)]
  exact kk
theorem g_bald (S : CallFix p m c cc nL s args Ts own) (C : gC K A H0 s) (hG : gW K A H0 gs H locs) (q0 : Nat) {n : Nat} {F : Int → Int} (he : gs.flatten[q0]? = some (aB K a n F)) {z : Int} (h0 : 0 ≤ z) (h1 : z < (n : Int)) (hn : n ≤ 2147483647) (hd : decode cc pc = .ok (.baload, 1)) (kk : W p l e R s m args below meth c H locs cells slots Q (F0 m (pc + 1) ls (.int (bB (F z)) :: rest))) : W p l e R s m args below meth c H locs cells slots Q (F0 m pc ls (.int (iI z) :: .ref a :: rest)) := by
  obtain ⟨k, rfl⟩ : ∃ k : Nat, z = (k : Int) := ⟨z.toNat, by omega⟩
  refine va_bald S.1 S.2.1 C.1.1 hG.1 q0 1 he rfl (iI_in rfl (by omega) hn) hd ?_
  rw [iI_cl rfl (by omega)]
  exact kk
theorem g_bastB (S : CallFix p m c cc nL s args Ts own) (C : gC K A H0 s) (hG : gW K A H0 gs H locs) (q0 : Nat) {n : Nat} {F : Int → Int} (he : gs.flatten[q0]? = some (aB K a n F)) {z v : Int} (h0 : 0 ≤ z) (h1 : z < (n : Int)) (hn : n ≤ 2147483647) (hs : gs.flatten.set q0 (aB K a n (upI F z v)) = gs'.flatten) (hd : decode cc pc = .ok (.bastore, 1)) (kk : ∀ (H1 : Heap) (locs1 : List Loc), gW K A H0 gs' H1 locs1 → W p l e R s m args below meth c H1 locs1 cells slots Q (F0 m (pc + 1) ls rest)) : W p l e R s m args below meth c H locs cells slots Q (F0 m pc ls (.int (bB v) :: .int (iI z) :: .ref a :: rest)) := by
  obtain ⟨k, rfl⟩ : ∃ k : Nat, z = (k : Int) := ⟨z.toNat, by omega⟩
  refine va_bast S.1 S.2.1 C.1.1 hG.1 hG.2.1 hG.2.2 q0 1 he rfl (iI_in rfl (by omega) hn) hd (fun H1 locs1 a b d => kk H1 locs1 ?_)
  rw [iI_cl rfl (by omega)] at a b
  rw [show vp_nar .byte (bB v) = bB v from pk_vb (iI v), upd_bB] at a b
  exact ⟨by rw [← hs]; exact a, by rw [← hs]; exact b, d⟩
theorem g_iast (S : CallFix p m c cc nL s args Ts own) (C : gC K A H0 s) (hG : gW K A H0 gs H locs) (q0 : Nat) {n : Nat} {F : Int → Int} (he : gs.flatten[q0]? = some (aI K a n F)) {z v : Int} (h0 : 0 ≤ z) (h1 : z < (n : Int)) (hn : n ≤ 2147483647) (hs : gs.flatten.set q0 (aI K a n (upI F z v)) = gs'.flatten) (hd : decode cc pc = .ok (.iastore, 1)) (kk : ∀ (H1 : Heap) (locs1 : List Loc), gW K A H0 gs' H1 locs1 → W p l e R s m args below meth c H1 locs1 cells slots Q (F0 m (pc + 1) ls rest)) : W p l e R s m args below meth c H locs cells slots Q (F0 m pc ls (.int (iI v) :: .int (iI z) :: .ref a :: rest)) := by
  obtain ⟨k, rfl⟩ : ∃ k : Nat, z = (k : Int) := ⟨z.toNat, by omega⟩
  refine va_iast S.1 S.2.1 C.1.1 hG.1 hG.2.1 hG.2.2 q0 0 he rfl (iI_in rfl (by omega) hn) hd (fun H1 locs1 a b d => kk H1 locs1 ?_)
  rw [iI_cl rfl (by omega)] at a b
  rw [upd_iI] at a b
  exact ⟨by rw [← hs]; exact a, by rw [← hs]; exact b, d⟩
theorem g_alen (S : CallFix p m c cc nL s args Ts own) (C : gC K A H0 s) (hG : gW K A H0 gs H locs) (q0 t0 : Nat) {cA : ClassId} {x : vp_A} (he : gs.flatten[q0]? = some (a, .inl (cA, x))) {ty : FieldType} (ht : (tyK K)[t0]? = some (cA, ty)) {z : Int} (hz : (x.1 : Int) = z) (hd : decode cc pc = .ok (.arraylength, 1)) (kk : W p l e R s m args below meth c H locs cells slots Q (F0 m (pc + 1) ls (.int (iI z) :: rest))) : W p l e R s m args below meth c H locs cells slots Q (F0 m pc ls (.ref a :: rest)) :=
  va_alen S.1 S.2.1 C.1.1 hG.1 q0 t0 he ht (by rw [nI_iI, hz]) hd kk
theorem gb_b (x : Int32) : x.toInt8.toInt32 &&& 255 = x &&& 255 := by
  apply Int32.toBitVec_inj.mp
  rw [Int32.toBitVec_and, Int32.toBitVec_and, Int8.toBitVec_toInt32, Int32.toBitVec_toInt8]
  apply BitVec.eq_of_getLsbD_eq
  intro i hi
  rw [BitVec.getLsbD_and, BitVec.getLsbD_and]
  have hm : ∀ i < 32, 8 ≤ i → (255 : Int32).toBitVec.getLsbD i = false := by decide
  rcases Nat.lt_or_ge i 8 with z | z
  · rw [BitVec.getLsbD_signExtend, BitVec.getLsbD_signExtend, if_pos z, if_pos hi]
    simp only [z, hi, decide_true, Bool.true_and]
  · rw [hm i hi z]; simp
theorem bB_255 {z : Int} : bB z &&& 255 = iI (z % 256) := by
  unfold bB
  rw [gb_b, pk_and (iI z) 8 (by decide)]
  have h1 : (iI z).toBitVec.toNat = (z % 4294967296).toNat := by
    unfold iI
    rw [Int32.toBitVec_ofInt, BitVec.toNat_ofInt]
    rfl
  rw [h1]
  show Int32.ofNat _ = _
  rw [nI_iI]
  congr 1
  omega
/-- an address on the stack in another name -/
theorem g_top {v w : Value} (h : v = w) (k : W p l e R s m args below meth c H locs cells slots Q (F0 m pc ls (w :: rest))) : W p l e R s m args below meth c H locs cells slots Q (F0 m pc ls (v :: rest)) := by
  subst h
  exact k
theorem g_b255 (S : CallFix p m c cc nL s args Ts own) {z : Int} (hd : decode cc pc = .ok (.iand, 1)) (k : W p l e R s m args below meth c H locs cells slots Q (F0 m (pc + 1) ls (.int (iI (z % 256)) :: rest))) : W p l e R s m args below meth c H locs cells slots Q (F0 m pc ls (.int (iI 255) :: .int (bB z) :: rest)) := by
  rw [← bB_255] at k
  exact lv_iand S.1 S.2.1 hd k
end GFLD
section GINV
variable {p : Program} {l : Launch} {e : Env} {R : Room} {s : State} {m : MethodId} {args : Array Value} {below : List Frame} {meth : Method} {c : Code} {H : Heap} {locs : List Loc} {cells slots : Nat} {Q : State → Prop}
variable {cc bytes : ByteArray} {pc nL maxL index n mc ms f lo : Nat} {ls : Array Slot} {rest st0 : List Value} {Ts wsY : List Cond} {own : String} {K : KC} {A0 : Nat → Prop} {H0 : Heap} {gs gc : List va_W} {is : List Nat} {y : MethodName} {ret : Option FieldType} {host : String} {b : Nat} {As : List Value}
theorem g_invV (S : CallFix p m c cc nL s args Ts own) (C : gC K A0 H0 s) (hG : gW K A0 H0 gs H locs) {T : Type} {post : Value → T → Prop} {Wn gs' : T → List va_W} (is : List Nat) (hM : mG l y wsY f lo K (.ref b :: As) gc post Wn mc ms) (hC : is.map (fun i => gs[i]?) = gc.map some) (hn : va_nd is = true) {Cn : String} {T9 : u_T} {N ci : Nat} {fs : List Value} (q0 : Nat) (he : gc.flatten[q0]? = some (b, .inr (ci, fs))) (hc : vwCl[ci]? = some (Cn, T9, N)) (cw : CallW R s args own Cn index y bytes maxL ret wsY { frames := f, cells := mc, slots := ms, locals := lo } mc ms n) (hlen : As.length = n) (hsz : ls.size = nL) (hst : st0 = As.reverse ++ .ref b :: rest) (hrm : (rest.map fun v => v.category).sum ≤ 8) (hd : decode cc pc = .ok (.invokevirtual index, 3)) (hf : cells + mc ≤ R.cells ∧ slots + ms ≤ R.slots) (hl : ∀ u, is.length ≤ (Wn u).length) (hg : ∀ u, gback gs is (Wn u) = gs' u)
    (kk : ∀ (v : Value) (u : T) (H1 : Heap) (locs1 : List Loc), post v u → gW K A0 H0 (gs' u) H1 locs1 → W p l e R s m args below meth c H1 locs1 (cells + mc) (slots + ms) Q (F0 m (pc + 3) ls (v :: rest))) : W p l e R s m args below meth c H locs cells slots Q (F0 m pc ls st0) :=
  g_backg C hG hC hn (va_runV S (hM H.size) cw ⟨gPre_blind, va_recv C.1.1 (gpick_P hG.1 hC) hc he, fun U hU hW => ⟨rfl, gPre_of C hG hC hn hU hW⟩⟩ rfl hlen hsz hst (lv_room hrm) hd hf) hl hg kk
theorem g_invVv (S : CallFix p m c cc nL s args Ts own) (C : gC K A0 H0 s) (hG : gW K A0 H0 gs H locs) {T : Type} {post : T → Prop} {Wn gs' : T → List va_W} (is : List Nat) (hM : mV l y wsY f lo K (.ref b :: As) gc post Wn mc ms) (hC : is.map (fun i => gs[i]?) = gc.map some) (hn : va_nd is = true) {Cn : String} {T9 : u_T} {N ci : Nat} {fs : List Value} (q0 : Nat) (he : gc.flatten[q0]? = some (b, .inr (ci, fs))) (hc : vwCl[ci]? = some (Cn, T9, N)) (cw : CallW R s args own Cn index y bytes maxL ret wsY { frames := f, cells := mc, slots := ms, locals := lo } mc ms n) (hlen : As.length = n) (hsz : ls.size = nL) (hst : st0 = As.reverse ++ .ref b :: rest) (hrm : (rest.map fun v => v.category).sum ≤ 8) (hd : decode cc pc = .ok (.invokevirtual index, 3)) (hf : cells + mc ≤ R.cells ∧ slots + ms ≤ R.slots) (hl : ∀ u, is.length ≤ (Wn u).length) (hg : ∀ u, gback gs is (Wn u) = gs' u)
    (kk : ∀ (u : T) (H1 : Heap) (locs1 : List Loc), post u → gW K A0 H0 (gs' u) H1 locs1 → W p l e R s m args below meth c H1 locs1 (cells + mc) (slots + ms) Q (F0 m (pc + 3) ls rest)) : W p l e R s m args below meth c H locs cells slots Q (F0 m pc ls st0) :=
  g_backv C hG hC hn (va_runV S (hM H.size) cw ⟨gPre_blind, va_recv C.1.1 (gpick_P hG.1 hC) hc he, fun U hU hW => ⟨rfl, gPre_of C hG hC hn hU hW⟩⟩ rfl hlen hsz hst (lv_room hrm) hd hf) hl hg kk
theorem g_invS (S : CallFix p m c cc nL s args Ts own) (C : gC K A0 H0 s) (hG : gW K A0 H0 gs H locs) {T : Type} {post : Value → T → Prop} {Wn gs' : T → List va_W} (is : List Nat) (hM : mG l y wsY f lo K As gc post Wn mc ms) (hC : is.map (fun i => gs[i]?) = gc.map some) (hn : va_nd is = true) (cw : CallB R s args own index y bytes maxL ret wsY { frames := f, cells := mc, slots := ms, locals := lo } mc ms n ∧ (Cond.static y).before args s = true) (hlen : As.length = n) (hsz : ls.size = nL) (hst : st0 = As.reverse ++ rest) (hrm : (rest.map fun v => v.category).sum ≤ 8) (hd : decode cc pc = .ok (.invokestatic index, 3)) (hf : cells + mc ≤ R.cells ∧ slots + ms ≤ R.slots) (hl : ∀ u, is.length ≤ (Wn u).length) (hg : ∀ u, gback gs is (Wn u) = gs' u)
    (kk : ∀ (v : Value) (u : T) (H1 : Heap) (locs1 : List Loc), post v u → gW K A0 H0 (gs' u) H1 locs1 → W p l e R s m args below meth c H1 locs1 (cells + mc) (slots + ms) Q (F0 m (pc + 3) ls (v :: rest))) : W p l e R s m args below meth c H locs cells slots Q (F0 m pc ls st0) :=
  g_backg C hG hC hn (va_runS S (hM H.size) cw ⟨gPre_blind, fun U hU hW => ⟨rfl, gPre_of C hG hC hn hU hW⟩⟩ rfl hlen hsz hst (lv_room hrm) hd hf) hl hg kk
theorem g_invSv (S : CallFix p m c cc nL s args Ts own) (C : gC K A0 H0 s) (hG : gW K A0 H0 gs H locs) {T : Type} {post : T → Prop} {Wn gs' : T → List va_W} (is : List Nat) (hM : mV l y wsY f lo K As gc post Wn mc ms) (hC : is.map (fun i => gs[i]?) = gc.map some) (hn : va_nd is = true) (cw : CallB R s args own index y bytes maxL ret wsY { frames := f, cells := mc, slots := ms, locals := lo } mc ms n ∧ (Cond.static y).before args s = true) (hlen : As.length = n) (hsz : ls.size = nL) (hst : st0 = As.reverse ++ rest) (hrm : (rest.map fun v => v.category).sum ≤ 8) (hd : decode cc pc = .ok (.invokestatic index, 3)) (hf : cells + mc ≤ R.cells ∧ slots + ms ≤ R.slots) (hl : ∀ u, is.length ≤ (Wn u).length) (hg : ∀ u, gback gs is (Wn u) = gs' u)
    (kk : ∀ (u : T) (H1 : Heap) (locs1 : List Loc), post u → gW K A0 H0 (gs' u) H1 locs1 → W p l e R s m args below meth c H1 locs1 (cells + mc) (slots + ms) Q (F0 m (pc + 3) ls rest)) : W p l e R s m args below meth c H locs cells slots Q (F0 m pc ls st0) :=
  g_backv C hG hC hn (va_runS S (hM H.size) cw ⟨gPre_blind, fun U hU hW => ⟨rfl, gPre_of C hG hC hn hU hW⟩⟩ rfl hlen hsz hst (lv_room hrm) hd hf) hl hg kk
theorem g_invI (S : CallFix p m c cc nL s args Ts own) (C : gC K A0 H0 s) (hG : gW K A0 H0 gs H locs) {T : Type} {post : T → Prop} {Wn gs' : T → List va_W} (is : List Nat) (hM : mV l y wsY f lo K (.ref b :: As) gc post Wn mc ms) (hC : is.map (fun i => gs[i]?) = gc.map some) (hn : va_nd is = true) (cw : CallB R s args own index y bytes maxL none wsY { frames := f, cells := mc, slots := ms, locals := lo } mc ms n ∧ y.name = "<init>" ∧ (Cond.instanceMethod y).before args s = true) (hlen : As.length = n) (hsz : ls.size = nL) (hst : st0 = As.reverse ++ .ref b :: rest) (hrm : (rest.map fun v => v.category).sum ≤ 8) (hd : decode cc pc = .ok (.invokespecial index, 3)) (hf : cells + mc ≤ R.cells ∧ slots + ms ≤ R.slots) (hl : ∀ u, is.length ≤ (Wn u).length) (hg : ∀ u, gback gs is (Wn u) = gs' u)
    (kk : ∀ (u : T) (H1 : Heap) (locs1 : List Loc), post u → gW K A0 H0 (gs' u) H1 locs1 → W p l e R s m args below meth c H1 locs1 (cells + mc) (slots + ms) Q (F0 m (pc + 3) ls rest)) : W p l e R s m args below meth c H locs cells slots Q (F0 m pc ls st0) :=
  g_backv C hG hC hn (va_runI S (hM H.size) cw ⟨gPre_blind, fun U hU hW => ⟨rfl, gPre_of C hG hC hn hU hW⟩⟩ rfl hlen hsz hst (lv_room hrm) hd hf) hl hg kk
theorem g_invSN (S : CallFix p m c cc nL s args Ts own) (C : gC K A0 H0 s) (hG : gW K A0 H0 gs H locs) {T : Type} {post : Value → T → Prop} {Wn gs' : T → List va_W} (is : List Nat) (hM : mG l y wsY f lo K As gc post Wn mc ms) (hC : is.map (fun i => gs[i]?) = gc.map some) (hn : va_nd is = true) (cw : va_CN R s args own index y host bytes maxL ret wsY { frames := f, cells := mc, slots := ms, locals := lo } mc ms n ∧ (Cond.static y).before args s = true ∧ True) (hlen : As.length = n) (hsz : ls.size = nL) (hst : st0 = As.reverse ++ rest) (hrm : (rest.map fun v => v.category).sum ≤ 8) (hd : decode cc pc = .ok (.invokestatic index, 3)) (hf : cells + mc ≤ R.cells ∧ slots + ms ≤ R.slots) (hl : ∀ u, is.length ≤ (Wn u).length) (hg : ∀ u, gback gs is (Wn u) = gs' u)
    (kk : ∀ (v : Value) (u : T) (H1 : Heap) (locs1 : List Loc), post v u → gW K A0 H0 (gs' u) H1 locs1 → W p l e R s m args below meth c H1 locs1 (cells + mc) (slots + ms) Q (F0 m (pc + 3) ls (v :: rest))) : W p l e R s m args below meth c H locs cells slots Q (F0 m pc ls st0) :=
  g_backg C hG hC hn (va_runSN S (hM H.size) cw ⟨gPre_blind, fun U hU hW => ⟨rfl, gPre_of C hG hC hn hU hW⟩⟩ rfl hlen hsz hst (lv_room hrm) hd hf) hl hg kk
theorem g_invSNv (S : CallFix p m c cc nL s args Ts own) (C : gC K A0 H0 s) (hG : gW K A0 H0 gs H locs) {T : Type} {post : T → Prop} {Wn gs' : T → List va_W} (is : List Nat) (hM : mV l y wsY f lo K As gc post Wn mc ms) (hC : is.map (fun i => gs[i]?) = gc.map some) (hn : va_nd is = true) (cw : va_CN R s args own index y host bytes maxL ret wsY { frames := f, cells := mc, slots := ms, locals := lo } mc ms n ∧ (Cond.static y).before args s = true ∧ True) (hlen : As.length = n) (hsz : ls.size = nL) (hst : st0 = As.reverse ++ rest) (hrm : (rest.map fun v => v.category).sum ≤ 8) (hd : decode cc pc = .ok (.invokestatic index, 3)) (hf : cells + mc ≤ R.cells ∧ slots + ms ≤ R.slots) (hl : ∀ u, is.length ≤ (Wn u).length) (hg : ∀ u, gback gs is (Wn u) = gs' u)
    (kk : ∀ (u : T) (H1 : Heap) (locs1 : List Loc), post u → gW K A0 H0 (gs' u) H1 locs1 → W p l e R s m args below meth c H1 locs1 (cells + mc) (slots + ms) Q (F0 m (pc + 3) ls rest)) : W p l e R s m args below meth c H locs cells slots Q (F0 m pc ls st0) :=
  g_backv C hG hC hn (va_runSN S (hM H.size) cw ⟨gPre_blind, fun U hU hW => ⟨rfl, gPre_of C hG hC hn hU hW⟩⟩ rfl hlen hsz hst (lv_room hrm) hd hf) hl hg kk
theorem g_invIN (S : CallFix p m c cc nL s args Ts own) (C : gC K A0 H0 s) (hG : gW K A0 H0 gs H locs) {T : Type} {post : T → Prop} {Wn gs' : T → List va_W} (is : List Nat) (hM : mV l y wsY f lo K (.ref b :: As) gc post Wn mc ms) (hC : is.map (fun i => gs[i]?) = gc.map some) (hn : va_nd is = true) (cw : va_CN R s args own index y host bytes maxL none wsY { frames := f, cells := mc, slots := ms, locals := lo } mc ms n ∧ y.name = "<init>" ∧ (Cond.instanceMethod y).before args s = true) (hlen : As.length = n) (hsz : ls.size = nL) (hst : st0 = As.reverse ++ .ref b :: rest) (hrm : (rest.map fun v => v.category).sum ≤ 8) (hd : decode cc pc = .ok (.invokespecial index, 3)) (hf : cells + mc ≤ R.cells ∧ slots + ms ≤ R.slots) (hl : ∀ u, is.length ≤ (Wn u).length) (hg : ∀ u, gback gs is (Wn u) = gs' u)
    (kk : ∀ (u : T) (H1 : Heap) (locs1 : List Loc), post u → gW K A0 H0 (gs' u) H1 locs1 → W p l e R s m args below meth c H1 locs1 (cells + mc) (slots + ms) Q (F0 m (pc + 3) ls rest)) : W p l e R s m args below meth c H locs cells slots Q (F0 m pc ls st0) :=
  g_backv C hG hC hn (va_runIN S (hM H.size) cw ⟨gPre_blind, fun U hU hW => ⟨rfl, gPre_of C hG hC hn hU hW⟩⟩ rfl hlen hsz hst (lv_room hrm) hd hf) hl hg kk
end GINV
theorem mG_of {l : Launch} {y : MethodName} {ws ws' : List Cond} {f lo : Nat} {K : KC} {av : List Value} {gs : List va_W} {S : Type} {post : Value → S → Prop} {Wn : S → List va_W} {mc ms : Nat} (cc : ByteArray) (maxL : Nat) {ret : Option FieldType} (hy : plainName y.cls = true) (hw : ws = Cond.code y cc maxL ret :: ws') (hsl : (lg_sl av).length ≤ maxL)
    (body : ∀ (p : Program) (e : Env) (s : State) (m : MethodId) (below : List Frame) (meth : Method) (c : Code) (A : Nat → Prop) (ls : Array Slot) (Q : State → Prop), CallFix p m c cc maxL s av.toArray ws y.cls → gC K A s.heap s → gW K A s.heap gs s.heap [] → lv_has ls maxL (lv_args 0 av) → meth.sig.returnType = ret → meth.locks = false → meth.name = y.name →
      Q = MQ below (gQ post (fun u => gAt K A (Wn u)) A) av.toArray s mc ms A → W p l e { frames := f, cells := mc, slots := ms, locals := lo } s m av.toArray below meth c s.heap [] 0 0 Q (F0 m 0 ls [])) : mG l y ws f lo K av gs post Wn mc ms := by
  intro sz
  refine Met.ofW (cc := cc) (maxL := maxL) (ret := ret) hy hw ?_
  intro p e s m args below meth c s₁ B hml hv
  obtain ⟨rfl, hsz, hOK, hP, hD0, hold⟩ := hv
  have hts := atoms_spec (ws := ws) B.pre
  have hown : s.vm.findClass y.cls = some m.cls := findClass_of_methodNamed B.named
  have hin : meth.name = y.name := (name_of_methodNamed B.named B.method).1
  subst hsz
  have hA : ∀ q, va_A gs.flatten s.heap.size q → K.2.2.1.size ≤ q := by
    intro q h
    rcases h with ⟨k, e9, h⟩ | h
    · exact hD0.2 k (q, e9) h
    · exact Nat.le_trans hold.1 h
  have hl := lv_entry av (n := maxL) hsl
  rw [lg_entry_eq]
  exact body p e s m below meth c _ _ _ ⟨B.exec, B.bytes, hml, hown, hts⟩ ⟨hOK, fun q h => Or.inr h, hA, hold⟩ ⟨hP, hD0.self, va_S.rf⟩ hl B.returns B.notSynchronized hin rfl
theorem mV_of {l : Launch} {y : MethodName} {ws ws' : List Cond} {f lo : Nat} {K : KC} {av : List Value} {gs : List va_W} {S : Type} {post : S → Prop} {Wn : S → List va_W} {mc ms : Nat} (cc : ByteArray) (maxL : Nat) {ret : Option FieldType} (hy : plainName y.cls = true) (hw : ws = Cond.code y cc maxL ret :: ws') (hsl : (lg_sl av).length ≤ maxL)
    (body : ∀ (p : Program) (e : Env) (s : State) (m : MethodId) (below : List Frame) (meth : Method) (c : Code) (A : Nat → Prop) (ls : Array Slot) (Q : State → Prop), CallFix p m c cc maxL s av.toArray ws y.cls → gC K A s.heap s → gW K A s.heap gs s.heap [] → lv_has ls maxL (lv_args 0 av) → meth.sig.returnType = ret → meth.locks = false → meth.name = y.name →
      Q = MQ below (va_Qv post (fun u => gAt K A (Wn u)) A) av.toArray s mc ms A → W p l e { frames := f, cells := mc, slots := ms, locals := lo } s m av.toArray below meth c s.heap [] 0 0 Q (F0 m 0 ls [])) : mV l y ws f lo K av gs post Wn mc ms := by
  intro sz
  refine Met.ofW (cc := cc) (maxL := maxL) (ret := ret) hy hw ?_
  intro p e s m args below meth c s₁ B hml hv
  obtain ⟨rfl, hsz, hOK, hP, hD0, hold⟩ := hv
  have hts := atoms_spec (ws := ws) B.pre
  have hown : s.vm.findClass y.cls = some m.cls := findClass_of_methodNamed B.named
  have hin : meth.name = y.name := (name_of_methodNamed B.named B.method).1
  subst hsz
  have hA : ∀ q, va_A gs.flatten s.heap.size q → K.2.2.1.size ≤ q := by
    intro q h
    rcases h with ⟨k, e9, h⟩ | h
    · exact hD0.2 k (q, e9) h
    · exact Nat.le_trans hold.1 h
  have hl := lv_entry av (n := maxL) hsl
  rw [lg_entry_eq]
  exact body p e s m below meth c _ _ _ ⟨B.exec, B.bytes, hml, hown, hts⟩ ⟨hOK, fun q h => Or.inr h, hA, hold⟩ ⟨hP, hD0.self, va_S.rf⟩ hl B.returns B.notSynchronized hin rfl
theorem gAt_of {K : KC} {A : Nat → Prop} {gs : List va_W} {t : State} {H : Heap} (ht : t.heap = H) (h1 : va_P K.1 vwCl gs.flatten H) (h2 : va_D A gs.flatten) : gAt K A gs t := ⟨by rw [ht]; exact h1, h2⟩
section GRET
variable {p : Program} {l : Launch} {e : Env} {R : Room} {s : State} {m : MethodId} {args : Array Value} {below : List Frame} {meth : Method} {c : Code} {H : Heap} {locs : List Loc} {cells slots : Nat} {Q : State → Prop}
variable {cc : ByteArray} {pc nL : Nat} {ls : Array Slot} {Ts : List Cond} {own : String} {K : KC} {A : Nat → Prop} {mc ms : Nat}
theorem g_iret (S : CallFix p m c cc nL s args Ts own) {T : Type} {post : Value → T → Prop} {Wn : T → List va_W} (hr : meth.sig.returnType = some .int) (hlk : meth.locks = false) (hQ : Q = MQ below (gQ post (fun u => gAt K A (Wn u)) A) args s mc ms A) {x : Int32} (hd : decode cc pc = .ok (.ireturn, 1)) (h1 : cells ≤ mc) (h2 : slots ≤ ms) (u : T) (hp : post (.int x) u) (hG : gW K A s.heap (Wn u) H locs) : W p l e R s m args below meth c H locs cells slots Q (F0 m pc ls [.int x]) := by
  subst hQ
  refine W.widen h1 h2 ?_
  exact W.iret (v := x) S.1 S.2.1 hr (fun t ht hW => ⟨⟨_, u, rfl, hp, gAt_of ht hG.1 hG.2.1⟩, hG.2.2.F ht⟩) hG.2.2.2.2 hd hlk
theorem g_zret (S : CallFix p m c cc nL s args Ts own) {T : Type} {post : Value → T → Prop} {Wn : T → List va_W} (hr : meth.sig.returnType = some .boolean) (hlk : meth.locks = false) (hQ : Q = MQ below (gQ post (fun u => gAt K A (Wn u)) A) args s mc ms A) {z : Int} (hz : z = 0 ∨ z = 1) (hd : decode cc pc = .ok (.ireturn, 1)) (h1 : cells ≤ mc) (h2 : slots ≤ ms) (u : T) (hp : post (.int (iI z)) u) (hG : gW K A s.heap (Wn u) H locs) : W p l e R s m args below meth c H locs cells slots Q (F0 m pc ls [.int (iI z)]) := by
  subst hQ
  refine W.widen h1 h2 ?_
  exact W.zret (v := iI z) S.1 S.2.1 hr (nz_b hz) (fun t ht hW => ⟨⟨_, u, rfl, hp, gAt_of ht hG.1 hG.2.1⟩, hG.2.2.F ht⟩) hG.2.2.2.2 hd hlk
theorem g_fret (S : CallFix p m c cc nL s args Ts own) {T : Type} {post : Value → T → Prop} {Wn : T → List va_W} (hr : meth.sig.returnType = some .float) (hlk : meth.locks = false) (hQ : Q = MQ below (gQ post (fun u => gAt K A (Wn u)) A) args s mc ms A) {x : UInt32} (hd : decode cc pc = .ok (.freturn, 1)) (h1 : cells ≤ mc) (h2 : slots ≤ ms) (u : T) (hp : post (.float x) u) (hG : gW K A s.heap (Wn u) H locs) : W p l e R s m args below meth c H locs cells slots Q (F0 m pc ls [.float x]) := by
  subst hQ
  refine W.widen h1 h2 ?_
  exact W.fret (v := x) S.1 S.2.1 hr (fun t ht hW => ⟨⟨_, u, rfl, hp, gAt_of ht hG.1 hG.2.1⟩, hG.2.2.F ht⟩) hG.2.2.2.2 hd hlk
theorem g_aret (S : CallFix p m c cc nL s args Ts own) {T : Type} {post : Value → T → Prop} {Wn : T → List va_W} {cn : String} (hr : meth.sig.returnType = some (.object cn)) (hlk : meth.locks = false) (hQ : Q = MQ below (gQ post (fun u => gAt K A (Wn u)) A) args s mc ms A) {v : Value} (hv : v = .null ∨ ∃ a, v = .ref a) (hd : decode cc pc = .ok (.areturn, 1)) (h1 : cells ≤ mc) (h2 : slots ≤ ms) (u : T) (hp : post (v) u) (hG : gW K A s.heap (Wn u) H locs) : W p l e R s m args below meth c H locs cells slots Q (F0 m pc ls [v]) := by
  subst hQ
  refine W.widen h1 h2 ?_
  exact W.aret (v := v) S.1 S.2.1 hr (Or.inl ⟨cn, rfl⟩) hv (fun t ht hW => ⟨⟨_, u, rfl, hp, gAt_of ht hG.1 hG.2.1⟩, hG.2.2.F ht⟩) hG.2.2.2.2 hd hlk
theorem g_vret (S : CallFix p m c cc nL s args Ts own) {T : Type} {post : T → Prop} {Wn : T → List va_W} (hr : meth.sig.returnType = none) (hlk : meth.locks = false) (hQ : Q = MQ below (va_Qv post (fun u => gAt K A (Wn u)) A) args s mc ms A) (hd : decode cc pc = .ok (.return_, 1)) (h1 : cells ≤ mc) (h2 : slots ≤ ms) (u : T) (hp : post u) (hG : gW K A s.heap (Wn u) H locs) : W p l e R s m args below meth c H locs cells slots Q (F0 m pc ls []) := by
  subst hQ
  refine W.widen h1 h2 ?_
  exact W.vret S.1 S.2.1 hr (fun t ht hW => ⟨⟨u, rfl, hp, gAt_of ht hG.1 hG.2.1⟩, hG.2.2.F ht⟩) hG.2.2.2.2 hd hlk
end GRET
