/-! ===== new objects, the history's cells ===== -/
def gQS (K : KC) (a n : Nat) (P : Nat → Option Nat) : va_W := [aQ K 5 a n P]
def gFR (_ : KC) (FR : va_W) : va_W := FR
def gHisC (K : KC) (a pa : Nat) (nx sz : Int) : va_W := [(a, .inr (1, [.ref pa, .int (iI nx), .int (iI sz)]))]
theorem flat_new (gs : List va_W) (x : va_W) : gs.flatten ++ x = (gs ++ [x]).flatten := by simp
theorem gW_tail {K : KC} {A : Nat → Prop} {H0 H : Heap} {locs : List Loc} (xs : List va_W) (f g : va_W) (hG : gW K A H0 (xs ++ [f, g]) H locs) : gW K A H0 (xs ++ [g, f]) H locs := by
  refine gW_perm ?_ hG
  rw [List.flatten_append, List.flatten_append]
  refine List.Perm.append_left _ ?_
  simpa using List.perm_append_comm
def gNew0 (K : KC) (a : Nat) : va_W := [(a, .inr (0, [.null, .int (iI 0)]))]
theorem dfX0 : ∀ j, j < 2 → defaultValue (tyX0 j) = vp_V [.null, .int (iI 0)] j := fun j h => match j, h with
  | 0, _ => rfl
  | 1, _ => rfl
  | j + 2, h => absurd h (by omega)
def gNew1 (K : KC) (a : Nat) : va_W := [(a, .inr (1, [.null, .int (iI 0), .int (iI 0)]))]
theorem dfX1 : ∀ j, j < 3 → defaultValue (tyX1 j) = vp_V [.null, .int (iI 0), .int (iI 0)] j := fun j h => match j, h with
  | 0, _ => rfl
  | 1, _ => rfl
  | 2, _ => rfl
  | j + 3, h => absurd h (by omega)
def gNew2 (K : KC) (a : Nat) : va_W := [(a, .inr (2, [.null, .null, .int (iI 0), .int (iI 0), .int (iI 0), .int (iI 0), .int (iI 0), .int (iI 0), .int (iI 0), .int (iI 0)]))]
theorem dfX2 : ∀ j, j < 10 → defaultValue (tyX2 j) = vp_V [.null, .null, .int (iI 0), .int (iI 0), .int (iI 0), .int (iI 0), .int (iI 0), .int (iI 0), .int (iI 0), .int (iI 0)] j := fun j h => match j, h with
  | 0, _ => rfl
  | 1, _ => rfl
  | 2, _ => rfl
  | 3, _ => rfl
  | 4, _ => rfl
  | 5, _ => rfl
  | 6, _ => rfl
  | 7, _ => rfl
  | 8, _ => rfl
  | 9, _ => rfl
  | j + 10, h => absurd h (by omega)
def gNew3 (K : KC) (a : Nat) : va_W := [(a, .inr (3, [.null, .null, .int (iI 0), .int (iI 0)]))]
theorem dfX3 : ∀ j, j < 4 → defaultValue (tyX3 j) = vp_V [.null, .null, .int (iI 0), .int (iI 0)] j := fun j h => match j, h with
  | 0, _ => rfl
  | 1, _ => rfl
  | 2, _ => rfl
  | 3, _ => rfl
  | j + 4, h => absurd h (by omega)
def gNew4 (K : KC) (a : Nat) : va_W := [(a, .inr (4, [.null, .null, .null, .null, .null, .int (iI 0), .int (iI 0), .int (iI 0), .int (iI 0), .int (iI 0), .int (iI 0), .int (iI 0), .int (iI 0), .int (iI 0), .int (iI 0), .int (iI 0), .int (iI 0), .int (iI 0)]))]
theorem dfX4 : ∀ j, j < 18 → defaultValue (tyX4 j) = vp_V [.null, .null, .null, .null, .null, .int (iI 0), .int (iI 0), .int (iI 0), .int (iI 0), .int (iI 0), .int (iI 0), .int (iI 0), .int (iI 0), .int (iI 0), .int (iI 0), .int (iI 0), .int (iI 0), .int (iI 0)] j := fun j h => match j, h with
  | 0, _ => rfl
  | 1, _ => rfl
  | 2, _ => rfl
  | 3, _ => rfl
  | 4, _ => rfl
  | 5, _ => rfl
  | 6, _ => rfl
  | 7, _ => rfl
  | 8, _ => rfl
  | 9, _ => rfl
  | 10, _ => rfl
  | 11, _ => rfl
  | 12, _ => rfl
  | 13, _ => rfl
  | 14, _ => rfl
  | 15, _ => rfl
  | 16, _ => rfl
  | 17, _ => rfl
  | j + 18, h => absurd h (by omega)
def gNew5 (K : KC) (a : Nat) : va_W := [(a, .inr (5, [.null, .null, .int (iI 0), .int (iI 0), .int (iI 0)]))]
theorem dfX5 : ∀ j, j < 5 → defaultValue (tyX5 j) = vp_V [.null, .null, .int (iI 0), .int (iI 0), .int (iI 0)] j := fun j h => match j, h with
  | 0, _ => rfl
  | 1, _ => rfl
  | 2, _ => rfl
  | 3, _ => rfl
  | 4, _ => rfl
  | j + 5, h => absurd h (by omega)
def gNew6 (K : KC) (a : Nat) : va_W := [(a, .inr (6, [.null, .null, .int (iI 0), .int (iI 0), .int (iI 0), .int (iI 0), .int (iI 0), .int (iI 0), .int (iI 0), .int (iI 0), .long (iL 0)]))]
theorem dfX6 : ∀ j, j < 11 → defaultValue (tyX6 j) = vp_V [.null, .null, .int (iI 0), .int (iI 0), .int (iI 0), .int (iI 0), .int (iI 0), .int (iI 0), .int (iI 0), .int (iI 0), .long (iL 0)] j := fun j h => match j, h with
  | 0, _ => rfl
  | 1, _ => rfl
  | 2, _ => rfl
  | 3, _ => rfl
  | 4, _ => rfl
  | 5, _ => rfl
  | 6, _ => rfl
  | 7, _ => rfl
  | 8, _ => rfl
  | 9, _ => rfl
  | 10, _ => rfl
  | j + 11, h => absurd h (by omega)
def gNew7 (K : KC) (a : Nat) : va_W := [(a, .inr (7, [.null, .int (iI 0)]))]
theorem dfX7 : ∀ j, j < 2 → defaultValue (tyX7 j) = vp_V [.null, .int (iI 0)] j := fun j h => match j, h with
  | 0, _ => rfl
  | 1, _ => rfl
  | j + 2, h => absurd h (by omega)
def gNew8 (K : KC) (a : Nat) : va_W := [(a, .inr (8, [.null, .null, .null, .null, .null, .null, .null, .null, .null, .null, .null]))]
