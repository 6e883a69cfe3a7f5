/-! ===== the system's groups of cells ===== -/
/-- RayLayers$Bytes: n bytes so far, F the bytes -/
def gBuf (K : KC) (a b : Nat) (n : Int) (F : Int → Int) : va_W := [(a, .inr (0, [.ref b, .int (iI n)])), aB K b 400 F]
/-- RayLayers$Table: n rows, F the cells -/
def gTab (K : KC) (a b : Nat) (n : Int) (F : Int → Int) : va_W := [(a, .inr (7, [.ref b, .int (iI n)])), aI K b 60 F]
/-- the scene's own cell -/
def gScC (K : KC) (a la sa : Nat) (ou mi bo : Int) : va_W := [(a, .inr (5, [.ref la, .ref sa, .int (iI ou), .int (iI mi), .int (iI bo)]))]
/-- RayLayers$Scene with its tables -/
def gScn (K : KC) (a la lb sa sb : Nat) (ou mi bo ln : Int) (LF : Int → Int) (sn : Int) (SF : Int → Int) : va_W := gScC K a la sa ou mi bo ++ (gTab K la lb ln LF ++ gTab K sa sb sn SF)
/-- Math.min, max, abs -/
theorem imin_eq {a b : Int} (ha : -2147483648 ≤ a ∧ a < 2147483648) (hb : -2147483648 ≤ b ∧ b < 2147483648) : Value.int (if iI b < iI a then iI b else iI a) = .int (iI (min a b)) := by
  by_cases h : b < a
  · rw [if_pos ((iI_lt hb ha).mpr h), show min a b = b by omega]
  · rw [if_neg (fun g => h ((iI_lt hb ha).mp g)), show min a b = a by omega]
theorem imax_eq {a b : Int} (ha : -2147483648 ≤ a ∧ a < 2147483648) (hb : -2147483648 ≤ b ∧ b < 2147483648) : Value.int (if iI a < iI b then iI b else iI a) = .int (iI (max a b)) := by
  by_cases h : a < b
  · rw [if_pos ((iI_lt ha hb).mpr h), show max a b = b by omega]
  · rw [if_neg (fun g => h ((iI_lt ha hb).mp g)), show max a b = a by omega]
def iabs (a : Int) : Int := if 0 ≤ a then a else -a
theorem iabs_eq {a : Int} (ha : -2147483648 < a ∧ a < 2147483648) : Value.int (if 0 ≤ iI a then iI a else 0 - iI a) = .int (iI (iabs a)) := by
  unfold iabs
  show Value.int (if iI 0 ≤ iI a then iI a else iI 0 - iI a) = _
  by_cases h : 0 ≤ a
  · rw [if_pos ((iI_le (by omega) (by omega)).mpr h), if_pos h]
  · rw [if_neg (fun g => h ((iI_le (by omega) (by omega)).mp g)), if_neg h, iI_sub, show (0 : Int) - a = -a by omega]
