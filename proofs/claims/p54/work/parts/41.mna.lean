/-! ===== new int[7][60] ===== -/
theorem pl7 (r : Nat → Nat) (f : Nat → va_E) (e : va_E) : va_pl ([] ++ (List.range 7).map r) (vr_up f ((List.range 7).map r) e) = [(r 0, e), (r 1, e), (r 2, e), (r 3, e), (r 4, e), (r 5, e), (r 6, e)] := by
  have h : va_pl ([] ++ (List.range 7).map r) (vr_up f ((List.range 7).map r) e) = ([] ++ (List.range 7).map r).map (fun a => (a, e)) := by
    unfold va_pl
    apply List.map_congr_left
    intro a ha
    rw [vr_up_in (by simpa using ha)]
  rw [h]
  rfl
theorem rw7_eq (r : Nat → Nat) : (fun i => if i < 7 then some (r i) else none) = rw7 (r 0) (r 1) (r 2) (r 3) (r 4) (r 5) (r 6) := by
  funext i
  unfold rw7
  by_cases h : i < 7
  · rw [if_pos h]
    rcases (show i = 0 ∨ i = 1 ∨ i = 2 ∨ i = 3 ∨ i = 4 ∨ i = 5 ∨ i = 6 by omega) with rfl | rfl | rfl | rfl | rfl | rfl | rfl <;> rfl
  · rw [if_neg h, if_neg (by omega), if_neg (by omega), if_neg (by omega), if_neg (by omega), if_neg (by omega), if_neg (by omega), if_neg (by omega)]
section GMNA
variable {p : Program} {l : Launch} {e : Env} {R : Room} {s : State} {m : MethodId} {args : Array Value} {below : List Frame} {meth : Method} {c : Code} {H : Heap} {locs : List Loc} {cells slots : Nat} {Q : State → Prop}
variable {cc : ByteArray} {pc nL : Nat} {ls : Array Slot} {rest : List Value} {Ts : List Cond} {own : String} {K : KC} {A : Nat → Prop} {H0 : Heap} {gs : List va_W}
theorem g_mna7 (S : CallFix p m c cc nL s args Ts own) (C : gC K A H0 s) (hG : gW K A H0 gs H locs) {index : Nat} (hcl : Cond.classLink own index "[[I" ∈ Ts) (harr : Cond.arrayClass .int ∈ Ts) (hcells : cells + (1 + 7) ≤ R.cells) (hslots : slots + (7 + 7 * 60) ≤ R.slots) (hd : decode cc pc = .ok (.multianewarray index 2, 4))
    (kk : ∀ (q r0 r1 r2 r3 r4 r5 r6 : Nat) (H1 : Heap), gW K A H0 (gs ++ [gRw7 K q r0 r1 r2 r3 r4 r5 r6, gArr K 60 r0 (fun _ => 0), gArr K 60 r1 (fun _ => 0), gArr K 60 r2 (fun _ => 0), gArr K 60 r3 (fun _ => 0), gArr K 60 r4 (fun _ => 0), gArr K 60 r5 (fun _ => 0), gArr K 60 r6 (fun _ => 0)]) H1 locs → W p l e R s m args below meth c H1 locs (cells + 1 + 7) (slots + 7 + 7 * 60) Q (F0 m (pc + 4) ls (.ref q :: rest))) : W p l e R s m args below meth c H locs cells slots Q (F0 m pc ls (.int (iI 60) :: .int (iI 7) :: rest)) := by
  obtain ⟨g1, g2, g3⟩ := hG
  refine va_mna (X := gs.flatten) (L := []) (f := fun _ => .inl (0, 0, .inl (fun _ => 0))) (ty := .int) (z := (60, .inl (fun j : Nat => iI ((fun _ : Int => 0) (j : Int))))) (N' := 7) (K' := 60) S.1 S.2.1 S.2.2.2.1 (index := index) (by rw [show "[" ++ (FieldType.array FieldType.int).toString = "[[I" by decide]; exact S.2.2.2.2 _ hcl) C.1.2.2.2.2.2.2.1 (S.2.2.2.2 _ harr) (cy := K.2.1 0) (by rw [show (FieldType.array FieldType.int).toString = "[I" by decide]; exact C.1.2.2.2.2.2.2.2) C.1.1 (by show va_P _ _ (gs.flatten ++ []) _; rw [List.append_nil]; exact g1) (by show va_D _ (gs.flatten ++ []); rw [List.append_nil]; exact g2) g3 C.2.1 (by decide) (by decide) (iI_cl rfl (by decide)) (iI_cl rfl (by decide)) (by decide) (by decide) (by decide) rfl rfl hcells hslots (fun c => by show ({ cls := c, slots := Array.replicate 60 (defaultValue .int), vm := .none } : Cell) = _; rw [arrV_new]; rfl) hd (fun q r cA H1 _ _ hK' a b d => ?_)
  have e6 := tyK_same 6 hK' rfl
  subst e6
  rw [pl7, rw7_eq] at a b
  refine kk q (r 0) (r 1) (r 2) (r 3) (r 4) (r 5) (r 6) H1 ⟨?_, ?_, d⟩
  · rw [List.flatten_append]; rw [List.append_assoc] at a; exact a
  · rw [List.flatten_append]; rw [List.append_assoc] at b; exact b
end GMNA
