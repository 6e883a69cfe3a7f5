section MST3
variable {F : Int → Int} {n p t k v c e : Int} {x : PE Int}
theorem MSt.kk (h : MSt F n x p t k v c e) (hc : c = 0) {i : Int} (hx : x = .inr i) : k = tkK F n i := by
  subst hx
  exact h.2.2.2.2.2.1
theorem MSt.vv (h : MSt F n x p t k v c e) (hc : c = 0) (hk : k = 2) {i : Int} (hx : x = .inr i) : v = min 9999 (tkV F n i) := by
  subst hx
  exact h.2.2.2.2.2.2.1 hk
theorem na_eq {w : List Int} (lo hi : Int) : (pb (pb x fun i => pb (wdE F n i w) fun _ => .inr (tkE F n i)) fun i => pb (numE F n i lo hi) fun _ => .inr (tkE F n i)) = pb x fun i => pb (wdE F n i w) fun _ => pb (numE F n (tkE F n i) lo hi) fun _ => (.inr (tkE F n (tkE F n i)) : PE Int) := by
  cases x with
  | inl a => rfl
  | inr i =>
    show pb (pb (wdE F n i w) fun _ => .inr (tkE F n i)) _ = pb (wdE F n i w) _
    cases wdE F n i w <;> rfl
end MST3
