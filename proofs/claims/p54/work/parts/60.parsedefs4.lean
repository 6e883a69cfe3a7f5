theorem bI_pb {α β : Type} (x : PE α) (r : β) : bI (okE x) = bI (okE (pb x fun _ => (.inr r : PE β))) := by cases x <;> rfl
theorem erI_pb {α β : Type} {x : PE α} {r : β} {a b : Int} (h : ErI x a b) : ErI (pb x fun _ => (.inr r : PE β)) a b := by
  cases x with
  | inl e => exact h
  | inr u => exact h
theorem StmR.pb {F : Int → Int} {n tp : Int} {x : PE Unit} {p t k v ho hb ou mi bo ln : Int} {LF : Int → Int} {sn : Int} {SF : Int → Int} {r : PT} (h : okE x → TokI F n r.1 p t k v ∧ (tp < r.1 ∧ r.1 ≤ n) ∧ ScOk r.2.1 ou mi bo ln LF sn SF ∧ NOk0 r.2.1 ∧ (ho = r.2.2.1 ∧ hb = r.2.2.2) ∧ (ho = 0 ∨ ho = 1) ∧ (hb = 0 ∨ hb = 1)) : StmR F n tp (pb x fun _ => .inr r) p t k v ho hb ou mi bo ln LF sn SF := fun r' hr => by
  cases x with
  | inl e => cases hr
  | inr u => cases hr; exact h rfl
theorem erI_ok {α : Type} {x : PE α} {a b : Int} (h : okE x) (he : ErI x a b) : a = 0 ∧ b = -1 := by
  obtain ⟨u, rfl⟩ := okE_inr h
  exact he
