/-! the texts of the model among all (an explicit element: an implicit one costs a hundred times more) -/
theorem sw_30 : (RX9, 299, "layer", 0) ∈ strW := by
  unfold strW
  repeat (first | exact List.Mem.head _ | apply List.Mem.tail)
theorem sw_31 : (RX9, 272, "thick", 1) ∈ strW := by
  unfold strW
  repeat (first | exact List.Mem.head _ | apply List.Mem.tail)
theorem sw_32 : (RX9, 278, "loss", 2) ∈ strW := by
  unfold strW
  repeat (first | exact List.Mem.head _ | apply List.Mem.tail)
theorem sw_33 : (RX9, 304, "outside", 3) ∈ strW := by
  unfold strW
  repeat (first | exact List.Mem.head _ | apply List.Mem.tail)
theorem sw_34 : (RX9, 309, "bottom", 4) ∈ strW := by
  unfold strW
  repeat (first | exact List.Mem.head _ | apply List.Mem.tail)
theorem sw_35 : (RX9, 289, "open", 6) ∈ strW := by
  unfold strW
  repeat (first | exact List.Mem.head _ | apply List.Mem.tail)
theorem sw_36 : (RX9, 291, "mirror", 5) ∈ strW := by
  unfold strW
  repeat (first | exact List.Mem.head _ | apply List.Mem.tail)
theorem sw_37 : (RX9, 314, "shot", 7) ∈ strW := by
  unfold strW
  repeat (first | exact List.Mem.head _ | apply List.Mem.tail)
theorem sw_38 : (RX9, 292, "down", 8) ∈ strW := by
  unfold strW
  repeat (first | exact List.Mem.head _ | apply List.Mem.tail)
theorem sw_39 : (RX9, 294, "up", 9) ∈ strW := by
  unfold strW
  repeat (first | exact List.Mem.head _ | apply List.Mem.tail)
theorem sw_40 : (RX9, 456, "tbarn", 28) ∈ strW := by
  unfold strW
  repeat (first | exact List.Mem.head _ | apply List.Mem.tail)