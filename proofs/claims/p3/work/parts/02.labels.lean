abbrev Ty : Type := Nat × Int × Int
def lbls : List ((Nat × List Ty) ⊕ (Nat × Nat × Ty)) := [.inr (0, 0, (0, 0, 0)), .inr (0, 20, (0, -1, 19))]
