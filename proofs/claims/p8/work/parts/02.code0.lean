abbrev Mk : Type := MethodName × ByteArray × Nat × Option FieldType
abbrev Cod : Type := List (Nat × Instr × Nat)
/-- the instructions of a method as a list -/
def Dec (cc : ByteArray) (P : Cod) : Prop := ∀ q ∈ P, decode cc q.1 = .ok q.2
theorem dec_of {cc : ByteArray} {P : Cod} (h : (P.all fun q => decide (decode cc q.1 = .ok q.2)) = true) : Dec cc P := fun q hq => of_decide_eq_true (List.all_eq_true.mp h q hq)
