theorem dec_of {cc : ByteArray} {P : Cod} (h : (P.all fun q => decide (decode cc q.1 = .ok q.2)) = true) : Dec cc P := fun q hq => of_decide_eq_true (List.all_eq_true.mp h q hq)
theorem gd : Gd := fun w hw => ⟨hw, good_of_word (List.mem_filter.mp hw).2⟩
