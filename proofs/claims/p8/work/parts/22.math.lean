section MTH
variable {E : En} {M : Mk} {as : List Vl} {d mc ms : Nat} {Y : Option Vl → Sg → Gh → Prop} {X : Xp} {cs ss : Nat} {S : Sg} {G : Gh} {P : Cod} {pc tgt idx : Nat} {st : List Vl} {lo : Lo} {x y off a L : Int}
theorem r_mmaxI (hX : Cl E M as d mc ms Y X) (hP : Dec M.2.1 P) (hf : fd P pc = some (.invokestatic idx, 3)) (w1 : Cond.methodLink M.1.cls idx Lib.Math.max.name ∈ tb) (w2 : Cond.static Lib.Math.max.name ∈ tb) (w3 : Cond.initialized "java/lang/Math" ∈ tb) (w4 : Cond.code Lib.Math.max.name Lib.Math.max.code 2 (some .int) ∈ tb) (hd : 1 ≤ d) (h1 : cs ≤ mc) (h2 : ss ≤ ms) (hsc : sc st ≤ 8) (x1 : -2147483648 ≤ x) (x2 : x ≤ 2147483647) (y1 : -2147483648 ≤ y) (y2 : y ≤ 2147483647) (kx : y ≤ x → X cs ss (pc + 3) ((0, x) :: st) lo S G) (ky : x ≤ y → X cs ss (pc + 3) ((0, y) :: st) lo S G) : X cs ss pc ((0, y) :: (0, x) :: st) lo S G := by
  obtain ⟨p, e, z, m, below, meth, c, hx, hb, hr, hml, hown, hlk, hnm, hts, hK, rfl⟩ := hX
  intro H locs ls hR hz hL hl
  refine va_mmax hx hb (by rw [hml]; exact hl.1.symm) hown (hts _ w1) (hts _ w2) (hts _ w3) (hts _ w4) hd (by show ((ts st).map fun v => v.category).sum + 13 ≤ 100 * d; rw [sc_ok]; omega) h1 h2 (fd_dec hP hf) ?_
  by_cases q : x < y
  · rw [if_pos ((i32_lt x1 x2 y1 y2).mpr q)]
    exact ky (by first | decide | omega) H locs ls hR hz hL hl
  · rw [if_neg (fun w => q ((i32_lt x1 x2 y1 y2).mp w))]
    exact kx (by first | decide | omega) H locs ls hR hz hL hl
theorem r_mminI (hX : Cl E M as d mc ms Y X) (hP : Dec M.2.1 P) (hf : fd P pc = some (.invokestatic idx, 3)) (w1 : Cond.methodLink M.1.cls idx Lib.Math.min.name ∈ tb) (w2 : Cond.static Lib.Math.min.name ∈ tb) (w3 : Cond.initialized "java/lang/Math" ∈ tb) (w4 : Cond.code Lib.Math.min.name Lib.Math.min.code 2 (some .int) ∈ tb) (hd : 1 ≤ d) (h1 : cs ≤ mc) (h2 : ss ≤ ms) (hsc : sc st ≤ 8) (x1 : -2147483648 ≤ x) (x2 : x ≤ 2147483647) (y1 : -2147483648 ≤ y) (y2 : y ≤ 2147483647) (kx : x ≤ y → X cs ss (pc + 3) ((0, x) :: st) lo S G) (ky : y ≤ x → X cs ss (pc + 3) ((0, y) :: st) lo S G) : X cs ss pc ((0, y) :: (0, x) :: st) lo S G := by
  obtain ⟨p, e, z, m, below, meth, c, hx, hb, hr, hml, hown, hlk, hnm, hts, hK, rfl⟩ := hX
  intro H locs ls hR hz hL hl
  refine va_mmin hx hb (by rw [hml]; exact hl.1.symm) hown (hts _ w1) (hts _ w2) (hts _ w3) (hts _ w4) hd (by show ((ts st).map fun v => v.category).sum + 13 ≤ 100 * d; rw [sc_ok]; omega) h1 h2 (fd_dec hP hf) ?_
  by_cases q : y < x
  · rw [if_pos ((i32_lt y1 y2 x1 x2).mpr q)]
    exact ky (by first | decide | omega) H locs ls hR hz hL hl
  · rw [if_neg (fun w => q ((i32_lt y1 y2 x1 x2).mp w))]
    exact kx (by first | decide | omega) H locs ls hR hz hL hl
theorem r_mminL (hX : Cl E M as d mc ms Y X) (hP : Dec M.2.1 P) (hf : fd P pc = some (.invokestatic idx, 3)) (w1 : Cond.methodLink M.1.cls idx Lib.MathLoose.min_long.x ∈ tb) (w2 : Cond.static Lib.MathLoose.min_long.x ∈ tb) (w3 : Cond.initialized "java/lang/Math" ∈ tb) (w4 : Cond.code Lib.MathLoose.min_long.x Lib.MathLoose.min_long.code 4 (some .long) ∈ tb) (hd : 1 ≤ d) (h1 : cs ≤ mc) (h2 : ss ≤ ms) (hsc : sc st ≤ 8) (x1 : -9223372036854775808 ≤ x) (x2 : x ≤ 9223372036854775807) (y1 : -9223372036854775808 ≤ y) (y2 : y ≤ 9223372036854775807) (kx : x ≤ y → X cs ss (pc + 3) ((1, x) :: st) lo S G) (ky : y ≤ x → X cs ss (pc + 3) ((1, y) :: st) lo S G) : X cs ss pc ((1, y) :: (1, x) :: st) lo S G := by
  obtain ⟨p, e, z, m, below, meth, c, hx, hb, hr, hml, hown, hlk, hnm, hts, hK, rfl⟩ := hX
  intro H locs ls hR hz hL hl
  refine va_mmin_long hx hb (by rw [hml]; exact hl.1.symm) hown (hts _ w1) (hts _ w2) (hts _ w3) (hts _ w4) hd (by show ((ts st).map fun v => v.category).sum + 15 ≤ 100 * d; rw [sc_ok]; omega) h1 h2 (fd_dec hP hf) ?_
  by_cases q : y < x
  · rw [if_pos ((i64_lt y1 y2 x1 x2).mpr q)]
    exact ky (by first | decide | omega) H locs ls hR hz hL hl
  · rw [if_neg (fun w => q ((i64_lt y1 y2 x1 x2).mp w))]
    exact kx (by first | decide | omega) H locs ls hR hz hL hl
theorem r_mabsL (hX : Cl E M as d mc ms Y X) (hP : Dec M.2.1 P) (hf : fd P pc = some (.invokestatic idx, 3)) (w1 : Cond.methodLink M.1.cls idx Lib.MathLoose.abs_long.x ∈ tb) (w2 : Cond.static Lib.MathLoose.abs_long.x ∈ tb) (w3 : Cond.initialized "java/lang/Math" ∈ tb) (w4 : Cond.code Lib.MathLoose.abs_long.x Lib.MathLoose.abs_long.code 2 (some .long) ∈ tb) (hd : 1 ≤ d) (h1 : cs ≤ mc) (h2 : ss ≤ ms) (hsc : sc st ≤ 8) (x1 : -9223372036854775808 ≤ x) (x2 : x ≤ 9223372036854775807) (kx : 0 < x → X cs ss (pc + 3) ((1, x) :: st) lo S G) (ky : x ≤ 0 → X cs ss (pc + 3) ((1, -x) :: st) lo S G) : X cs ss pc ((1, x) :: st) lo S G := by
  obtain ⟨p, e, z, m, below, meth, c, hx, hb, hr, hml, hown, hlk, hnm, hts, hK, rfl⟩ := hX
  intro H locs ls hR hz hL hl
  refine va_mabs_long hx hb (by rw [hml]; exact hl.1.symm) hown (hts _ w1) (hts _ w2) (hts _ w3) (hts _ w4) hd (by show ((ts st).map fun v => v.category).sum + 13 ≤ 100 * d; rw [sc_ok]; omega) h1 h2 (fd_dec hP hf) ?_
  by_cases q : 0 < x
  · have e1 : (0 : Int64) < Int64.ofInt x := (i64_lt (x := 0) (by first | decide | omega) (by first | decide | omega) x1 x2).mpr q
    rw [if_pos e1]
    exact kx q H locs ls hR hz hL hl
  · have e1 : ¬ (0 : Int64) < Int64.ofInt x := fun w => q ((i64_lt (x := 0) (by first | decide | omega) (by first | decide | omega) x1 x2).mp w)
    rw [if_neg e1]
    have := ky (by first | decide | omega) H locs ls hR hz hL hl
    simp only [ts, List.map_cons, tv1, Int64.ofInt_neg] at this
    exact this
theorem r_mabsI (hX : Cl E M as d mc ms Y X) (hP : Dec M.2.1 P) (hf : fd P pc = some (.invokestatic idx, 3)) (w1 : Cond.methodLink M.1.cls idx Lib.Math.abs.name ∈ tb) (w2 : Cond.static Lib.Math.abs.name ∈ tb) (w3 : Cond.initialized "java/lang/Math" ∈ tb) (w4 : Cond.code Lib.Math.abs.name Lib.Math.abs.code 1 (some .int) ∈ tb) (hd : 1 ≤ d) (h1 : cs ≤ mc) (h2 : ss ≤ ms) (hsc : sc st ≤ 8) (x1 : -2147483648 ≤ x) (x2 : x ≤ 2147483647) (kx : 0 ≤ x → X cs ss (pc + 3) ((0, x) :: st) lo S G) (ky : x < 0 → X cs ss (pc + 3) ((0, 0 - x) :: st) lo S G) : X cs ss pc ((0, x) :: st) lo S G := by
  obtain ⟨p, e, z, m, below, meth, c, hx, hb, hr, hml, hown, hlk, hnm, hts, hK, rfl⟩ := hX
  intro H locs ls hR hz hL hl
  refine va_mabs hx hb (by rw [hml]; exact hl.1.symm) hown (hts _ w1) (hts _ w2) (hts _ w3) (hts _ w4) hd (by show ((ts st).map fun v => v.category).sum + 13 ≤ 100 * d; rw [sc_ok]; omega) h1 h2 (fd_dec hP hf) ?_
  by_cases q : 0 ≤ x
  · have e1 : (0 : Int32) ≤ Int32.ofInt x := (i32_le (x := 0) (by first | decide | omega) (by first | decide | omega) x1 x2).mpr q
    rw [if_pos e1]
    exact kx q H locs ls hR hz hL hl
  · have e1 : ¬ (0 : Int32) ≤ Int32.ofInt x := fun w => q ((i32_le (x := 0) (by first | decide | omega) (by first | decide | omega) x1 x2).mp w)
    rw [if_neg e1]
    have := ky (by first | decide | omega) H locs ls hR hz hL hl
    simp only [ts, List.map_cons, tv0, Int32.ofInt_sub] at this
    exact this
end MTH
