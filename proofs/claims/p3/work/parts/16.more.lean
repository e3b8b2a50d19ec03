section RUM
variable {E : En} {M : Mk} {as : List Vl} {d mc ms : Nat} {Y : Option Vl → Sg → Gh → Prop} {X : Xp} {cs ss : Nat} {S : Sg} {G : Gh} {P : Cod} {pc tgt idx : Nat} {st : List Vl} {lo : Lo} {x y off a L : Int}
theorem r_ldc (hX : Cl E M as d mc ms Y X) (hP : Dec M.2.1 P) (hf : fd P pc = some (.ldc idx, 2)) {v : Int} (hw : Cond.constant M.1.cls idx (Int32.ofInt v) ∈ tb) (k : X cs ss (pc + 2) ((0, v) :: st) lo S G) : X cs ss pc st lo S G := by
  obtain ⟨p, e, z, m, below, meth, c, hx, hb, hr, hml, hown, hlk, hnm, hts, hK, rfl⟩ := hX
  intro H locs ls hR hz hL hl
  exact lv_ldc hx hb hown (hts _ hw) (fd_dec hP hf) (k H locs ls hR hz hL hl)
theorem r_ldcw (hX : Cl E M as d mc ms Y X) (hP : Dec M.2.1 P) (hf : fd P pc = some (.ldc_w idx, 3)) {v : Int} (hw : Cond.constant M.1.cls idx (Int32.ofInt v) ∈ tb) (k : X cs ss (pc + 3) ((0, v) :: st) lo S G) : X cs ss pc st lo S G := by
  obtain ⟨p, e, z, m, below, meth, c, hx, hb, hr, hml, hown, hlk, hnm, hts, hK, rfl⟩ := hX
  intro H locs ls hR hz hL hl
  exact lv_ldcw hx hb hown (hts _ hw) (fd_dec hP hf) (k H locs ls hR hz hL hl)
theorem r_ldc2 (hX : Cl E M as d mc ms Y X) (hP : Dec M.2.1 P) (hf : fd P pc = some (.ldc2_w idx, 3)) {v : Int} (hw : Cond.constantLong M.1.cls idx (Int64.ofInt v) ∈ tb) (k : X cs ss (pc + 3) ((1, v) :: st) lo S G) : X cs ss pc st lo S G := by
  obtain ⟨p, e, z, m, below, meth, c, hx, hb, hr, hml, hown, hlk, hnm, hts, hK, rfl⟩ := hX
  intro H locs ls hR hz hL hl
  exact lv_ldc2 hx hb hown (hts _ hw) (fd_dec hP hf) (k H locs ls hR hz hL hl)
theorem r_tsIn (hX : Cl E M as d mc ms Y X) (hP : Dec M.2.1 P) {df lo' hi' : Int} {offs : Array Int} {len : Nat} (hf : fd P pc = some (.tableswitch df lo' hi' offs, len)) (x1 : -2147483648 ≤ x) (x2 : x ≤ 2147483647) (h1 : lo' ≤ x) (h2 : x ≤ hi') (ho : offs[(x - lo').toNat]? = some off) (ht : (pc : Int) + off = (tgt : Int)) (k : X cs ss tgt st lo S G) : X cs ss pc ((0, x) :: st) lo S G := by
  obtain ⟨p, e, z, m, below, meth, c, hx, hb, hr, hml, hown, hlk, hnm, hts, hK, rfl⟩ := hX
  intro H locs ls hR hz hL hl
  have e1 : (Int32.ofInt x).toInt = x := i32t x1 x2
  exact lv_tableIn hx hb (fd_dec hP hf) (by rw [e1]; omega) (by rw [e1]; omega) (by rw [e1]; exact ho) ht (k H locs ls hR hz hL hl)
theorem r_tsOut (hX : Cl E M as d mc ms Y X) (hP : Dec M.2.1 P) {df lo' hi' : Int} {offs : Array Int} {len : Nat} (hf : fd P pc = some (.tableswitch df lo' hi' offs, len)) (x1 : -2147483648 ≤ x) (x2 : x ≤ 2147483647) (h1 : x < lo' ∨ hi' < x) (ht : (pc : Int) + df = (tgt : Int)) (k : X cs ss tgt st lo S G) : X cs ss pc ((0, x) :: st) lo S G := by
  obtain ⟨p, e, z, m, below, meth, c, hx, hb, hr, hml, hown, hlk, hnm, hts, hK, rfl⟩ := hX
  intro H locs ls hR hz hL hl
  have e1 : (Int32.ofInt x).toInt = x := i32t x1 x2
  exact lv_tableOut hx hb (fd_dec hP hf) (by rw [e1]; exact h1) ht (k H locs ls hR hz hL hl)
/-- numbers of the heap, but those of the listed fields of label 1 and of the listed labels -/
def hv (mf ml : List Int) (G G1 : Gh) : Gh := fun L a j => if (L == 1 && mf.contains j) || ml.contains L then G1 L a j else G L a j
end RUM
