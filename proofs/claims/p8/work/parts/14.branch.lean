section RUL
variable {E : En} {M : Mk} {as : List Vl} {d mc ms : Nat} {Y : Option Vl → Sg → Gh → Prop} {X : Xp} {cs ss : Nat} {S : Sg} {G : Gh} {P : Cod} {pc tgt : Nat} {st : List Vl} {lo : Lo} {x y off : Int}
theorem i32t (h1 : -2147483648 ≤ x) (h2 : x ≤ 2147483647) : (Int32.ofInt x).toInt = x := Int32.toInt_ofInt_of_le (by omega) (by omega)
theorem i64t (h1 : -9223372036854775808 ≤ x) (h2 : x ≤ 9223372036854775807) : (Int64.ofInt x).toInt = x := Int64.toInt_ofInt_of_le (by omega) (by omega)
theorem i32_lt (x1 : -2147483648 ≤ x) (x2 : x ≤ 2147483647) (y1 : -2147483648 ≤ y) (y2 : y ≤ 2147483647) : Int32.ofInt x < Int32.ofInt y ↔ x < y := by rw [Int32.lt_iff_toInt_lt, i32t x1 x2, i32t y1 y2]
theorem i32_le (x1 : -2147483648 ≤ x) (x2 : x ≤ 2147483647) (y1 : -2147483648 ≤ y) (y2 : y ≤ 2147483647) : Int32.ofInt x ≤ Int32.ofInt y ↔ x ≤ y := by rw [Int32.le_iff_toInt_le, i32t x1 x2, i32t y1 y2]
theorem i32_eq (x1 : -2147483648 ≤ x) (x2 : x ≤ 2147483647) (y1 : -2147483648 ≤ y) (y2 : y ≤ 2147483647) : Int32.ofInt x = Int32.ofInt y ↔ x = y := by rw [← Int32.toInt_inj, i32t x1 x2, i32t y1 y2]
theorem i64_lt (x1 : -9223372036854775808 ≤ x) (x2 : x ≤ 9223372036854775807) (y1 : -9223372036854775808 ≤ y) (y2 : y ≤ 9223372036854775807) : Int64.ofInt x < Int64.ofInt y ↔ x < y := by rw [Int64.lt_iff_toInt_lt, i64t x1 x2, i64t y1 y2]
theorem i64_le (x1 : -9223372036854775808 ≤ x) (x2 : x ≤ 9223372036854775807) (y1 : -9223372036854775808 ≤ y) (y2 : y ≤ 9223372036854775807) : Int64.ofInt x ≤ Int64.ofInt y ↔ x ≤ y := by rw [Int64.le_iff_toInt_le, i64t x1 x2, i64t y1 y2]
theorem i64_eq (x1 : -9223372036854775808 ≤ x) (x2 : x ≤ 9223372036854775807) (y1 : -9223372036854775808 ≤ y) (y2 : y ≤ 9223372036854775807) : Int64.ofInt x = Int64.ofInt y ↔ x = y := by rw [← Int64.toInt_inj, i64t x1 x2, i64t y1 y2]
/-- fewer locals -/
theorem r_sub (hX : Cl E M as d mc ms Y X) (lo' : Lo) (h : ∀ q ∈ lo', q ∈ lo) (k : X cs ss pc st lo' S G) : X cs ss pc st lo S G := by
  obtain ⟨p, e, z, m, below, meth, c, hx, hb, hr, hml, hown, hlk, hnm, hts, hK, rfl⟩ := hX
  intro H locs ls hR hz hL hl
  refine k H locs ls hR hz hL (lv_less hl ?_)
  intro q hq
  obtain ⟨w, hw, rfl⟩ := List.mem_map.mp hq
  exact List.mem_map.mpr ⟨w, h w hw, rfl⟩
theorem r_pick (hX : Cl E M as d mc ms Y X) (ks : List Nat) {lo' : Lo} (h : ks.filterMap (fun k => lo[k]?) = lo') (k : X cs ss pc st lo' S G) : X cs ss pc st lo S G := by
  refine r_sub hX lo' ?_ k
  intro q hq
  rw [← h] at hq
  obtain ⟨k, -, hk⟩ := List.mem_filterMap.mp hq
  exact List.mem_of_getElem? hk
/-- the same values under other names -/
theorem r_eq (hX : Cl E M as d mc ms Y X) {st' : List Vl} {lo' : Lo} (h1 : ts st = ts st') (h2 : tl lo = tl lo') (k : X cs ss pc st' lo' S G) : X cs ss pc st lo S G := by
  obtain ⟨p, e, z, m, below, meth, c, hx, hb, hr, hml, hown, hlk, hnm, hts, hK, rfl⟩ := hX
  intro H locs ls hR hz hL hl
  rw [h2] at hl
  rw [h1]
  exact k H locs ls hR hz hL hl
/-- a number that may have run over is some number within the range -/
theorem r_hvI (hX : Cl E M as d mc ms Y X) (k : ∀ z : Int, -2147483648 ≤ z → z ≤ 2147483647 → Int32.ofInt z = Int32.ofInt x → X cs ss pc ((0, z) :: st) lo S G) : X cs ss pc ((0, x) :: st) lo S G := by
  have h1 := Int32.minValue_le_toInt (Int32.ofInt x)
  have h2 := Int32.toInt_lt (Int32.ofInt x)
  have h3 : Int32.ofInt (Int32.ofInt x).toInt = Int32.ofInt x := Int32.ofInt_toInt _
  refine r_eq hX ?_ rfl (k (Int32.ofInt x).toInt (by simpa using h1) (by omega) h3)
  simp only [ts, List.map_cons, tv0, h3]
theorem r_hvL (hX : Cl E M as d mc ms Y X) (k : ∀ z : Int, -9223372036854775808 ≤ z → z ≤ 9223372036854775807 → Int64.ofInt z = Int64.ofInt x → X cs ss pc ((1, z) :: st) lo S G) : X cs ss pc ((1, x) :: st) lo S G := by
  have h1 := Int64.minValue_le_toInt (Int64.ofInt x)
  have h2 := Int64.toInt_lt (Int64.ofInt x)
  have h3 : Int64.ofInt (Int64.ofInt x).toInt = Int64.ofInt x := Int64.ofInt_toInt _
  refine r_eq hX ?_ rfl (k (Int64.ofInt x).toInt (by simpa using h1) (by omega) h3)
  simp only [ts, List.map_cons, tv1, h3]
theorem r_if_eq (hX : Cl E M as d mc ms Y X) (hP : Dec M.2.1 P) (hf : fd P pc = some (.ifCond .eq off, 3)) (ht : (pc : Int) + off = (tgt : Int)) (x1 : -2147483648 ≤ x) (x2 : x ≤ 2147483647) (kt : x = 0 → X cs ss tgt st lo S G) (kf : ¬ x = 0 → X cs ss (pc + 3) st lo S G) : X cs ss pc ((0, x) :: st) lo S G := by
  obtain ⟨p, e, z, m, below, meth, c, hx, hb, hr, hml, hown, hlk, hnm, hts, hK, rfl⟩ := hX
  intro H locs ls hR hz hL hl
  exact lv_if_eq hx hb (fd_dec hP hf) ht (fun q => kt ((i32_eq x1 x2 (y := 0) (by omega) (by omega)).mp q) H locs ls hR hz hL hl) (fun q => kf (fun w => q ((i32_eq x1 x2 (y := 0) (by omega) (by omega)).mpr w)) H locs ls hR hz hL hl)
theorem r_ic_eq (hX : Cl E M as d mc ms Y X) (hP : Dec M.2.1 P) (hf : fd P pc = some (.if_icmp .eq off, 3)) (ht : (pc : Int) + off = (tgt : Int)) (x1 : -2147483648 ≤ x) (x2 : x ≤ 2147483647) (y1 : -2147483648 ≤ y) (y2 : y ≤ 2147483647) (kt : x = y → X cs ss tgt st lo S G) (kf : ¬ x = y → X cs ss (pc + 3) st lo S G) : X cs ss pc ((0, y) :: (0, x) :: st) lo S G := by
  obtain ⟨p, e, z, m, below, meth, c, hx, hb, hr, hml, hown, hlk, hnm, hts, hK, rfl⟩ := hX
  intro H locs ls hR hz hL hl
  exact lv_icmp_eq hx hb (fd_dec hP hf) ht (fun q => kt ((i32_eq x1 x2 y1 y2).mp q) H locs ls hR hz hL hl) (fun q => kf (fun w => q ((i32_eq x1 x2 y1 y2).mpr w)) H locs ls hR hz hL hl)
theorem r_if_ne (hX : Cl E M as d mc ms Y X) (hP : Dec M.2.1 P) (hf : fd P pc = some (.ifCond .ne off, 3)) (ht : (pc : Int) + off = (tgt : Int)) (x1 : -2147483648 ≤ x) (x2 : x ≤ 2147483647) (kt : ¬ x = 0 → X cs ss tgt st lo S G) (kf : x = 0 → X cs ss (pc + 3) st lo S G) : X cs ss pc ((0, x) :: st) lo S G := by
  obtain ⟨p, e, z, m, below, meth, c, hx, hb, hr, hml, hown, hlk, hnm, hts, hK, rfl⟩ := hX
  intro H locs ls hR hz hL hl
  exact lv_if_ne hx hb (fd_dec hP hf) ht (fun q => kt (fun w => q ((i32_eq x1 x2 (y := 0) (by omega) (by omega)).mpr w)) H locs ls hR hz hL hl) (fun q => kf ((i32_eq x1 x2 (y := 0) (by omega) (by omega)).mp q) H locs ls hR hz hL hl)
theorem r_ic_ne (hX : Cl E M as d mc ms Y X) (hP : Dec M.2.1 P) (hf : fd P pc = some (.if_icmp .ne off, 3)) (ht : (pc : Int) + off = (tgt : Int)) (x1 : -2147483648 ≤ x) (x2 : x ≤ 2147483647) (y1 : -2147483648 ≤ y) (y2 : y ≤ 2147483647) (kt : ¬ x = y → X cs ss tgt st lo S G) (kf : x = y → X cs ss (pc + 3) st lo S G) : X cs ss pc ((0, y) :: (0, x) :: st) lo S G := by
  obtain ⟨p, e, z, m, below, meth, c, hx, hb, hr, hml, hown, hlk, hnm, hts, hK, rfl⟩ := hX
  intro H locs ls hR hz hL hl
  exact lv_icmp_ne hx hb (fd_dec hP hf) ht (fun q => kt (fun w => q ((i32_eq x1 x2 y1 y2).mpr w)) H locs ls hR hz hL hl) (fun q => kf ((i32_eq x1 x2 y1 y2).mp q) H locs ls hR hz hL hl)
theorem r_if_lt (hX : Cl E M as d mc ms Y X) (hP : Dec M.2.1 P) (hf : fd P pc = some (.ifCond .lt off, 3)) (ht : (pc : Int) + off = (tgt : Int)) (x1 : -2147483648 ≤ x) (x2 : x ≤ 2147483647) (kt : x < 0 → X cs ss tgt st lo S G) (kf : 0 ≤ x → X cs ss (pc + 3) st lo S G) : X cs ss pc ((0, x) :: st) lo S G := by
  obtain ⟨p, e, z, m, below, meth, c, hx, hb, hr, hml, hown, hlk, hnm, hts, hK, rfl⟩ := hX
  intro H locs ls hR hz hL hl
  exact lv_if_lt hx hb (fd_dec hP hf) ht (fun q => kt ((i32_lt x1 x2 (y := 0) (by omega) (by omega)).mp q) H locs ls hR hz hL hl) (fun q => kf (Int.not_lt.mp fun w => q ((i32_lt x1 x2 (y := 0) (by omega) (by omega)).mpr w)) H locs ls hR hz hL hl)
theorem r_ic_lt (hX : Cl E M as d mc ms Y X) (hP : Dec M.2.1 P) (hf : fd P pc = some (.if_icmp .lt off, 3)) (ht : (pc : Int) + off = (tgt : Int)) (x1 : -2147483648 ≤ x) (x2 : x ≤ 2147483647) (y1 : -2147483648 ≤ y) (y2 : y ≤ 2147483647) (kt : x < y → X cs ss tgt st lo S G) (kf : y ≤ x → X cs ss (pc + 3) st lo S G) : X cs ss pc ((0, y) :: (0, x) :: st) lo S G := by
  obtain ⟨p, e, z, m, below, meth, c, hx, hb, hr, hml, hown, hlk, hnm, hts, hK, rfl⟩ := hX
  intro H locs ls hR hz hL hl
  exact lv_icmp_lt hx hb (fd_dec hP hf) ht (fun q => kt ((i32_lt x1 x2 y1 y2).mp q) H locs ls hR hz hL hl) (fun q => kf (Int.not_lt.mp fun w => q ((i32_lt x1 x2 y1 y2).mpr w)) H locs ls hR hz hL hl)
theorem r_if_ge (hX : Cl E M as d mc ms Y X) (hP : Dec M.2.1 P) (hf : fd P pc = some (.ifCond .ge off, 3)) (ht : (pc : Int) + off = (tgt : Int)) (x1 : -2147483648 ≤ x) (x2 : x ≤ 2147483647) (kt : 0 ≤ x → X cs ss tgt st lo S G) (kf : x < 0 → X cs ss (pc + 3) st lo S G) : X cs ss pc ((0, x) :: st) lo S G := by
  obtain ⟨p, e, z, m, below, meth, c, hx, hb, hr, hml, hown, hlk, hnm, hts, hK, rfl⟩ := hX
  intro H locs ls hR hz hL hl
  exact lv_if_ge hx hb (fd_dec hP hf) ht (fun q => kt ((i32_le (x := 0) (by omega) (by omega) x1 x2).mp q) H locs ls hR hz hL hl) (fun q => kf (Int.not_le.mp fun w => q ((i32_le (x := 0) (by omega) (by omega) x1 x2).mpr w)) H locs ls hR hz hL hl)
theorem r_ic_ge (hX : Cl E M as d mc ms Y X) (hP : Dec M.2.1 P) (hf : fd P pc = some (.if_icmp .ge off, 3)) (ht : (pc : Int) + off = (tgt : Int)) (x1 : -2147483648 ≤ x) (x2 : x ≤ 2147483647) (y1 : -2147483648 ≤ y) (y2 : y ≤ 2147483647) (kt : y ≤ x → X cs ss tgt st lo S G) (kf : x < y → X cs ss (pc + 3) st lo S G) : X cs ss pc ((0, y) :: (0, x) :: st) lo S G := by
  obtain ⟨p, e, z, m, below, meth, c, hx, hb, hr, hml, hown, hlk, hnm, hts, hK, rfl⟩ := hX
  intro H locs ls hR hz hL hl
  exact lv_icmp_ge hx hb (fd_dec hP hf) ht (fun q => kt ((i32_le y1 y2 x1 x2).mp q) H locs ls hR hz hL hl) (fun q => kf (Int.not_le.mp fun w => q ((i32_le y1 y2 x1 x2).mpr w)) H locs ls hR hz hL hl)
theorem r_if_gt (hX : Cl E M as d mc ms Y X) (hP : Dec M.2.1 P) (hf : fd P pc = some (.ifCond .gt off, 3)) (ht : (pc : Int) + off = (tgt : Int)) (x1 : -2147483648 ≤ x) (x2 : x ≤ 2147483647) (kt : 0 < x → X cs ss tgt st lo S G) (kf : x ≤ 0 → X cs ss (pc + 3) st lo S G) : X cs ss pc ((0, x) :: st) lo S G := by
  obtain ⟨p, e, z, m, below, meth, c, hx, hb, hr, hml, hown, hlk, hnm, hts, hK, rfl⟩ := hX
  intro H locs ls hR hz hL hl
  exact lv_if_gt hx hb (fd_dec hP hf) ht (fun q => kt ((i32_lt (x := 0) (by omega) (by omega) x1 x2).mp q) H locs ls hR hz hL hl) (fun q => kf (Int.not_lt.mp fun w => q ((i32_lt (x := 0) (by omega) (by omega) x1 x2).mpr w)) H locs ls hR hz hL hl)
theorem r_ic_gt (hX : Cl E M as d mc ms Y X) (hP : Dec M.2.1 P) (hf : fd P pc = some (.if_icmp .gt off, 3)) (ht : (pc : Int) + off = (tgt : Int)) (x1 : -2147483648 ≤ x) (x2 : x ≤ 2147483647) (y1 : -2147483648 ≤ y) (y2 : y ≤ 2147483647) (kt : y < x → X cs ss tgt st lo S G) (kf : x ≤ y → X cs ss (pc + 3) st lo S G) : X cs ss pc ((0, y) :: (0, x) :: st) lo S G := by
  obtain ⟨p, e, z, m, below, meth, c, hx, hb, hr, hml, hown, hlk, hnm, hts, hK, rfl⟩ := hX
  intro H locs ls hR hz hL hl
  exact lv_icmp_gt hx hb (fd_dec hP hf) ht (fun q => kt ((i32_lt y1 y2 x1 x2).mp q) H locs ls hR hz hL hl) (fun q => kf (Int.not_lt.mp fun w => q ((i32_lt y1 y2 x1 x2).mpr w)) H locs ls hR hz hL hl)
theorem r_if_le (hX : Cl E M as d mc ms Y X) (hP : Dec M.2.1 P) (hf : fd P pc = some (.ifCond .le off, 3)) (ht : (pc : Int) + off = (tgt : Int)) (x1 : -2147483648 ≤ x) (x2 : x ≤ 2147483647) (kt : x ≤ 0 → X cs ss tgt st lo S G) (kf : 0 < x → X cs ss (pc + 3) st lo S G) : X cs ss pc ((0, x) :: st) lo S G := by
  obtain ⟨p, e, z, m, below, meth, c, hx, hb, hr, hml, hown, hlk, hnm, hts, hK, rfl⟩ := hX
  intro H locs ls hR hz hL hl
  exact lv_if_le hx hb (fd_dec hP hf) ht (fun q => kt ((i32_le x1 x2 (y := 0) (by omega) (by omega)).mp q) H locs ls hR hz hL hl) (fun q => kf (Int.not_le.mp fun w => q ((i32_le x1 x2 (y := 0) (by omega) (by omega)).mpr w)) H locs ls hR hz hL hl)
theorem r_ic_le (hX : Cl E M as d mc ms Y X) (hP : Dec M.2.1 P) (hf : fd P pc = some (.if_icmp .le off, 3)) (ht : (pc : Int) + off = (tgt : Int)) (x1 : -2147483648 ≤ x) (x2 : x ≤ 2147483647) (y1 : -2147483648 ≤ y) (y2 : y ≤ 2147483647) (kt : x ≤ y → X cs ss tgt st lo S G) (kf : y < x → X cs ss (pc + 3) st lo S G) : X cs ss pc ((0, y) :: (0, x) :: st) lo S G := by
  obtain ⟨p, e, z, m, below, meth, c, hx, hb, hr, hml, hown, hlk, hnm, hts, hK, rfl⟩ := hX
  intro H locs ls hR hz hL hl
  exact lv_icmp_le hx hb (fd_dec hP hf) ht (fun q => kt ((i32_le x1 x2 y1 y2).mp q) H locs ls hR hz hL hl) (fun q => kf (Int.not_le.mp fun w => q ((i32_le x1 x2 y1 y2).mpr w)) H locs ls hR hz hL hl)
end RUL
