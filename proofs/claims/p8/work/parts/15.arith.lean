section RUA
variable {E : En} {M : Mk} {as : List Vl} {d mc ms : Nat} {Y : Option Vl → Sg → Gh → Prop} {X : Xp} {cs ss : Nat} {S : Sg} {G : Gh} {P : Cod} {pc tgt : Nat} {st : List Vl} {lo : Lo} {x y off : Int}
theorem r_lc_eq (hX : Cl E M as d mc ms Y X) (hP : Dec M.2.1 P) (hf0 : fd P pc = some (.lcmp, 1)) (hf : fd P (pc + 1) = some (.ifCond .eq off, 3)) (ht : ((pc + 1 : Nat) : Int) + off = (tgt : Int)) (x1 : -9223372036854775808 ≤ x) (x2 : x ≤ 9223372036854775807) (y1 : -9223372036854775808 ≤ y) (y2 : y ≤ 9223372036854775807) (kt : x = y → X cs ss tgt st lo S G) (kf : ¬ x = y → X cs ss (pc + 4) st lo S G) : X cs ss pc ((1, y) :: (1, x) :: st) lo S G := by
  obtain ⟨p, e, z, m, below, meth, c, hx, hb, hr, hml, hown, hlk, hnm, hts, hK, rfl⟩ := hX
  intro H locs ls hR hz hL hl
  exact W.lcmp hx hb (fd_dec hP hf0) (lv_if_eq hx hb (fd_dec hP hf) ht (fun q => kt ((i64_eq x1 x2 y1 y2).mp ((lg_cmp_eq (Int64.ofInt x) (Int64.ofInt y)).mp q)) H locs ls hR hz hL hl) (fun q => kf (fun w => q ((lg_cmp_eq (Int64.ofInt x) (Int64.ofInt y)).mpr ((i64_eq x1 x2 y1 y2).mpr w))) H locs ls hR hz hL hl))
theorem r_lc_ne (hX : Cl E M as d mc ms Y X) (hP : Dec M.2.1 P) (hf0 : fd P pc = some (.lcmp, 1)) (hf : fd P (pc + 1) = some (.ifCond .ne off, 3)) (ht : ((pc + 1 : Nat) : Int) + off = (tgt : Int)) (x1 : -9223372036854775808 ≤ x) (x2 : x ≤ 9223372036854775807) (y1 : -9223372036854775808 ≤ y) (y2 : y ≤ 9223372036854775807) (kt : ¬ x = y → X cs ss tgt st lo S G) (kf : x = y → X cs ss (pc + 4) st lo S G) : X cs ss pc ((1, y) :: (1, x) :: st) lo S G := by
  obtain ⟨p, e, z, m, below, meth, c, hx, hb, hr, hml, hown, hlk, hnm, hts, hK, rfl⟩ := hX
  intro H locs ls hR hz hL hl
  exact W.lcmp hx hb (fd_dec hP hf0) (lv_if_ne hx hb (fd_dec hP hf) ht (fun q => kt (fun w => q ((lg_cmp_eq (Int64.ofInt x) (Int64.ofInt y)).mpr ((i64_eq x1 x2 y1 y2).mpr w))) H locs ls hR hz hL hl) (fun q => kf ((i64_eq x1 x2 y1 y2).mp ((lg_cmp_eq (Int64.ofInt x) (Int64.ofInt y)).mp q)) H locs ls hR hz hL hl))
theorem r_lc_lt (hX : Cl E M as d mc ms Y X) (hP : Dec M.2.1 P) (hf0 : fd P pc = some (.lcmp, 1)) (hf : fd P (pc + 1) = some (.ifCond .lt off, 3)) (ht : ((pc + 1 : Nat) : Int) + off = (tgt : Int)) (x1 : -9223372036854775808 ≤ x) (x2 : x ≤ 9223372036854775807) (y1 : -9223372036854775808 ≤ y) (y2 : y ≤ 9223372036854775807) (kt : x < y → X cs ss tgt st lo S G) (kf : y ≤ x → X cs ss (pc + 4) st lo S G) : X cs ss pc ((1, y) :: (1, x) :: st) lo S G := by
  obtain ⟨p, e, z, m, below, meth, c, hx, hb, hr, hml, hown, hlk, hnm, hts, hK, rfl⟩ := hX
  intro H locs ls hR hz hL hl
  exact W.lcmp hx hb (fd_dec hP hf0) (lv_if_lt hx hb (fd_dec hP hf) ht (fun q => kt ((i64_lt x1 x2 y1 y2).mp ((lg_cmp_lt (Int64.ofInt x) (Int64.ofInt y)).mp q)) H locs ls hR hz hL hl) (fun q => kf (Int.not_lt.mp fun w => q ((lg_cmp_lt (Int64.ofInt x) (Int64.ofInt y)).mpr ((i64_lt x1 x2 y1 y2).mpr w))) H locs ls hR hz hL hl))
theorem r_lc_ge (hX : Cl E M as d mc ms Y X) (hP : Dec M.2.1 P) (hf0 : fd P pc = some (.lcmp, 1)) (hf : fd P (pc + 1) = some (.ifCond .ge off, 3)) (ht : ((pc + 1 : Nat) : Int) + off = (tgt : Int)) (x1 : -9223372036854775808 ≤ x) (x2 : x ≤ 9223372036854775807) (y1 : -9223372036854775808 ≤ y) (y2 : y ≤ 9223372036854775807) (kt : y ≤ x → X cs ss tgt st lo S G) (kf : x < y → X cs ss (pc + 4) st lo S G) : X cs ss pc ((1, y) :: (1, x) :: st) lo S G := by
  obtain ⟨p, e, z, m, below, meth, c, hx, hb, hr, hml, hown, hlk, hnm, hts, hK, rfl⟩ := hX
  intro H locs ls hR hz hL hl
  exact W.lcmp hx hb (fd_dec hP hf0) (lv_if_ge hx hb (fd_dec hP hf) ht (fun q => kt ((i64_le y1 y2 x1 x2).mp ((lg_cmp_ge (Int64.ofInt x) (Int64.ofInt y)).mp q)) H locs ls hR hz hL hl) (fun q => kf (Int.not_le.mp fun w => q ((lg_cmp_ge (Int64.ofInt x) (Int64.ofInt y)).mpr ((i64_le y1 y2 x1 x2).mpr w))) H locs ls hR hz hL hl))
theorem r_lc_gt (hX : Cl E M as d mc ms Y X) (hP : Dec M.2.1 P) (hf0 : fd P pc = some (.lcmp, 1)) (hf : fd P (pc + 1) = some (.ifCond .gt off, 3)) (ht : ((pc + 1 : Nat) : Int) + off = (tgt : Int)) (x1 : -9223372036854775808 ≤ x) (x2 : x ≤ 9223372036854775807) (y1 : -9223372036854775808 ≤ y) (y2 : y ≤ 9223372036854775807) (kt : y < x → X cs ss tgt st lo S G) (kf : x ≤ y → X cs ss (pc + 4) st lo S G) : X cs ss pc ((1, y) :: (1, x) :: st) lo S G := by
  obtain ⟨p, e, z, m, below, meth, c, hx, hb, hr, hml, hown, hlk, hnm, hts, hK, rfl⟩ := hX
  intro H locs ls hR hz hL hl
  exact W.lcmp hx hb (fd_dec hP hf0) (lv_if_gt hx hb (fd_dec hP hf) ht (fun q => kt ((i64_lt y1 y2 x1 x2).mp ((lg_cmp_gt (Int64.ofInt x) (Int64.ofInt y)).mp q)) H locs ls hR hz hL hl) (fun q => kf (Int.not_lt.mp fun w => q ((lg_cmp_gt (Int64.ofInt x) (Int64.ofInt y)).mpr ((i64_lt y1 y2 x1 x2).mpr w))) H locs ls hR hz hL hl))
theorem r_lc_le (hX : Cl E M as d mc ms Y X) (hP : Dec M.2.1 P) (hf0 : fd P pc = some (.lcmp, 1)) (hf : fd P (pc + 1) = some (.ifCond .le off, 3)) (ht : ((pc + 1 : Nat) : Int) + off = (tgt : Int)) (x1 : -9223372036854775808 ≤ x) (x2 : x ≤ 9223372036854775807) (y1 : -9223372036854775808 ≤ y) (y2 : y ≤ 9223372036854775807) (kt : x ≤ y → X cs ss tgt st lo S G) (kf : y < x → X cs ss (pc + 4) st lo S G) : X cs ss pc ((1, y) :: (1, x) :: st) lo S G := by
  obtain ⟨p, e, z, m, below, meth, c, hx, hb, hr, hml, hown, hlk, hnm, hts, hK, rfl⟩ := hX
  intro H locs ls hR hz hL hl
  exact W.lcmp hx hb (fd_dec hP hf0) (lv_if_le hx hb (fd_dec hP hf) ht (fun q => kt ((i64_le x1 x2 y1 y2).mp ((lg_cmp_le (Int64.ofInt x) (Int64.ofInt y)).mp q)) H locs ls hR hz hL hl) (fun q => kf (Int.not_le.mp fun w => q ((lg_cmp_le (Int64.ofInt x) (Int64.ofInt y)).mpr ((i64_le x1 x2 y1 y2).mpr w))) H locs ls hR hz hL hl))
theorem i32_nz (y1 : -2147483648 ≤ y) (y2 : y ≤ 2147483647) (h : y ≠ 0) : ¬ Int32.ofInt y = 0 := fun q => h ((i32_eq y1 y2 (y := 0) (by omega) (by omega)).mp q)
theorem i32_div (x1 : -2147483648 ≤ x) (x2 : x ≤ 2147483647) (y1 : -2147483648 ≤ y) (y2 : y ≤ 2147483647) : Int32.ofInt x / Int32.ofInt y = Int32.ofInt (x.tdiv y) := by
  have e2 : Int32.maxValue.toInt = 2147483647 := by decide +kernel
  rw [Int32.ofInt_tdiv (by simpa using x1) (by omega) (by simpa using y1) (by omega)]
theorem i32_rem (x1 : -2147483648 ≤ x) (x2 : x ≤ 2147483647) (y1 : -2147483648 ≤ y) (y2 : y ≤ 2147483647) : Int32.ofInt x - Int32.ofInt x / Int32.ofInt y * Int32.ofInt y = Int32.ofInt (x.tmod y) := by
  rw [i32_div x1 x2 y1 y2, ← Int32.ofInt_mul, ← Int32.ofInt_sub]
  congr 1
  have := Int.tmod_add_tdiv_mul x y
  omega
theorem r_idiv (hX : Cl E M as d mc ms Y X) (hP : Dec M.2.1 P) (hf : fd P pc = some (.idiv, 1)) (x1 : -2147483648 ≤ x) (x2 : x ≤ 2147483647) (y1 : -2147483648 ≤ y) (y2 : y ≤ 2147483647) (hy : y ≠ 0) (k : X cs ss (pc + 1) ((0, x.tdiv y) :: st) lo S G) : X cs ss pc ((0, y) :: (0, x) :: st) lo S G := by
  obtain ⟨p, e, z, m, below, meth, c, hx, hb, hr, hml, hown, hlk, hnm, hts, hK, rfl⟩ := hX
  intro H locs ls hR hz hL hl
  refine lv_idiv hx hb (fd_dec hP hf) (i32_nz y1 y2 hy) ?_
  have k := k H locs ls hR hz hL hl
  simp only [ts, List.map_cons, tv0] at k
  rw [← i32_div x1 x2 y1 y2] at k
  exact k
theorem r_irem (hX : Cl E M as d mc ms Y X) (hP : Dec M.2.1 P) (hf : fd P pc = some (.irem, 1)) (x1 : -2147483648 ≤ x) (x2 : x ≤ 2147483647) (y1 : -2147483648 ≤ y) (y2 : y ≤ 2147483647) (hy : y ≠ 0) (k : X cs ss (pc + 1) ((0, x.tmod y) :: st) lo S G) : X cs ss pc ((0, y) :: (0, x) :: st) lo S G := by
  obtain ⟨p, e, z, m, below, meth, c, hx, hb, hr, hml, hown, hlk, hnm, hts, hK, rfl⟩ := hX
  intro H locs ls hR hz hL hl
  refine lv_irem hx hb (fd_dec hP hf) (i32_nz y1 y2 hy) ?_
  have k := k H locs ls hR hz hL hl
  simp only [ts, List.map_cons, tv0] at k
  rw [← i32_rem x1 x2 y1 y2] at k
  exact k
theorem i64_nz (y1 : -9223372036854775808 ≤ y) (y2 : y ≤ 9223372036854775807) (h : y ≠ 0) : ¬ Int64.ofInt y = 0 := fun q => h ((i64_eq y1 y2 (y := 0) (by omega) (by omega)).mp q)
theorem i64_div (x1 : -9223372036854775808 ≤ x) (x2 : x ≤ 9223372036854775807) (y1 : -9223372036854775808 ≤ y) (y2 : y ≤ 9223372036854775807) : Int64.ofInt x / Int64.ofInt y = Int64.ofInt (x.tdiv y) := by
  have e2 : Int64.maxValue.toInt = 9223372036854775807 := by decide +kernel
  rw [Int64.ofInt_tdiv (by simpa using x1) (by omega) (by simpa using y1) (by omega)]
theorem i64_rem (x1 : -9223372036854775808 ≤ x) (x2 : x ≤ 9223372036854775807) (y1 : -9223372036854775808 ≤ y) (y2 : y ≤ 9223372036854775807) : Int64.ofInt x - Int64.ofInt x / Int64.ofInt y * Int64.ofInt y = Int64.ofInt (x.tmod y) := by
  rw [i64_div x1 x2 y1 y2, ← Int64.ofInt_mul, ← Int64.ofInt_sub]
  congr 1
  have := Int.tmod_add_tdiv_mul x y
  omega
theorem r_ldiv (hX : Cl E M as d mc ms Y X) (hP : Dec M.2.1 P) (hf : fd P pc = some (.ldiv, 1)) (x1 : -9223372036854775808 ≤ x) (x2 : x ≤ 9223372036854775807) (y1 : -9223372036854775808 ≤ y) (y2 : y ≤ 9223372036854775807) (hy : y ≠ 0) (k : X cs ss (pc + 1) ((1, x.tdiv y) :: st) lo S G) : X cs ss pc ((1, y) :: (1, x) :: st) lo S G := by
  obtain ⟨p, e, z, m, below, meth, c, hx, hb, hr, hml, hown, hlk, hnm, hts, hK, rfl⟩ := hX
  intro H locs ls hR hz hL hl
  refine lv_ldiv hx hb (fd_dec hP hf) (i64_nz y1 y2 hy) ?_
  have k := k H locs ls hR hz hL hl
  simp only [ts, List.map_cons, tv1] at k
  rw [← i64_div x1 x2 y1 y2] at k
  exact k
theorem r_lrem (hX : Cl E M as d mc ms Y X) (hP : Dec M.2.1 P) (hf : fd P pc = some (.lrem, 1)) (x1 : -9223372036854775808 ≤ x) (x2 : x ≤ 9223372036854775807) (y1 : -9223372036854775808 ≤ y) (y2 : y ≤ 9223372036854775807) (hy : y ≠ 0) (k : X cs ss (pc + 1) ((1, x.tmod y) :: st) lo S G) : X cs ss pc ((1, y) :: (1, x) :: st) lo S G := by
  obtain ⟨p, e, z, m, below, meth, c, hx, hb, hr, hml, hown, hlk, hnm, hts, hK, rfl⟩ := hX
  intro H locs ls hR hz hL hl
  refine lv_lrem hx hb (fd_dec hP hf) (i64_nz y1 y2 hy) ?_
  have k := k H locs ls hR hz hL hl
  simp only [ts, List.map_cons, tv1] at k
  rw [← i64_rem x1 x2 y1 y2] at k
  exact k
theorem r_i2l (hX : Cl E M as d mc ms Y X) (hP : Dec M.2.1 P) (hf : fd P pc = some (.i2l, 1)) (x1 : -2147483648 ≤ x) (x2 : x ≤ 2147483647) (k : X cs ss (pc + 1) ((1, x) :: st) lo S G) : X cs ss pc ((0, x) :: st) lo S G := by
  obtain ⟨p, e, z, m, below, meth, c, hx, hb, hr, hml, hown, hlk, hnm, hts, hK, rfl⟩ := hX
  intro H locs ls hR hz hL hl
  refine lv_i2l hx hb (fd_dec hP hf) (v := Int64.ofInt x) ?_ (k H locs ls hR hz hL hl)
  apply Int64.toInt_inj.mp
  show (Int32.ofInt x).toInt64.toInt = _
  rw [Int32.toInt_toInt64, i32t x1 x2, i64t (by omega) (by omega)]
theorem i32ex (v : Int32) : ∃ z : Int, -2147483648 ≤ z ∧ z ≤ 2147483647 ∧ v = Int32.ofInt z := by
  have h1 := Int32.minValue_le_toInt v
  have h2 := Int32.toInt_lt v
  exact ⟨v.toInt, by simpa using h1, by omega, (Int32.ofInt_toInt _).symm⟩
theorem i64ex (v : Int64) : ∃ z : Int, -9223372036854775808 ≤ z ∧ z ≤ 9223372036854775807 ∧ v = Int64.ofInt z := by
  have h1 := Int64.minValue_le_toInt v
  have h2 := Int64.toInt_lt v
  exact ⟨v.toInt, by simpa using h1, by omega, (Int64.ofInt_toInt _).symm⟩
theorem r_iand (hX : Cl E M as d mc ms Y X) (hP : Dec M.2.1 P) (hf : fd P pc = some (.iand, 1)) (k : ∀ z : Int, -2147483648 ≤ z → z ≤ 2147483647 → Int32.ofInt z = Int32.ofInt x &&& Int32.ofInt y → X cs ss (pc + 1) ((0, z) :: st) lo S G) : X cs ss pc ((0, y) :: (0, x) :: st) lo S G := by
  obtain ⟨v, v1, v2, v3⟩ := i32ex (Int32.ofInt x &&& Int32.ofInt y)
  have k := k v v1 v2 v3.symm
  obtain ⟨p, e, z, m, below, meth, c, hx, hb, hr, hml, hown, hlk, hnm, hts, hK, rfl⟩ := hX
  intro H locs ls hR hz hL hl
  have k := k H locs ls hR hz hL hl
  simp only [ts, List.map_cons, tv0] at k
  rw [← v3] at k
  exact lv_iand hx hb (fd_dec hP hf) k
theorem r_ior (hX : Cl E M as d mc ms Y X) (hP : Dec M.2.1 P) (hf : fd P pc = some (.ior, 1)) (k : ∀ z : Int, -2147483648 ≤ z → z ≤ 2147483647 → Int32.ofInt z = Int32.ofInt x ||| Int32.ofInt y → X cs ss (pc + 1) ((0, z) :: st) lo S G) : X cs ss pc ((0, y) :: (0, x) :: st) lo S G := by
  obtain ⟨v, v1, v2, v3⟩ := i32ex (Int32.ofInt x ||| Int32.ofInt y)
  have k := k v v1 v2 v3.symm
  obtain ⟨p, e, z, m, below, meth, c, hx, hb, hr, hml, hown, hlk, hnm, hts, hK, rfl⟩ := hX
  intro H locs ls hR hz hL hl
  have k := k H locs ls hR hz hL hl
  simp only [ts, List.map_cons, tv0] at k
  rw [← v3] at k
  exact lv_ior hx hb (fd_dec hP hf) k
theorem r_ixor (hX : Cl E M as d mc ms Y X) (hP : Dec M.2.1 P) (hf : fd P pc = some (.ixor, 1)) (k : ∀ z : Int, -2147483648 ≤ z → z ≤ 2147483647 → Int32.ofInt z = Int32.ofInt x ^^^ Int32.ofInt y → X cs ss (pc + 1) ((0, z) :: st) lo S G) : X cs ss pc ((0, y) :: (0, x) :: st) lo S G := by
  obtain ⟨v, v1, v2, v3⟩ := i32ex (Int32.ofInt x ^^^ Int32.ofInt y)
  have k := k v v1 v2 v3.symm
  obtain ⟨p, e, z, m, below, meth, c, hx, hb, hr, hml, hown, hlk, hnm, hts, hK, rfl⟩ := hX
  intro H locs ls hR hz hL hl
  have k := k H locs ls hR hz hL hl
  simp only [ts, List.map_cons, tv0] at k
  rw [← v3] at k
  exact lv_ixor hx hb (fd_dec hP hf) k
theorem r_ishl (hX : Cl E M as d mc ms Y X) (hP : Dec M.2.1 P) (hf : fd P pc = some (.ishl, 1)) (k : ∀ z : Int, -2147483648 ≤ z → z ≤ 2147483647 → Int32.ofInt z = Int32.ofInt x <<< (Int32.ofInt y &&& 31) → X cs ss (pc + 1) ((0, z) :: st) lo S G) : X cs ss pc ((0, y) :: (0, x) :: st) lo S G := by
  obtain ⟨v, v1, v2, v3⟩ := i32ex (Int32.ofInt x <<< (Int32.ofInt y &&& 31))
  have k := k v v1 v2 v3.symm
  obtain ⟨p, e, z, m, below, meth, c, hx, hb, hr, hml, hown, hlk, hnm, hts, hK, rfl⟩ := hX
  intro H locs ls hR hz hL hl
  have k := k H locs ls hR hz hL hl
  simp only [ts, List.map_cons, tv0] at k
  rw [← v3] at k
  exact lv_ishl hx hb (fd_dec hP hf) k
theorem r_ishr (hX : Cl E M as d mc ms Y X) (hP : Dec M.2.1 P) (hf : fd P pc = some (.ishr, 1)) (k : ∀ z : Int, -2147483648 ≤ z → z ≤ 2147483647 → Int32.ofInt z = Int32.ofInt x >>> (Int32.ofInt y &&& 31) → X cs ss (pc + 1) ((0, z) :: st) lo S G) : X cs ss pc ((0, y) :: (0, x) :: st) lo S G := by
  obtain ⟨v, v1, v2, v3⟩ := i32ex (Int32.ofInt x >>> (Int32.ofInt y &&& 31))
  have k := k v v1 v2 v3.symm
  obtain ⟨p, e, z, m, below, meth, c, hx, hb, hr, hml, hown, hlk, hnm, hts, hK, rfl⟩ := hX
  intro H locs ls hR hz hL hl
  have k := k H locs ls hR hz hL hl
  simp only [ts, List.map_cons, tv0] at k
  rw [← v3] at k
  exact lv_ishr hx hb (fd_dec hP hf) k
theorem r_iushr (hX : Cl E M as d mc ms Y X) (hP : Dec M.2.1 P) (hf : fd P pc = some (.iushr, 1)) (k : ∀ z : Int, -2147483648 ≤ z → z ≤ 2147483647 → Int32.ofInt z = ((Int32.ofInt x).toUInt32 >>> ((Int32.ofInt y).toUInt32 &&& Int32.toUInt32 31)).toInt32 → X cs ss (pc + 1) ((0, z) :: st) lo S G) : X cs ss pc ((0, y) :: (0, x) :: st) lo S G := by
  obtain ⟨v, v1, v2, v3⟩ := i32ex (((Int32.ofInt x).toUInt32 >>> ((Int32.ofInt y).toUInt32 &&& Int32.toUInt32 31)).toInt32)
  have k := k v v1 v2 v3.symm
  obtain ⟨p, e, z, m, below, meth, c, hx, hb, hr, hml, hown, hlk, hnm, hts, hK, rfl⟩ := hX
  intro H locs ls hR hz hL hl
  have k := k H locs ls hR hz hL hl
  simp only [ts, List.map_cons, tv0] at k
  rw [← v3] at k
  exact lv_iushr hx hb (fd_dec hP hf) rfl k
theorem r_land (hX : Cl E M as d mc ms Y X) (hP : Dec M.2.1 P) (hf : fd P pc = some (.land, 1)) (k : ∀ z : Int, -9223372036854775808 ≤ z → z ≤ 9223372036854775807 → Int64.ofInt z = Int64.ofInt x &&& Int64.ofInt y → X cs ss (pc + 1) ((1, z) :: st) lo S G) : X cs ss pc ((1, y) :: (1, x) :: st) lo S G := by
  obtain ⟨v, v1, v2, v3⟩ := i64ex (Int64.ofInt x &&& Int64.ofInt y)
  have k := k v v1 v2 v3.symm
  obtain ⟨p, e, z, m, below, meth, c, hx, hb, hr, hml, hown, hlk, hnm, hts, hK, rfl⟩ := hX
  intro H locs ls hR hz hL hl
  have k := k H locs ls hR hz hL hl
  simp only [ts, List.map_cons, tv1] at k
  rw [← v3] at k
  exact lv_land hx hb (fd_dec hP hf) k
theorem r_lshl (hX : Cl E M as d mc ms Y X) (hP : Dec M.2.1 P) (hf : fd P pc = some (.lshl, 1)) (k : ∀ z : Int, -9223372036854775808 ≤ z → z ≤ 9223372036854775807 → Int64.ofInt z = Int64.ofInt x <<< ((Int32.ofInt y).toInt64 &&& 63) → X cs ss (pc + 1) ((1, z) :: st) lo S G) : X cs ss pc ((0, y) :: (1, x) :: st) lo S G := by
  obtain ⟨v, v1, v2, v3⟩ := i64ex (Int64.ofInt x <<< ((Int32.ofInt y).toInt64 &&& 63))
  have k := k v v1 v2 v3.symm
  obtain ⟨p, e, z, m, below, meth, c, hx, hb, hr, hml, hown, hlk, hnm, hts, hK, rfl⟩ := hX
  intro H locs ls hR hz hL hl
  have k := k H locs ls hR hz hL hl
  simp only [ts, List.map_cons, tv1] at k
  rw [← v3] at k
  exact lv_lshl hx hb (fd_dec hP hf) rfl k
theorem r_lshr (hX : Cl E M as d mc ms Y X) (hP : Dec M.2.1 P) (hf : fd P pc = some (.lshr, 1)) (k : ∀ z : Int, -9223372036854775808 ≤ z → z ≤ 9223372036854775807 → Int64.ofInt z = Int64.ofInt x >>> ((Int32.ofInt y).toInt64 &&& 63) → X cs ss (pc + 1) ((1, z) :: st) lo S G) : X cs ss pc ((0, y) :: (1, x) :: st) lo S G := by
  obtain ⟨v, v1, v2, v3⟩ := i64ex (Int64.ofInt x >>> ((Int32.ofInt y).toInt64 &&& 63))
  have k := k v v1 v2 v3.symm
  obtain ⟨p, e, z, m, below, meth, c, hx, hb, hr, hml, hown, hlk, hnm, hts, hK, rfl⟩ := hX
  intro H locs ls hR hz hL hl
  have k := k H locs ls hR hz hL hl
  simp only [ts, List.map_cons, tv1] at k
  rw [← v3] at k
  exact lv_lshr hx hb (fd_dec hP hf) rfl k
theorem r_lushr (hX : Cl E M as d mc ms Y X) (hP : Dec M.2.1 P) (hf : fd P pc = some (.lushr, 1)) (k : ∀ z : Int, -9223372036854775808 ≤ z → z ≤ 9223372036854775807 → Int64.ofInt z = ((Int64.ofInt x).toUInt64 >>> ((Int32.ofInt y).toInt64.toUInt64 &&& Int64.toUInt64 63)).toInt64 → X cs ss (pc + 1) ((1, z) :: st) lo S G) : X cs ss pc ((0, y) :: (1, x) :: st) lo S G := by
  obtain ⟨v, v1, v2, v3⟩ := i64ex (((Int64.ofInt x).toUInt64 >>> ((Int32.ofInt y).toInt64.toUInt64 &&& Int64.toUInt64 63)).toInt64)
  have k := k v v1 v2 v3.symm
  obtain ⟨p, e, z, m, below, meth, c, hx, hb, hr, hml, hown, hlk, hnm, hts, hK, rfl⟩ := hX
  intro H locs ls hR hz hL hl
  have k := k H locs ls hR hz hL hl
  simp only [ts, List.map_cons, tv1] at k
  rw [← v3] at k
  exact lv_lushr hx hb (fd_dec hP hf) rfl k
theorem r_i2b (hX : Cl E M as d mc ms Y X) (hP : Dec M.2.1 P) (hf : fd P pc = some (.i2b, 1)) (k : ∀ z : Int, -128 ≤ z → z ≤ 127 → Int32.ofInt z = (Int32.ofInt x).toInt8.toInt32 → X cs ss (pc + 1) ((0, z) :: st) lo S G) : X cs ss pc ((0, x) :: st) lo S G := by
  have h1 := Int8.minValue_le_toInt (Int32.ofInt x).toInt8
  have h2 := Int8.toInt_lt (Int32.ofInt x).toInt8
  have h3 : Int32.ofInt ((Int32.ofInt x).toInt8).toInt = (Int32.ofInt x).toInt8.toInt32 := by
    rw [← Int8.toInt_toInt32, Int32.ofInt_toInt]
  have k := k ((Int32.ofInt x).toInt8).toInt (by simpa using h1) (by omega) h3
  obtain ⟨p, e, z, m, below, meth, c, hx, hb, hr, hml, hown, hlk, hnm, hts, hK, rfl⟩ := hX
  intro H locs ls hR hz hL hl
  have k := k H locs ls hR hz hL hl
  simp only [ts, List.map_cons, tv0] at k
  exact lv_i2b hx hb (fd_dec hP hf) h3.symm k
theorem iand_bd {z : Int} (z1 : -2147483648 ≤ z) (z2 : z ≤ 2147483647) (h : Int32.ofInt z = Int32.ofInt x &&& Int32.ofInt y) (y1 : 0 ≤ y) (y2 : y ≤ 2147483647) : 0 ≤ z ∧ z ≤ y := by
  have hb : (Int32.ofInt z).toBitVec = (Int32.ofInt x).toBitVec &&& (Int32.ofInt y).toBitVec := by rw [h]; rfl
  have hle : (Int32.ofInt z).toBitVec.toNat ≤ (Int32.ofInt y).toBitVec.toNat := by rw [hb, BitVec.toNat_and]; exact Nat.and_le_right
  have ey : (Int32.ofInt y).toBitVec.toNat = y.toNat := by
    show (BitVec.ofInt 32 y).toNat = _
    rw [BitVec.toNat_ofInt]; omega
  have ez : (Int32.ofInt z).toBitVec.toNat = (z % 4294967296).toNat := by
    show (BitVec.ofInt 32 z).toNat = _
    rw [BitVec.toNat_ofInt]; omega
  omega
end RUA
