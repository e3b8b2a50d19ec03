/-! what holds at the law's entry -/
def ksC : Cond := Jvm.Cond.and given_1 narrow_1
def ksTm (i : Nat) : Term := .string "ShareLife$Reader" (ksI.getD i 0)
def ksW1 (i : Nat) : List Cond := [Cond.exactly (ksTm i) "java/lang/String", Cond.eq (.field (ksTm i) "java/lang/String" "coder" "B") (.int 0), Cond.arrayOf (.field (ksTm i) "java/lang/String" "value" "[B") .byte, Cond.eq (.length (.field (ksTm i) "java/lang/String" "value" "[B")) (.int (Int32.ofNat (ksL.getD i 0)))]
def ksW2 (i : Nat) : List Cond := (List.range (ksL.getD i 0)).map (fun j => Cond.eq (.elem (.field (ksTm i) "java/lang/String" "value" "[B") (.int (Int32.ofNat j))) (.int ((ksB.getD i []).getD j 0)))
theorem ks_f {ws : List Cond} (ps : List Nat) (h : decide (ws = ps.filterMap (fun i => (flatC ksC)[i]?)) = true) : ∀ w ∈ ws, w ∈ flatC ksC := by
  intro w hw
  rw [of_decide_eq_true h] at hw
  obtain ⟨i, -, hi⟩ := List.mem_filterMap.mp hw
  exact List.mem_of_getElem? hi
theorem ks_i0 : ∀ w ∈ ksW1 0 ++ ksW2 0, w ∈ flatC ksC := ks_f [14, 15, 16, 17, 18, 19, 20, 21] (by decide +kernel)
theorem ks_i1 : ∀ w ∈ ksW1 1 ++ ksW2 1, w ∈ flatC ksC := ks_f [22, 23, 24, 25, 26, 27, 28, 29] (by decide +kernel)
theorem ks_i2 : ∀ w ∈ ksW1 2 ++ ksW2 2, w ∈ flatC ksC := ks_f [31, 32, 33, 34, 35, 36, 37, 38] (by decide +kernel)
theorem ks_i3 : ∀ w ∈ ksW1 3 ++ ksW2 3, w ∈ flatC ksC := ks_f [41, 42, 43, 44, 45, 46, 47, 48] (by decide +kernel)
theorem ks_i4 : ∀ w ∈ ksW1 4 ++ ksW2 4, w ∈ flatC ksC := ks_f [52, 53, 54, 55, 56, 57, 58] (by decide +kernel)
theorem ks_i5 : ∀ w ∈ ksW1 5 ++ ksW2 5, w ∈ flatC ksC := ks_f [63, 64, 65, 66, 67, 68, 69, 70, 71] (by decide +kernel)
theorem ks_i6 : ∀ w ∈ ksW1 6 ++ ksW2 6, w ∈ flatC ksC := ks_f [77, 78, 79, 80, 81, 82, 83, 84, 85, 86, 87, 88] (by decide +kernel)
theorem ks_i7 : ∀ w ∈ ksW1 7 ++ ksW2 7, w ∈ flatC ksC := ks_f [95, 96, 97, 98, 99, 100, 101, 102] (by decide +kernel)
theorem ks_i8 : ∀ w ∈ ksW1 8 ++ ksW2 8, w ∈ flatC ksC := ks_f [110, 111, 112, 113, 114, 115, 116, 117, 118, 119] (by decide +kernel)
theorem ks_i9 : ∀ w ∈ ksW1 9 ++ ksW2 9, w ∈ flatC ksC := ks_f [128, 129, 130, 131, 132, 133, 134, 135, 136, 137, 138] (by decide +kernel)
theorem ks_i10 : ∀ w ∈ ksW1 10 ++ ksW2 10, w ∈ flatC ksC := ks_f [148, 149, 150, 151, 152, 153, 154, 155] (by decide +kernel)
theorem ks_i11 : ∀ w ∈ ksW1 11 ++ ksW2 11, w ∈ flatC ksC := ks_f [166, 167, 168, 169, 170, 171] (by decide +kernel)
theorem ks_i12 : ∀ w ∈ ksW1 12 ++ ksW2 12, w ∈ flatC ksC := ks_f [183, 184, 185, 186, 187, 188, 189, 190] (by decide +kernel)
theorem ks_i13 : ∀ w ∈ ksW1 13 ++ ksW2 13, w ∈ flatC ksC := ks_f [203, 204, 205, 206, 207, 208] (by decide +kernel)
theorem ks_i14 : ∀ w ∈ ksW1 14 ++ ksW2 14, w ∈ flatC ksC := ks_f [222, 223, 224, 225, 226, 227, 228, 229] (by decide +kernel)
theorem ks_i15 : ∀ w ∈ ksW1 15 ++ ksW2 15, w ∈ flatC ksC := ks_f [244, 245, 246, 247, 248, 249, 250] (by decide +kernel)
theorem ks_i16 : ∀ w ∈ ksW1 16 ++ ksW2 16, w ∈ flatC ksC := ks_f [266, 267, 268, 269, 270, 271, 272, 273, 274] (by decide +kernel)
theorem ks_i17 : ∀ w ∈ ksW1 17 ++ ksW2 17, w ∈ flatC ksC := ks_f [291, 292, 293, 294, 295, 296, 297, 298] (by decide +kernel)
theorem ks_i18 : ∀ w ∈ ksW1 18 ++ ksW2 18, w ∈ flatC ksC := ks_f [316, 317, 318, 319, 320, 321] (by decide +kernel)
theorem ks_i19 : ∀ w ∈ ksW1 19 ++ ksW2 19, w ∈ flatC ksC := ks_f [340, 341, 342, 343, 344, 345, 346] (by decide +kernel)
theorem ks_mem {i : Nat} (hi : i < 20) {w : Cond} (hw : w ∈ ksW1 i ++ ksW2 i) : w ∈ flatC ksC := by
  rcases (by omega : i = 0 ∨ i = 1 ∨ i = 2 ∨ i = 3 ∨ i = 4 ∨ i = 5 ∨ i = 6 ∨ i = 7 ∨ i = 8 ∨ i = 9 ∨ i = 10 ∨ i = 11 ∨ i = 12 ∨ i = 13 ∨ i = 14 ∨ i = 15 ∨ i = 16 ∨ i = 17 ∨ i = 18 ∨ i = 19) with rfl | rfl | rfl | rfl | rfl | rfl | rfl | rfl | rfl | rfl | rfl | rfl | rfl | rfl | rfl | rfl | rfl | rfl | rfl | rfl
  · exact ks_i0 w hw
  · exact ks_i1 w hw
  · exact ks_i2 w hw
  · exact ks_i3 w hw
  · exact ks_i4 w hw
  · exact ks_i5 w hw
  · exact ks_i6 w hw
  · exact ks_i7 w hw
  · exact ks_i8 w hw
  · exact ks_i9 w hw
  · exact ks_i10 w hw
  · exact ks_i11 w hw
  · exact ks_i12 w hw
  · exact ks_i13 w hw
  · exact ks_i14 w hw
  · exact ks_i15 w hw
  · exact ks_i16 w hw
  · exact ks_i17 w hw
  · exact ks_i18 w hw
  · exact ks_i19 w hw
def ksN : List (Nat × Nat × Nat) := [(0, 1, 30), (0, 2, 39), (0, 3, 49), (0, 4, 59), (0, 5, 72), (0, 6, 89), (0, 7, 103), (0, 8, 120), (0, 9, 139), (0, 10, 156), (0, 11, 172), (0, 12, 191), (0, 13, 209), (0, 14, 230), (0, 15, 251), (0, 16, 275), (0, 17, 299), (0, 18, 322), (0, 19, 347), (1, 2, 40), (1, 3, 50), (1, 4, 60), (1, 5, 73), (1, 6, 90), (1, 7, 104), (1, 8, 121), (1, 9, 140), (1, 10, 157), (1, 11, 173), (1, 12, 192), (1, 13, 210), (1, 14, 231), (1, 15, 252), (1, 16, 276), (1, 17, 300), (1, 18, 323), (1, 19, 348), (2, 3, 51), (2, 4, 61), (2, 5, 74), (2, 6, 91), (2, 7, 105), (2, 8, 122), (2, 9, 141), (2, 10, 158), (2, 11, 174), (2, 12, 193), (2, 13, 211), (2, 14, 232), (2, 15, 253), (2, 16, 277), (2, 17, 301), (2, 18, 324), (2, 19, 349), (3, 4, 62), (3, 5, 75), (3, 6, 92), (3, 7, 106), (3, 8, 123), (3, 9, 142), (3, 10, 159), (3, 11, 175), (3, 12, 194), (3, 13, 212), (3, 14, 233), (3, 15, 254), (3, 16, 278), (3, 17, 302), (3, 18, 325), (3, 19, 350), (4, 5, 76), (4, 6, 93), (4, 7, 107), (4, 8, 124), (4, 9, 143), (4, 10, 160), (4, 11, 176), (4, 12, 195), (4, 13, 213), (4, 14, 234), (4, 15, 255), (4, 16, 279), (4, 17, 303), (4, 18, 326), (4, 19, 351), (5, 6, 94), (5, 7, 108), (5, 8, 125), (5, 9, 144), (5, 10, 161), (5, 11, 177), (5, 12, 196), (5, 13, 214), (5, 14, 235), (5, 15, 256), (5, 16, 280), (5, 17, 304), (5, 18, 327), (5, 19, 352), (6, 7, 109), (6, 8, 126), (6, 9, 145), (6, 10, 162), (6, 11, 178), (6, 12, 197), (6, 13, 215), (6, 14, 236), (6, 15, 257), (6, 16, 281), (6, 17, 305), (6, 18, 328), (6, 19, 353), (7, 8, 127), (7, 9, 146), (7, 10, 163), (7, 11, 179), (7, 12, 198), (7, 13, 216), (7, 14, 237), (7, 15, 258), (7, 16, 282), (7, 17, 306), (7, 18, 329), (7, 19, 354), (8, 9, 147), (8, 10, 164), (8, 11, 180), (8, 12, 199), (8, 13, 217), (8, 14, 238), (8, 15, 259), (8, 16, 283), (8, 17, 307), (8, 18, 330), (8, 19, 355), (9, 10, 165), (9, 11, 181), (9, 12, 200), (9, 13, 218), (9, 14, 239), (9, 15, 260), (9, 16, 284), (9, 17, 308), (9, 18, 331), (9, 19, 356), (10, 11, 182), (10, 12, 201), (10, 13, 219), (10, 14, 240), (10, 15, 261), (10, 16, 285), (10, 17, 309), (10, 18, 332), (10, 19, 357), (11, 12, 202), (11, 13, 220), (11, 14, 241), (11, 15, 262), (11, 16, 286), (11, 17, 310), (11, 18, 333), (11, 19, 358), (12, 13, 221), (12, 14, 242), (12, 15, 263), (12, 16, 287), (12, 17, 311), (12, 18, 334), (12, 19, 359), (13, 14, 243), (13, 15, 264), (13, 16, 288), (13, 17, 312), (13, 18, 335), (13, 19, 360), (14, 15, 265), (14, 16, 289), (14, 17, 313), (14, 18, 336), (14, 19, 361), (15, 16, 290), (15, 17, 314), (15, 18, 337), (15, 19, 362), (16, 17, 315), (16, 18, 338), (16, 19, 363), (17, 18, 339), (17, 19, 364), (18, 19, 365)]
theorem ks_n1 : (ksN.all fun q => decide ((flatC ksC)[q.2.2]? = some (Cond.not (Cond.eq (ksTm q.1) (ksTm q.2.1))))) = true := by decide +kernel
theorem ks_n2 : ((List.range 20).all fun i => (List.range 20).all fun j => decide (i = j) || ksN.any (fun q => (q.1 == i && q.2.1 == j) || (q.1 == j && q.2.1 == i))) = true := by decide +kernel
theorem ks_ne {i j : Nat} (hi : i < 20) (hj : j < 20) (h : i ≠ j) : Cond.not (Cond.eq (ksTm i) (ksTm j)) ∈ flatC ksC ∨ Cond.not (Cond.eq (ksTm j) (ksTm i)) ∈ flatC ksC := by
  have h1 := List.all_eq_true.mp (List.all_eq_true.mp ks_n2 i (List.mem_range.mpr hi)) j (List.mem_range.mpr hj)
  rw [Bool.or_eq_true, decide_eq_true_eq] at h1
  rcases h1 with q | q
  · exact absurd q h
  · obtain ⟨r, hr, hq⟩ := List.any_eq_true.mp q
    have h2 := List.mem_of_getElem? (of_decide_eq_true (List.all_eq_true.mp ks_n1 r hr))
    simp only [Bool.or_eq_true, Bool.and_eq_true, beq_iff_eq] at hq
    rcases hq with ⟨q1, q2⟩ | ⟨q1, q2⟩
    · rw [q1, q2] at h2
      exact Or.inl h2
    · rw [q1, q2] at h2
      exact Or.inr h2
theorem ks_str : ∀ i : Nat, i < 20 → Cond.stringRef "ShareLife$Reader" (ksI.getD i 0) (ksT.getD i "") ∈ lw_tbl := by
  intro i hi
  rcases (by omega : i = 0 ∨ i = 1 ∨ i = 2 ∨ i = 3 ∨ i = 4 ∨ i = 5 ∨ i = 6 ∨ i = 7 ∨ i = 8 ∨ i = 9 ∨ i = 10 ∨ i = 11 ∨ i = 12 ∨ i = 13 ∨ i = 14 ∨ i = 15 ∨ i = 16 ∨ i = 17 ∨ i = 18 ∨ i = 19) with rfl | rfl | rfl | rfl | rfl | rfl | rfl | rfl | rfl | rfl | rfl | rfl | rfl | rfl | rfl | rfl | rfl | rfl | rfl | rfl
  · exact (sg4 _ (List.mem_of_getElem? (i := 47) rfl))
  · exact (sg4 _ (List.mem_of_getElem? (i := 120) rfl))
  · exact (sg4 _ (List.mem_of_getElem? (i := 121) rfl))
  · exact (sg4 _ (List.mem_of_getElem? (i := 122) rfl))
  · exact (sg4 _ (List.mem_of_getElem? (i := 123) rfl))
  · exact (sg4 _ (List.mem_of_getElem? (i := 124) rfl))
  · exact (sg4 _ (List.mem_of_getElem? (i := 125) rfl))
  · exact (sg4 _ (List.mem_of_getElem? (i := 126) rfl))
  · exact (sg4 _ (List.mem_of_getElem? (i := 127) rfl))
  · exact (sg4 _ (List.mem_of_getElem? (i := 128) rfl))
  · exact (sg4 _ (List.mem_of_getElem? (i := 129) rfl))
  · exact (sg4 _ (List.mem_of_getElem? (i := 150) rfl))
  · exact (sg4 _ (List.mem_of_getElem? (i := 163) rfl))
  · exact (sg4 _ (List.mem_of_getElem? (i := 164) rfl))
  · exact (sg4 _ (List.mem_of_getElem? (i := 165) rfl))
  · exact (sg4 _ (List.mem_of_getElem? (i := 171) rfl))
  · exact (sg4 _ (List.mem_of_getElem? (i := 192) rfl))
  · exact (sg4 _ (List.mem_of_getElem? (i := 193) rfl))
  · exact (sg4 _ (List.mem_of_getElem? (i := 198) rfl))
  · exact (sg4 _ (List.mem_of_getElem? (i := 199) rfl))
theorem k_cls {s : State} {b : Nat} (hts : ∀ w ∈ lw_tbl, w.before #[Value.ref b] s = true) : ∀ ci : Nat, ∃ q : ClassId × (Nat → Nat), ∀ r, vwCl[ci]? = some r → u_Kn s r.1 r.2.1 r.2.2 q.1 q.2 := by
  have aux : ∀ (ci N : Nat), Cf ci N → (∀ r, vwCl[ci]? = some r → Cond.instantiable r.1 N ∈ lw_tbl) → ∃ q : ClassId × (Nat → Nat), ∀ r, vwCl[ci]? = some r → u_Kn s r.1 r.2.1 r.2.2 q.1 q.2 := by
    intro ci N hc hi
    obtain ⟨C, T, ty, h1, h2, h3, h4⟩ := hc
    obtain ⟨cC, iS, hk⟩ := u_known (C := C) (T := T) (N := N) (n := N) hts (fun w hw => (List.mem_filter.mp (h2 w hw)).1) (hts _ (hi _ h1))
    refine ⟨(cC, iS), fun r hr => ?_⟩
    cases h1.symm.trans hr
    exact hk
  intro ci
  match ci with
  | 0 => exact aux 0 3 cf_Jx4a65c (fun r hr => by cases hr; exact (sg1 _ (List.mem_of_getElem? (i := 126) rfl)))
  | 1 => exact aux 1 18 cf_X0 (fun r hr => by cases hr; exact (sg1 _ (List.mem_of_getElem? (i := 45) rfl)))
  | 2 => exact aux 2 9 cf_X1 (fun r hr => by cases hr; exact (sg3 _ (List.mem_of_getElem? (i := 17) rfl)))
  | 3 => exact aux 3 7 cf_X2 (fun r hr => by cases hr; exact (sg4 _ (List.mem_of_getElem? (i := 201) rfl)))
  | 4 => exact aux 4 17 cf_X3 (fun r hr => by cases hr; exact (sg6 _ (List.mem_of_getElem? (i := 37) rfl)))
  | 5 => exact aux 5 6 cf_X4 (fun r hr => by cases hr; exact (sg1 _ (List.mem_of_getElem? (i := 237) rfl)))
  | 6 => exact aux 6 6 cf_X5 (fun r hr => by cases hr; exact (sg5 _ (List.mem_of_getElem? (i := 26) rfl)))
  | 7 => exact aux 7 17 cf_X6 (fun r hr => by cases hr; exact (sg2 _ (List.mem_of_getElem? (i := 25) rfl)))
  | 8 => exact aux 8 17 cf_X7 (fun r hr => by cases hr; exact (sg2 _ (List.mem_of_getElem? (i := 86) rfl)))
  | 9 => exact aux 9 20 cf_X8 (fun r hr => by cases hr; exact (sg1 _ (List.mem_of_getElem? (i := 36) rfl)))
  | 10 => exact aux 10 16 cf_X9 (fun r hr => by cases hr; exact (sg3 _ (List.mem_of_getElem? (i := 161) rfl)))
  | 11 => exact aux 11 20 cf_X11 (fun r hr => by cases hr; exact (sg1 _ (List.mem_of_getElem? (i := 28) rfl)))
  | 12 => exact aux 12 138 cf12 (fun r hr => by cases hr; exact (sg7 _ (List.mem_of_getElem? (i := 125) rfl)))
  | n + 13 => exact ⟨(0, fun _ => 0), fun r hr => by cases hr⟩
theorem k_arr {s : State} {b : Nat} (hts : ∀ w ∈ lw_tbl, w.before #[Value.ref b] s = true) : ∃ f : Nat → ClassId, (∀ t : Nat, ArrOfT s (f t) (aty t)) ∧ ∀ t : Nat, t < 6 → s.vm.findClass ("[" ++ (aty t).toString) = some (f t) := by
  have ac : ∀ ty : FieldType, Cond.arrayClass ty ∈ lw_tbl → ∃ c : ClassId, ArrOfT s c ty ∧ s.vm.findClass ("[" ++ ty.toString) = some c := by
    intro ty hw
    obtain ⟨c, k, comp, h1, h2, h3⟩ := Cond.arrayClass_spec (hts _ hw)
    exact ⟨c, fun N z => ⟨(fun k h => by cases h), k, h2, comp, h3⟩, h1⟩
  obtain ⟨c0, a0, n0⟩ := ac .int (sg1 _ (List.mem_of_getElem? (i := 124) rfl))
  obtain ⟨c1, a1, n1⟩ := ac .long (sg1 _ (List.mem_of_getElem? (i := 123) rfl))
  obtain ⟨c2, a2, n2⟩ := ac .byte (sg4 _ (List.mem_of_getElem? (i := 232) rfl))
  obtain ⟨c3, a3, n3⟩ := ac .boolean (sg2 _ (List.mem_of_getElem? (i := 147) rfl))
  obtain ⟨comp4, c4, k4, -, -, g2, g3, n4⟩ := arrayOverA_spec (hts _ (sg1 _ (List.mem_of_getElem? (i := 43) rfl)))
  obtain ⟨comp5, c5, k5, -, -, h2, h3, n5⟩ := Cond.arrayOver_spec (hts _ (sg3 _ (List.mem_of_getElem? (i := 119) rfl)))
  refine ⟨fun t => match t with | 0 => c0 | 1 => c1 | 2 => c2 | 3 => c3 | 4 => c4 | _ => c5, fun t => ?_, fun t ht => ?_⟩
  · match t with
    | 0 => exact a0
    | 1 => exact a1
    | 2 => exact a2
    | 3 => exact a3
    | 4 => exact fun N z => ⟨(fun k h => by cases h), k4, g2, comp4, g3⟩
    | n + 5 => exact fun N z => ⟨(fun k h => by cases h), k5, h2, comp5, h3⟩
  · match t, ht with
    | 0, _ => exact n0
    | 1, _ => exact n1
    | 2, _ => exact n2
    | 3, _ => exact n3
    | 4, _ => exact n4
    | 5, _ => exact n5
    | n + 6, h => omega
theorem kw_start {p : Program} {s : State} {m : MethodId} {meth : Method} {c : Code} {b L : Nat} {xs : Nat → Int32} (l : Launch) (hts : ∀ w ∈ lw_tbl, w.before #[Value.ref b] s = true) (hg : ksC.before #[Value.ref b] s = true) : ∃ E : En, E.1 = l ∧ E.2.2.2.1 = s.heap.size ∧ E.2.2.2.2.1 = s.heap ∧ Kw E s := by
  have hs := flat_of_before _ hg
  have hA : ∀ a : Nat, a < s.heap.size → ¬ s.heap.size ≤ a := fun a h => Nat.not_le.mpr h
  obtain ⟨D, hD⟩ := Classical.axiomOfChoice (k_cls hts)
  obtain ⟨f, hf1, hf2⟩ := k_arr hts
  obtain ⟨adK, adV, hS, hR⟩ := vk_Sof (N := 20) (tm := ksTm) (len := ksL) (byt := ksB) (A := fun q => s.heap.size ≤ q) (args := #[Value.ref b]) (s := s) (fun i hi => by rcases (by omega : i = 0 ∨ i = 1 ∨ i = 2 ∨ i = 3 ∨ i = 4 ∨ i = 5 ∨ i = 6 ∨ i = 7 ∨ i = 8 ∨ i = 9 ∨ i = 10 ∨ i = 11 ∨ i = 12 ∨ i = 13 ∨ i = 14 ∨ i = 15 ∨ i = 16 ∨ i = 17 ∨ i = 18 ∨ i = 19) with rfl | rfl | rfl | rfl | rfl | rfl | rfl | rfl | rfl | rfl | rfl | rfl | rfl | rfl | rfl | rfl | rfl | rfl | rfl | rfl <;> decide) (fun i hi => hs _ (ks_mem hi (by simp [ksW1]))) (fun i hi => hs _ (ks_mem hi (by simp [ksW1]))) (fun i hi => hs _ (ks_mem hi (by simp [ksW1]))) (fun i hi => hs _ (ks_mem hi (by simp [ksW1])))
    (fun i hi j hj => hs _ (ks_mem hi (List.mem_append_right _ (List.mem_map.mpr ⟨j, List.mem_range.mpr hj, rfl⟩)))) (fun i j hi hj h => (ks_ne hi hj h).imp (hs _) (hs _)) hA
  obtain ⟨t0, ht0, hT0⟩ := va_Tof (N := 0) (f := fun _ => .null) (A := fun q => s.heap.size ≤ q) (tm := .static "java/util/ArrayList" "DEFAULTCAPACITY_EMPTY_ELEMENTDATA" "[Ljava/lang/Object;") (ty := .object "java/lang/Object") (args := #[Value.ref b]) (s := s) (by decide) (hs _ (List.mem_of_getElem? (l := flatC ksC) (i := 5) (by decide +kernel))) (va_eqt (z := 0) (hs _ (List.mem_of_getElem? (l := flatC ksC) (i := 7) (by decide +kernel)))) (fun j hj => absurd hj (Nat.not_lt_zero j)) hA
  obtain ⟨mi, hmi⟩ := va_Mi.of (args := #[Value.ref b]) (s := s) (C := "[Ljava/lang/Object;") (hs _ (List.mem_of_getElem? (l := flatC ksC) (i := 13) (by decide +kernel)))
  let adf : Int → Int := fun x => if x = 0 then (t0 : Int) else if x = -300 then (mi : Int) else if -200 < x then (adK (-100 - x).toNat : Int) else (adV (-200 - x).toNat : Int)
  refine ⟨(l, ((fun c => (D c).1), (fun c => (D c).2)), f, s.heap.size, s.heap, adf), rfl, rfl, rfl, ⟨fun c q hq => hD c q hq, fun k q hq => by cases hq⟩, hf1, hf2, ⟨fun w hw => ?_, va_AO.of (hts _ (sg3 _ (List.mem_of_getElem? (i := 119) rfl))), ?_⟩, ?_, ?_, ?_, ?_, ?_, ?_, ?_, ?_⟩
  · have h := List.mem_filter.mp hw
    refine va_Nw.of ?_ (hts w h.1)
    have h2 := h.2
    revert h2
    cases w <;> intro h2 <;> first | rfl | cases h2
  · exact Jvm.Stand.arrayOver_alikeB (Vm.Alike.refl _) (hts _ (sg1 _ (List.mem_of_getElem? (i := 43) rfl)))
  · exact va_Zref (hts _ (sg1 _ (List.mem_of_getElem? (i := 138) rfl))) (hts _ (sg1 _ (List.mem_of_getElem? (i := 6) rfl))) ht0 hA
  · exact hT0
  · exact Int.natCast_nonneg t0
  · exact va_Zof (hts _ (sg4 _ (List.mem_of_getElem? (i := 61) rfl))) (hts _ (sg1 _ (List.mem_of_getElem? (i := 18) rfl))) (va_eqt (hs _ (List.mem_of_getElem? (l := flatC ksC) (i := 8) (by decide +kernel)))) hA
  · exact va_Zqof (hts _ (sg4 _ (List.mem_of_getElem? (i := 77) rfl))) (hts _ (sg1 _ (List.mem_of_getElem? (i := 20) rfl))) (hs _ (List.mem_of_getElem? (l := flatC ksC) (i := 9) (by decide +kernel))) hA
  · exact hmi
  · intro i hi
    have e : ksK (l, ((fun c => (D c).1), (fun c => (D c).2)), f, s.heap.size, s.heap, adf) i = adK i := by
      show (adf (-100 - (i : Int))).toNat = adK i
      show (if (-100 - (i : Int)) = 0 then (t0 : Int) else if (-100 - (i : Int)) = -300 then (mi : Int) else if -200 < (-100 - (i : Int)) then (adK (-100 - (-100 - (i : Int))).toNat : Int) else (adV (-200 - (-100 - (i : Int))).toNat : Int)).toNat = adK i
      rw [if_neg (by first | decide | omega), if_neg (by first | decide | omega), if_pos (by first | decide | omega), show (-100 - (-100 - (i : Int))).toNat = i from by omega]
      rfl
    rw [e]
    exact vk_R.of (hts _ (ks_str i hi)) (hR i hi)
  · have e1 : ∀ i : Nat, i < 20 → ksK (l, ((fun c => (D c).1), (fun c => (D c).2)), f, s.heap.size, s.heap, adf) i = adK i := fun i hi => by
      show (if (-100 - (i : Int)) = 0 then (t0 : Int) else if (-100 - (i : Int)) = -300 then (mi : Int) else if -200 < (-100 - (i : Int)) then (adK (-100 - (-100 - (i : Int))).toNat : Int) else (adV (-200 - (-100 - (i : Int))).toNat : Int)).toNat = adK i
      rw [if_neg (by first | decide | omega), if_neg (by first | decide | omega), if_pos (by first | decide | omega), show (-100 - (-100 - (i : Int))).toNat = i from by omega]
      rfl
    have e2 : ∀ i : Nat, i < 20 → ksV (l, ((fun c => (D c).1), (fun c => (D c).2)), f, s.heap.size, s.heap, adf) i = adV i := fun i hi => by
      show (if (-200 - (i : Int)) = 0 then (t0 : Int) else if (-200 - (i : Int)) = -300 then (mi : Int) else if -200 < (-200 - (i : Int)) then (adK (-100 - (-200 - (i : Int))).toNat : Int) else (adV (-200 - (-200 - (i : Int))).toNat : Int)).toNat = adV i
      rw [if_neg (by first | decide | omega), if_neg (by first | decide | omega), if_neg (by first | decide | omega), show (-200 - (-200 - (i : Int))).toNat = i from by omega]
      rfl
    refine ⟨fun i hi => ?_, fun i j hi hj e => ?_⟩
    · rw [e1 i hi, e2 i hi]
      exact hS.1 i hi
    · rw [e1 i hi, e1 j hj] at e
      exact hS.2 i j hi hj e
