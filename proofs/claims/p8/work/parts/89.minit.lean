def Dn (t : List (Int × Int)) (L m : Int) (S : Sg) (G : Gh) : Prop := ∀ q ∈ t, S (G L m q.1) = q.2
theorem dn_gr {t : List (Int × Int)} {L m : Int} {S S' : Sg} {G G' : Gh} {nl : List Int} {ws : List (Int × Int)} (d : Dn t L m S G) (g : Gr nl ws S G S' G') (hS : S m = L) (hL : L ≠ 0) (hw : ws = []) (c : t.all (fun q => q.2 != 0) = true) : Dn t L m S' G' := by
  intro q hq
  have h := List.all_eq_true.mp c q hq
  simp only [bne_iff_ne, ne_eq] at h
  subst hw
  rw [gr_at g hS hL rfl]
  exact gr_lab g (d q hq) h
theorem dn_up {t : List (Int × Int)} {L m j x K : Int} {S : Sg} {G : Gh} (d : Dn t L m S G) (hx : S x = K) (c : t.all (fun q => q.1 != j) = true) : Dn ((j, K) :: t) L m S (up G L m j x) := by
  intro q hq
  rcases List.mem_cons.mp hq with w | w
  · rw [w, up_self]
    exact hx
  · have h := List.all_eq_true.mp c q w
    simp only [bne_iff_ne, ne_eq] at h
    rw [up_ne (fun r => h r.2.2)]
    exact d q w
theorem dn_upI {t : List (Int × Int)} {L m j x : Int} {S : Sg} {G : Gh} (d : Dn t L m S G) (c : t.all (fun q => q.1 != j) = true) : Dn t L m S (up G L m j x) := by
  intro q w
  have h := List.all_eq_true.mp c q w
  simp only [bne_iff_ne, ne_eq] at h
  rw [up_ne (fun r => h r.2.2)]
  exact d q w
def mNL : List Int := [2, 3, 4, 5, 6, 7, 8, 9, 10, 11, 12, 13, 14, 15, 16, 17, 18, 19, 20, 21, 22, 23, 24, 25, 26, 27, 28, 29, 30, 31, 32, 33, 34, 35, 36, 37, 38, 39, 40, 41, 42, 43, 44, 45, 46, 47, 48, 49, 50, 51, 52, 53, 54, 55, 56, 57, 58, 59, 60, 61, 62, 63, 64, 65, 66, 67, 68, 69, 70, 71, 72, 73, 74, 75, 76, 77, 78, 79, 80, 81, 82, 83, 84, 85, 86, 87, 88, 89, 90, 91, 92]
def mWS : List (Int × Int) := [(186, 2), (186, 5), (186, 14), (186, 15), (186, 16), (186, 17), (186, 18), (186, 19), (186, 20), (186, 21), (186, 22), (186, 23), (186, 24), (186, 25), (186, 26), (186, 27), (186, 28), (186, 29), (186, 30), (186, 31), (186, 32), (186, 33), (186, 34), (186, 35), (186, 36), (186, 37), (186, 38), (186, 39), (186, 40), (186, 41), (186, 42), (186, 43), (186, 44), (186, 45), (186, 46), (186, 47), (186, 48), (186, 49), (186, 50), (186, 51), (186, 52), (186, 53), (186, 54), (186, 55), (186, 56), (186, 57), (186, 58), (186, 59), (186, 60), (186, 61), (186, 62), (186, 63), (186, 64), (186, 65), (186, 66), (186, 67), (186, 68), (186, 69), (186, 70), (186, 71), (186, 72), (186, 73), (186, 75), (186, 78), (186, 79), (186, 93), (186, 94), (186, 95), (186, 96), (186, 97), (186, 98), (186, 99), (186, 100), (186, 101), (186, 102), (186, 103), (186, 104), (186, 105), (186, 106), (186, 107), (186, 108), (186, 109), (186, 110), (186, 111), (186, 112), (186, 113), (186, 114), (186, 115), (186, 116), (186, 117), (186, 118), (186, 119), (186, 121), (186, 125), (186, 126), (186, 127)]
def mTB : List (Int × Int) := [(127, 92), (126, 91), (125, 90), (121, 89), (119, 88), (118, 87), (117, 86), (116, 85), (115, 84), (114, 83), (113, 82), (112, 81), (111, 80), (110, 79), (109, 78), (108, 77), (107, 76), (106, 75), (105, 74), (104, 73), (103, 72), (102, 71), (101, 70), (100, 69), (99, 68), (98, 67), (97, 66), (96, 65), (95, 64), (94, 63), (93, 62), (75, 61), (72, 60), (71, 59), (70, 58), (69, 57), (68, 56), (67, 55), (66, 54), (65, 53), (64, 52), (63, 51), (62, 50), (61, 49), (60, 48), (59, 47), (58, 46), (57, 45), (56, 44), (55, 43), (54, 42), (53, 41), (52, 40), (51, 39), (50, 38), (49, 37), (48, 36), (47, 35), (46, 34), (45, 33), (44, 32), (43, 31), (42, 30), (41, 29), (40, 28), (39, 27), (38, 26), (37, 25), (36, 24), (35, 23), (34, 22), (33, 21), (32, 20), (31, 19), (30, 18), (29, 17), (28, 16), (27, 15), (26, 14), (25, 13), (24, 12), (23, 11), (22, 10), (21, 9), (20, 8), (19, 7), (18, 6), (17, 5), (16, 4), (15, 3), (14, 2)]
theorem fl_X12_10_186 : Fl RX12 10 186 2 (0, 0, 40000) := ⟨12, 138, fs_186, RX12, TX12, rfl, rfl, by decide, rfl, by decide, rfl, cf12, (tbg sg7 133 rfl rfl)⟩
theorem fp_X12_10_186 : Fp RX12 10 186 2 (0, 0, 40000) := ⟨fl_X12_10_186, 12, 138, fs_186, RX12, TX12, .int, rfl, rfl, rfl, by decide +kernel, fun E S x h => ⟨rfl, rfl⟩⟩
theorem fl_X12_14_186 : Fl RX12 14 186 5 (1, (-9223372036854775808), 9223372036854775807) := ⟨12, 138, fs_186, RX12, TX12, rfl, rfl, by decide, rfl, by decide, rfl, cf12, (tbg sg7 136 rfl rfl)⟩
theorem fp_X12_14_186 : Fp RX12 14 186 5 (1, (-9223372036854775808), 9223372036854775807) := ⟨fl_X12_14_186, 12, 138, fs_186, RX12, TX12, .long, rfl, rfl, rfl, by decide +kernel, fun E S x h => ⟨rfl, rfl⟩⟩
theorem fl_X12_18_186 : Fl RX12 18 186 14 (3, 2, 0) := ⟨12, 138, fs_186, RX12, TX12, rfl, rfl, by decide, rfl, by decide, rfl, cf12, (tbg sg7 145 rfl rfl)⟩
theorem fq_X12_18_186 : Fpf RX12 18 186 14 (3, 2, 0) := ⟨fl_X12_18_186, 12, 138, fs_186, RX12, TX12, (.array (.int)), rfl, rfl, rfl, rfl, by decide +kernel, fun E S x h => reffit (fun _ => rfl) ⟨rfl, fun _ => rfl⟩ (by decide) x⟩
theorem fl_X12_22_186 : Fl RX12 22 186 15 (3, 3, 0) := ⟨12, 138, fs_186, RX12, TX12, rfl, rfl, by decide, rfl, by decide, rfl, cf12, (tbg sg7 146 rfl rfl)⟩
theorem fq_X12_22_186 : Fpf RX12 22 186 15 (3, 3, 0) := ⟨fl_X12_22_186, 12, 138, fs_186, RX12, TX12, (.array (.int)), rfl, rfl, rfl, rfl, by decide +kernel, fun E S x h => reffit (fun _ => rfl) ⟨rfl, fun _ => rfl⟩ (by decide) x⟩
theorem fl_X12_25_186 : Fl RX12 25 186 16 (3, 4, 0) := ⟨12, 138, fs_186, RX12, TX12, rfl, rfl, by decide, rfl, by decide, rfl, cf12, (tbg sg7 147 rfl rfl)⟩
theorem fq_X12_25_186 : Fpf RX12 25 186 16 (3, 4, 0) := ⟨fl_X12_25_186, 12, 138, fs_186, RX12, TX12, (.array (.int)), rfl, rfl, rfl, rfl, by decide +kernel, fun E S x h => reffit (fun _ => rfl) ⟨rfl, fun _ => rfl⟩ (by decide) x⟩
theorem fl_X12_28_186 : Fl RX12 28 186 17 (3, 5, 0) := ⟨12, 138, fs_186, RX12, TX12, rfl, rfl, by decide, rfl, by decide, rfl, cf12, (tbg sg7 148 rfl rfl)⟩
theorem fq_X12_28_186 : Fpf RX12 28 186 17 (3, 5, 0) := ⟨fl_X12_28_186, 12, 138, fs_186, RX12, TX12, (.array (.int)), rfl, rfl, rfl, rfl, by decide +kernel, fun E S x h => reffit (fun _ => rfl) ⟨rfl, fun _ => rfl⟩ (by decide) x⟩
theorem fl_X12_31_186 : Fl RX12 31 186 18 (3, 6, 0) := ⟨12, 138, fs_186, RX12, TX12, rfl, rfl, by decide, rfl, by decide, rfl, cf12, (tbg sg7 149 rfl rfl)⟩
theorem fq_X12_31_186 : Fpf RX12 31 186 18 (3, 6, 0) := ⟨fl_X12_31_186, 12, 138, fs_186, RX12, TX12, (.array (.int)), rfl, rfl, rfl, rfl, by decide +kernel, fun E S x h => reffit (fun _ => rfl) ⟨rfl, fun _ => rfl⟩ (by decide) x⟩
theorem fl_X12_34_186 : Fl RX12 34 186 19 (3, 7, 0) := ⟨12, 138, fs_186, RX12, TX12, rfl, rfl, by decide, rfl, by decide, rfl, cf12, (tbg sg7 150 rfl rfl)⟩
theorem fq_X12_34_186 : Fpf RX12 34 186 19 (3, 7, 0) := ⟨fl_X12_34_186, 12, 138, fs_186, RX12, TX12, (.array (.int)), rfl, rfl, rfl, rfl, by decide +kernel, fun E S x h => reffit (fun _ => rfl) ⟨rfl, fun _ => rfl⟩ (by decide) x⟩
theorem fl_X12_37_186 : Fl RX12 37 186 20 (3, 8, 0) := ⟨12, 138, fs_186, RX12, TX12, rfl, rfl, by decide, rfl, by decide, rfl, cf12, (tbg sg7 151 rfl rfl)⟩
theorem fq_X12_37_186 : Fpf RX12 37 186 20 (3, 8, 0) := ⟨fl_X12_37_186, 12, 138, fs_186, RX12, TX12, (.array (.int)), rfl, rfl, rfl, rfl, by decide +kernel, fun E S x h => reffit (fun _ => rfl) ⟨rfl, fun _ => rfl⟩ (by decide) x⟩
theorem fl_X12_40_186 : Fl RX12 40 186 21 (3, 9, 0) := ⟨12, 138, fs_186, RX12, TX12, rfl, rfl, by decide, rfl, by decide, rfl, cf12, (tbg sg7 152 rfl rfl)⟩
theorem fq_X12_40_186 : Fpf RX12 40 186 21 (3, 9, 0) := ⟨fl_X12_40_186, 12, 138, fs_186, RX12, TX12, (.array (.int)), rfl, rfl, rfl, rfl, by decide +kernel, fun E S x h => reffit (fun _ => rfl) ⟨rfl, fun _ => rfl⟩ (by decide) x⟩
theorem fl_X12_43_186 : Fl RX12 43 186 22 (3, 10, 0) := ⟨12, 138, fs_186, RX12, TX12, rfl, rfl, by decide, rfl, by decide, rfl, cf12, (tbg sg7 153 rfl rfl)⟩
theorem fq_X12_43_186 : Fpf RX12 43 186 22 (3, 10, 0) := ⟨fl_X12_43_186, 12, 138, fs_186, RX12, TX12, (.array (.int)), rfl, rfl, rfl, rfl, by decide +kernel, fun E S x h => reffit (fun _ => rfl) ⟨rfl, fun _ => rfl⟩ (by decide) x⟩
theorem fl_X12_46_186 : Fl RX12 46 186 23 (3, 11, 0) := ⟨12, 138, fs_186, RX12, TX12, rfl, rfl, by decide, rfl, by decide, rfl, cf12, (tbg sg7 154 rfl rfl)⟩
theorem fq_X12_46_186 : Fpf RX12 46 186 23 (3, 11, 0) := ⟨fl_X12_46_186, 12, 138, fs_186, RX12, TX12, (.array (.int)), rfl, rfl, rfl, rfl, by decide +kernel, fun E S x h => reffit (fun _ => rfl) ⟨rfl, fun _ => rfl⟩ (by decide) x⟩
theorem fl_X12_49_186 : Fl RX12 49 186 24 (3, 12, 0) := ⟨12, 138, fs_186, RX12, TX12, rfl, rfl, by decide, rfl, by decide, rfl, cf12, (tbg sg7 155 rfl rfl)⟩
theorem fq_X12_49_186 : Fpf RX12 49 186 24 (3, 12, 0) := ⟨fl_X12_49_186, 12, 138, fs_186, RX12, TX12, (.array (.int)), rfl, rfl, rfl, rfl, by decide +kernel, fun E S x h => reffit (fun _ => rfl) ⟨rfl, fun _ => rfl⟩ (by decide) x⟩
theorem fl_X12_52_186 : Fl RX12 52 186 25 (3, 13, 0) := ⟨12, 138, fs_186, RX12, TX12, rfl, rfl, by decide, rfl, by decide, rfl, cf12, (tbg sg7 156 rfl rfl)⟩
theorem fq_X12_52_186 : Fpf RX12 52 186 25 (3, 13, 0) := ⟨fl_X12_52_186, 12, 138, fs_186, RX12, TX12, (.array (.int)), rfl, rfl, rfl, rfl, by decide +kernel, fun E S x h => reffit (fun _ => rfl) ⟨rfl, fun _ => rfl⟩ (by decide) x⟩
theorem fl_X12_55_186 : Fl RX12 55 186 26 (3, 14, 0) := ⟨12, 138, fs_186, RX12, TX12, rfl, rfl, by decide, rfl, by decide, rfl, cf12, (tbg sg7 157 rfl rfl)⟩
theorem fq_X12_55_186 : Fpf RX12 55 186 26 (3, 14, 0) := ⟨fl_X12_55_186, 12, 138, fs_186, RX12, TX12, (.array (.int)), rfl, rfl, rfl, rfl, by decide +kernel, fun E S x h => reffit (fun _ => rfl) ⟨rfl, fun _ => rfl⟩ (by decide) x⟩
theorem fl_X12_58_186 : Fl RX12 58 186 27 (3, 15, 0) := ⟨12, 138, fs_186, RX12, TX12, rfl, rfl, by decide, rfl, by decide, rfl, cf12, (tbg sg7 158 rfl rfl)⟩
theorem fq_X12_58_186 : Fpf RX12 58 186 27 (3, 15, 0) := ⟨fl_X12_58_186, 12, 138, fs_186, RX12, TX12, (.array (.int)), rfl, rfl, rfl, rfl, by decide +kernel, fun E S x h => reffit (fun _ => rfl) ⟨rfl, fun _ => rfl⟩ (by decide) x⟩
theorem fl_X12_61_186 : Fl RX12 61 186 28 (3, 16, 0) := ⟨12, 138, fs_186, RX12, TX12, rfl, rfl, by decide, rfl, by decide, rfl, cf12, (tbg sg7 159 rfl rfl)⟩
theorem fq_X12_61_186 : Fpf RX12 61 186 28 (3, 16, 0) := ⟨fl_X12_61_186, 12, 138, fs_186, RX12, TX12, (.array (.int)), rfl, rfl, rfl, rfl, by decide +kernel, fun E S x h => reffit (fun _ => rfl) ⟨rfl, fun _ => rfl⟩ (by decide) x⟩
theorem fl_X12_64_186 : Fl RX12 64 186 29 (3, 17, 0) := ⟨12, 138, fs_186, RX12, TX12, rfl, rfl, by decide, rfl, by decide, rfl, cf12, (tbg sg7 160 rfl rfl)⟩
theorem fq_X12_64_186 : Fpf RX12 64 186 29 (3, 17, 0) := ⟨fl_X12_64_186, 12, 138, fs_186, RX12, TX12, (.array (.int)), rfl, rfl, rfl, rfl, by decide +kernel, fun E S x h => reffit (fun _ => rfl) ⟨rfl, fun _ => rfl⟩ (by decide) x⟩
theorem fl_X12_67_186 : Fl RX12 67 186 30 (3, 18, 0) := ⟨12, 138, fs_186, RX12, TX12, rfl, rfl, by decide, rfl, by decide, rfl, cf12, (tbg sg7 161 rfl rfl)⟩
theorem fq_X12_67_186 : Fpf RX12 67 186 30 (3, 18, 0) := ⟨fl_X12_67_186, 12, 138, fs_186, RX12, TX12, (.array (.int)), rfl, rfl, rfl, rfl, by decide +kernel, fun E S x h => reffit (fun _ => rfl) ⟨rfl, fun _ => rfl⟩ (by decide) x⟩
theorem fl_X12_70_186 : Fl RX12 70 186 31 (3, 19, 0) := ⟨12, 138, fs_186, RX12, TX12, rfl, rfl, by decide, rfl, by decide, rfl, cf12, (tbg sg7 162 rfl rfl)⟩
theorem fq_X12_70_186 : Fpf RX12 70 186 31 (3, 19, 0) := ⟨fl_X12_70_186, 12, 138, fs_186, RX12, TX12, (.array (.boolean)), rfl, rfl, rfl, rfl, by decide +kernel, fun E S x h => reffit (fun _ => rfl) ⟨rfl, fun _ => rfl⟩ (by decide) x⟩
theorem fl_X12_74_186 : Fl RX12 74 186 32 (3, 20, 0) := ⟨12, 138, fs_186, RX12, TX12, rfl, rfl, by decide, rfl, by decide, rfl, cf12, (tbg sg7 163 rfl rfl)⟩
theorem fq_X12_74_186 : Fpf RX12 74 186 32 (3, 20, 0) := ⟨fl_X12_74_186, 12, 138, fs_186, RX12, TX12, (.array (.int)), rfl, rfl, rfl, rfl, by decide +kernel, fun E S x h => reffit (fun _ => rfl) ⟨rfl, fun _ => rfl⟩ (by decide) x⟩
theorem fl_X12_77_186 : Fl RX12 77 186 33 (3, 21, 0) := ⟨12, 138, fs_186, RX12, TX12, rfl, rfl, by decide, rfl, by decide, rfl, cf12, (tbg sg7 164 rfl rfl)⟩
theorem fq_X12_77_186 : Fpf RX12 77 186 33 (3, 21, 0) := ⟨fl_X12_77_186, 12, 138, fs_186, RX12, TX12, (.array (.int)), rfl, rfl, rfl, rfl, by decide +kernel, fun E S x h => reffit (fun _ => rfl) ⟨rfl, fun _ => rfl⟩ (by decide) x⟩
theorem fl_X12_80_186 : Fl RX12 80 186 34 (3, 22, 0) := ⟨12, 138, fs_186, RX12, TX12, rfl, rfl, by decide, rfl, by decide, rfl, cf12, (tbg sg7 165 rfl rfl)⟩
theorem fq_X12_80_186 : Fpf RX12 80 186 34 (3, 22, 0) := ⟨fl_X12_80_186, 12, 138, fs_186, RX12, TX12, (.array (.int)), rfl, rfl, rfl, rfl, by decide +kernel, fun E S x h => reffit (fun _ => rfl) ⟨rfl, fun _ => rfl⟩ (by decide) x⟩
theorem fl_X12_83_186 : Fl RX12 83 186 35 (3, 23, 0) := ⟨12, 138, fs_186, RX12, TX12, rfl, rfl, by decide, rfl, by decide, rfl, cf12, (tbg sg7 166 rfl rfl)⟩
theorem fq_X12_83_186 : Fpf RX12 83 186 35 (3, 23, 0) := ⟨fl_X12_83_186, 12, 138, fs_186, RX12, TX12, (.array (.int)), rfl, rfl, rfl, rfl, by decide +kernel, fun E S x h => reffit (fun _ => rfl) ⟨rfl, fun _ => rfl⟩ (by decide) x⟩
theorem fl_X12_86_186 : Fl RX12 86 186 36 (3, 24, 0) := ⟨12, 138, fs_186, RX12, TX12, rfl, rfl, by decide, rfl, by decide, rfl, cf12, (tbg sg7 167 rfl rfl)⟩
theorem fq_X12_86_186 : Fpf RX12 86 186 36 (3, 24, 0) := ⟨fl_X12_86_186, 12, 138, fs_186, RX12, TX12, (.array (.int)), rfl, rfl, rfl, rfl, by decide +kernel, fun E S x h => reffit (fun _ => rfl) ⟨rfl, fun _ => rfl⟩ (by decide) x⟩
theorem fl_X12_89_186 : Fl RX12 89 186 37 (3, 25, 0) := ⟨12, 138, fs_186, RX12, TX12, rfl, rfl, by decide, rfl, by decide, rfl, cf12, (tbg sg7 168 rfl rfl)⟩
theorem fq_X12_89_186 : Fpf RX12 89 186 37 (3, 25, 0) := ⟨fl_X12_89_186, 12, 138, fs_186, RX12, TX12, (.array (.int)), rfl, rfl, rfl, rfl, by decide +kernel, fun E S x h => reffit (fun _ => rfl) ⟨rfl, fun _ => rfl⟩ (by decide) x⟩
theorem fl_X12_92_186 : Fl RX12 92 186 38 (3, 26, 0) := ⟨12, 138, fs_186, RX12, TX12, rfl, rfl, by decide, rfl, by decide, rfl, cf12, (tbg sg7 169 rfl rfl)⟩
theorem fq_X12_92_186 : Fpf RX12 92 186 38 (3, 26, 0) := ⟨fl_X12_92_186, 12, 138, fs_186, RX12, TX12, (.array (.int)), rfl, rfl, rfl, rfl, by decide +kernel, fun E S x h => reffit (fun _ => rfl) ⟨rfl, fun _ => rfl⟩ (by decide) x⟩
theorem fl_X12_95_186 : Fl RX12 95 186 39 (3, 27, 0) := ⟨12, 138, fs_186, RX12, TX12, rfl, rfl, by decide, rfl, by decide, rfl, cf12, (tbg sg7 170 rfl rfl)⟩
theorem fq_X12_95_186 : Fpf RX12 95 186 39 (3, 27, 0) := ⟨fl_X12_95_186, 12, 138, fs_186, RX12, TX12, (.array (.int)), rfl, rfl, rfl, rfl, by decide +kernel, fun E S x h => reffit (fun _ => rfl) ⟨rfl, fun _ => rfl⟩ (by decide) x⟩
theorem fl_X12_98_186 : Fl RX12 98 186 40 (3, 28, 0) := ⟨12, 138, fs_186, RX12, TX12, rfl, rfl, by decide, rfl, by decide, rfl, cf12, (tbg sg7 171 rfl rfl)⟩
theorem fq_X12_98_186 : Fpf RX12 98 186 40 (3, 28, 0) := ⟨fl_X12_98_186, 12, 138, fs_186, RX12, TX12, (.array (.int)), rfl, rfl, rfl, rfl, by decide +kernel, fun E S x h => reffit (fun _ => rfl) ⟨rfl, fun _ => rfl⟩ (by decide) x⟩
theorem fl_X12_101_186 : Fl RX12 101 186 41 (3, 29, 0) := ⟨12, 138, fs_186, RX12, TX12, rfl, rfl, by decide, rfl, by decide, rfl, cf12, (tbg sg7 172 rfl rfl)⟩
theorem fq_X12_101_186 : Fpf RX12 101 186 41 (3, 29, 0) := ⟨fl_X12_101_186, 12, 138, fs_186, RX12, TX12, (.array (.int)), rfl, rfl, rfl, rfl, by decide +kernel, fun E S x h => reffit (fun _ => rfl) ⟨rfl, fun _ => rfl⟩ (by decide) x⟩
theorem fl_X12_104_186 : Fl RX12 104 186 42 (3, 30, 0) := ⟨12, 138, fs_186, RX12, TX12, rfl, rfl, by decide, rfl, by decide, rfl, cf12, (tbg sg7 173 rfl rfl)⟩
theorem fq_X12_104_186 : Fpf RX12 104 186 42 (3, 30, 0) := ⟨fl_X12_104_186, 12, 138, fs_186, RX12, TX12, (.array (.int)), rfl, rfl, rfl, rfl, by decide +kernel, fun E S x h => reffit (fun _ => rfl) ⟨rfl, fun _ => rfl⟩ (by decide) x⟩
theorem fl_X12_107_186 : Fl RX12 107 186 43 (3, 31, 0) := ⟨12, 138, fs_186, RX12, TX12, rfl, rfl, by decide, rfl, by decide, rfl, cf12, (tbg sg7 174 rfl rfl)⟩
theorem fq_X12_107_186 : Fpf RX12 107 186 43 (3, 31, 0) := ⟨fl_X12_107_186, 12, 138, fs_186, RX12, TX12, (.array (.int)), rfl, rfl, rfl, rfl, by decide +kernel, fun E S x h => reffit (fun _ => rfl) ⟨rfl, fun _ => rfl⟩ (by decide) x⟩
theorem fl_X12_110_186 : Fl RX12 110 186 44 (3, 32, 0) := ⟨12, 138, fs_186, RX12, TX12, rfl, rfl, by decide, rfl, by decide, rfl, cf12, (tbg sg7 175 rfl rfl)⟩
theorem fq_X12_110_186 : Fpf RX12 110 186 44 (3, 32, 0) := ⟨fl_X12_110_186, 12, 138, fs_186, RX12, TX12, (.array (.int)), rfl, rfl, rfl, rfl, by decide +kernel, fun E S x h => reffit (fun _ => rfl) ⟨rfl, fun _ => rfl⟩ (by decide) x⟩
theorem fl_X12_113_186 : Fl RX12 113 186 45 (3, 33, 0) := ⟨12, 138, fs_186, RX12, TX12, rfl, rfl, by decide, rfl, by decide, rfl, cf12, (tbg sg7 176 rfl rfl)⟩
theorem fq_X12_113_186 : Fpf RX12 113 186 45 (3, 33, 0) := ⟨fl_X12_113_186, 12, 138, fs_186, RX12, TX12, (.array (.int)), rfl, rfl, rfl, rfl, by decide +kernel, fun E S x h => reffit (fun _ => rfl) ⟨rfl, fun _ => rfl⟩ (by decide) x⟩
theorem fl_X12_116_186 : Fl RX12 116 186 46 (3, 34, 0) := ⟨12, 138, fs_186, RX12, TX12, rfl, rfl, by decide, rfl, by decide, rfl, cf12, (tbg sg7 177 rfl rfl)⟩
theorem fq_X12_116_186 : Fpf RX12 116 186 46 (3, 34, 0) := ⟨fl_X12_116_186, 12, 138, fs_186, RX12, TX12, (.array (.int)), rfl, rfl, rfl, rfl, by decide +kernel, fun E S x h => reffit (fun _ => rfl) ⟨rfl, fun _ => rfl⟩ (by decide) x⟩
theorem fl_X12_119_186 : Fl RX12 119 186 47 (3, 35, 0) := ⟨12, 138, fs_186, RX12, TX12, rfl, rfl, by decide, rfl, by decide, rfl, cf12, (tbg sg7 178 rfl rfl)⟩
theorem fq_X12_119_186 : Fpf RX12 119 186 47 (3, 35, 0) := ⟨fl_X12_119_186, 12, 138, fs_186, RX12, TX12, (.array (.int)), rfl, rfl, rfl, rfl, by decide +kernel, fun E S x h => reffit (fun _ => rfl) ⟨rfl, fun _ => rfl⟩ (by decide) x⟩
theorem fl_X12_122_186 : Fl RX12 122 186 48 (3, 36, 0) := ⟨12, 138, fs_186, RX12, TX12, rfl, rfl, by decide, rfl, by decide, rfl, cf12, (tbg sg7 179 rfl rfl)⟩
theorem fq_X12_122_186 : Fpf RX12 122 186 48 (3, 36, 0) := ⟨fl_X12_122_186, 12, 138, fs_186, RX12, TX12, (.array (.int)), rfl, rfl, rfl, rfl, by decide +kernel, fun E S x h => reffit (fun _ => rfl) ⟨rfl, fun _ => rfl⟩ (by decide) x⟩
theorem fl_X12_125_186 : Fl RX12 125 186 49 (3, 37, 0) := ⟨12, 138, fs_186, RX12, TX12, rfl, rfl, by decide, rfl, by decide, rfl, cf12, (tbg sg7 180 rfl rfl)⟩
theorem fq_X12_125_186 : Fpf RX12 125 186 49 (3, 37, 0) := ⟨fl_X12_125_186, 12, 138, fs_186, RX12, TX12, (.array (.int)), rfl, rfl, rfl, rfl, by decide +kernel, fun E S x h => reffit (fun _ => rfl) ⟨rfl, fun _ => rfl⟩ (by decide) x⟩
theorem fl_X12_128_186 : Fl RX12 128 186 50 (3, 38, 0) := ⟨12, 138, fs_186, RX12, TX12, rfl, rfl, by decide, rfl, by decide, rfl, cf12, (tbg sg7 181 rfl rfl)⟩
theorem fq_X12_128_186 : Fpf RX12 128 186 50 (3, 38, 0) := ⟨fl_X12_128_186, 12, 138, fs_186, RX12, TX12, (.array (.int)), rfl, rfl, rfl, rfl, by decide +kernel, fun E S x h => reffit (fun _ => rfl) ⟨rfl, fun _ => rfl⟩ (by decide) x⟩
theorem fl_X12_131_186 : Fl RX12 131 186 51 (3, 39, 0) := ⟨12, 138, fs_186, RX12, TX12, rfl, rfl, by decide, rfl, by decide, rfl, cf12, (tbg sg7 182 rfl rfl)⟩
theorem fq_X12_131_186 : Fpf RX12 131 186 51 (3, 39, 0) := ⟨fl_X12_131_186, 12, 138, fs_186, RX12, TX12, (.array (.int)), rfl, rfl, rfl, rfl, by decide +kernel, fun E S x h => reffit (fun _ => rfl) ⟨rfl, fun _ => rfl⟩ (by decide) x⟩
theorem fl_X12_134_186 : Fl RX12 134 186 52 (3, 40, 0) := ⟨12, 138, fs_186, RX12, TX12, rfl, rfl, by decide, rfl, by decide, rfl, cf12, (tbg sg7 183 rfl rfl)⟩
theorem fq_X12_134_186 : Fpf RX12 134 186 52 (3, 40, 0) := ⟨fl_X12_134_186, 12, 138, fs_186, RX12, TX12, (.array (.int)), rfl, rfl, rfl, rfl, by decide +kernel, fun E S x h => reffit (fun _ => rfl) ⟨rfl, fun _ => rfl⟩ (by decide) x⟩
theorem fl_X12_137_186 : Fl RX12 137 186 53 (3, 41, 0) := ⟨12, 138, fs_186, RX12, TX12, rfl, rfl, by decide, rfl, by decide, rfl, cf12, (tbg sg7 184 rfl rfl)⟩
theorem fq_X12_137_186 : Fpf RX12 137 186 53 (3, 41, 0) := ⟨fl_X12_137_186, 12, 138, fs_186, RX12, TX12, (.array (.int)), rfl, rfl, rfl, rfl, by decide +kernel, fun E S x h => reffit (fun _ => rfl) ⟨rfl, fun _ => rfl⟩ (by decide) x⟩
theorem fl_X12_140_186 : Fl RX12 140 186 54 (3, 42, 0) := ⟨12, 138, fs_186, RX12, TX12, rfl, rfl, by decide, rfl, by decide, rfl, cf12, (tbg sg7 185 rfl rfl)⟩
theorem fq_X12_140_186 : Fpf RX12 140 186 54 (3, 42, 0) := ⟨fl_X12_140_186, 12, 138, fs_186, RX12, TX12, (.array (.int)), rfl, rfl, rfl, rfl, by decide +kernel, fun E S x h => reffit (fun _ => rfl) ⟨rfl, fun _ => rfl⟩ (by decide) x⟩
theorem fl_X12_143_186 : Fl RX12 143 186 55 (3, 43, 0) := ⟨12, 138, fs_186, RX12, TX12, rfl, rfl, by decide, rfl, by decide, rfl, cf12, (tbg sg7 186 rfl rfl)⟩
theorem fq_X12_143_186 : Fpf RX12 143 186 55 (3, 43, 0) := ⟨fl_X12_143_186, 12, 138, fs_186, RX12, TX12, (.array (.int)), rfl, rfl, rfl, rfl, by decide +kernel, fun E S x h => reffit (fun _ => rfl) ⟨rfl, fun _ => rfl⟩ (by decide) x⟩
theorem fl_X12_146_186 : Fl RX12 146 186 56 (3, 44, 0) := ⟨12, 138, fs_186, RX12, TX12, rfl, rfl, by decide, rfl, by decide, rfl, cf12, (tbg sg7 187 rfl rfl)⟩
theorem fq_X12_146_186 : Fpf RX12 146 186 56 (3, 44, 0) := ⟨fl_X12_146_186, 12, 138, fs_186, RX12, TX12, (.array (.int)), rfl, rfl, rfl, rfl, by decide +kernel, fun E S x h => reffit (fun _ => rfl) ⟨rfl, fun _ => rfl⟩ (by decide) x⟩
theorem fl_X12_149_186 : Fl RX12 149 186 57 (3, 45, 0) := ⟨12, 138, fs_186, RX12, TX12, rfl, rfl, by decide, rfl, by decide, rfl, cf12, (tbg sg7 188 rfl rfl)⟩
theorem fq_X12_149_186 : Fpf RX12 149 186 57 (3, 45, 0) := ⟨fl_X12_149_186, 12, 138, fs_186, RX12, TX12, (.array (.int)), rfl, rfl, rfl, rfl, by decide +kernel, fun E S x h => reffit (fun _ => rfl) ⟨rfl, fun _ => rfl⟩ (by decide) x⟩
theorem fl_X12_152_186 : Fl RX12 152 186 58 (3, 46, 0) := ⟨12, 138, fs_186, RX12, TX12, rfl, rfl, by decide, rfl, by decide, rfl, cf12, (tbg sg7 189 rfl rfl)⟩
theorem fq_X12_152_186 : Fpf RX12 152 186 58 (3, 46, 0) := ⟨fl_X12_152_186, 12, 138, fs_186, RX12, TX12, (.array (.int)), rfl, rfl, rfl, rfl, by decide +kernel, fun E S x h => reffit (fun _ => rfl) ⟨rfl, fun _ => rfl⟩ (by decide) x⟩
theorem fl_X12_155_186 : Fl RX12 155 186 59 (3, 47, 0) := ⟨12, 138, fs_186, RX12, TX12, rfl, rfl, by decide, rfl, by decide, rfl, cf12, (tbg sg7 190 rfl rfl)⟩
theorem fq_X12_155_186 : Fpf RX12 155 186 59 (3, 47, 0) := ⟨fl_X12_155_186, 12, 138, fs_186, RX12, TX12, (.array (.int)), rfl, rfl, rfl, rfl, by decide +kernel, fun E S x h => reffit (fun _ => rfl) ⟨rfl, fun _ => rfl⟩ (by decide) x⟩
theorem fl_X12_158_186 : Fl RX12 158 186 60 (3, 48, 0) := ⟨12, 138, fs_186, RX12, TX12, rfl, rfl, by decide, rfl, by decide, rfl, cf12, (tbg sg7 191 rfl rfl)⟩
theorem fq_X12_158_186 : Fpf RX12 158 186 60 (3, 48, 0) := ⟨fl_X12_158_186, 12, 138, fs_186, RX12, TX12, (.array (.int)), rfl, rfl, rfl, rfl, by decide +kernel, fun E S x h => reffit (fun _ => rfl) ⟨rfl, fun _ => rfl⟩ (by decide) x⟩
theorem fl_X12_161_186 : Fl RX12 161 186 61 (3, 49, 0) := ⟨12, 138, fs_186, RX12, TX12, rfl, rfl, by decide, rfl, by decide, rfl, cf12, (tbg sg7 192 rfl rfl)⟩
theorem fq_X12_161_186 : Fpf RX12 161 186 61 (3, 49, 0) := ⟨fl_X12_161_186, 12, 138, fs_186, RX12, TX12, (.array (.int)), rfl, rfl, rfl, rfl, by decide +kernel, fun E S x h => reffit (fun _ => rfl) ⟨rfl, fun _ => rfl⟩ (by decide) x⟩
theorem fl_X12_164_186 : Fl RX12 164 186 62 (3, 50, 0) := ⟨12, 138, fs_186, RX12, TX12, rfl, rfl, by decide, rfl, by decide, rfl, cf12, (tbg sg7 193 rfl rfl)⟩
theorem fq_X12_164_186 : Fpf RX12 164 186 62 (3, 50, 0) := ⟨fl_X12_164_186, 12, 138, fs_186, RX12, TX12, (.array (.int)), rfl, rfl, rfl, rfl, by decide +kernel, fun E S x h => reffit (fun _ => rfl) ⟨rfl, fun _ => rfl⟩ (by decide) x⟩
theorem fl_X12_167_186 : Fl RX12 167 186 63 (3, 51, 0) := ⟨12, 138, fs_186, RX12, TX12, rfl, rfl, by decide, rfl, by decide, rfl, cf12, (tbg sg7 194 rfl rfl)⟩
theorem fq_X12_167_186 : Fpf RX12 167 186 63 (3, 51, 0) := ⟨fl_X12_167_186, 12, 138, fs_186, RX12, TX12, (.array (.int)), rfl, rfl, rfl, rfl, by decide +kernel, fun E S x h => reffit (fun _ => rfl) ⟨rfl, fun _ => rfl⟩ (by decide) x⟩
theorem fl_X12_170_186 : Fl RX12 170 186 64 (3, 52, 0) := ⟨12, 138, fs_186, RX12, TX12, rfl, rfl, by decide, rfl, by decide, rfl, cf12, (tbg sg7 195 rfl rfl)⟩
theorem fq_X12_170_186 : Fpf RX12 170 186 64 (3, 52, 0) := ⟨fl_X12_170_186, 12, 138, fs_186, RX12, TX12, (.array (.int)), rfl, rfl, rfl, rfl, by decide +kernel, fun E S x h => reffit (fun _ => rfl) ⟨rfl, fun _ => rfl⟩ (by decide) x⟩
theorem fl_X12_173_186 : Fl RX12 173 186 65 (3, 53, 0) := ⟨12, 138, fs_186, RX12, TX12, rfl, rfl, by decide, rfl, by decide, rfl, cf12, (tbg sg7 196 rfl rfl)⟩
theorem fq_X12_173_186 : Fpf RX12 173 186 65 (3, 53, 0) := ⟨fl_X12_173_186, 12, 138, fs_186, RX12, TX12, (.array (.int)), rfl, rfl, rfl, rfl, by decide +kernel, fun E S x h => reffit (fun _ => rfl) ⟨rfl, fun _ => rfl⟩ (by decide) x⟩
theorem fl_X12_176_186 : Fl RX12 176 186 66 (3, 54, 0) := ⟨12, 138, fs_186, RX12, TX12, rfl, rfl, by decide, rfl, by decide, rfl, cf12, (tbg sg7 197 rfl rfl)⟩
theorem fq_X12_176_186 : Fpf RX12 176 186 66 (3, 54, 0) := ⟨fl_X12_176_186, 12, 138, fs_186, RX12, TX12, (.array (.int)), rfl, rfl, rfl, rfl, by decide +kernel, fun E S x h => reffit (fun _ => rfl) ⟨rfl, fun _ => rfl⟩ (by decide) x⟩
theorem fl_X12_179_186 : Fl RX12 179 186 67 (3, 55, 0) := ⟨12, 138, fs_186, RX12, TX12, rfl, rfl, by decide, rfl, by decide, rfl, cf12, (tbg sg7 198 rfl rfl)⟩
theorem fq_X12_179_186 : Fpf RX12 179 186 67 (3, 55, 0) := ⟨fl_X12_179_186, 12, 138, fs_186, RX12, TX12, (.array (.int)), rfl, rfl, rfl, rfl, by decide +kernel, fun E S x h => reffit (fun _ => rfl) ⟨rfl, fun _ => rfl⟩ (by decide) x⟩
theorem fl_X12_182_186 : Fl RX12 182 186 68 (3, 56, 0) := ⟨12, 138, fs_186, RX12, TX12, rfl, rfl, by decide, rfl, by decide, rfl, cf12, (tbg sg7 199 rfl rfl)⟩
theorem fq_X12_182_186 : Fpf RX12 182 186 68 (3, 56, 0) := ⟨fl_X12_182_186, 12, 138, fs_186, RX12, TX12, (.array (.int)), rfl, rfl, rfl, rfl, by decide +kernel, fun E S x h => reffit (fun _ => rfl) ⟨rfl, fun _ => rfl⟩ (by decide) x⟩
theorem fl_X12_185_186 : Fl RX12 185 186 69 (3, 57, 0) := ⟨12, 138, fs_186, RX12, TX12, rfl, rfl, by decide, rfl, by decide, rfl, cf12, (tbg sg7 200 rfl rfl)⟩
theorem fq_X12_185_186 : Fpf RX12 185 186 69 (3, 57, 0) := ⟨fl_X12_185_186, 12, 138, fs_186, RX12, TX12, (.array (.int)), rfl, rfl, rfl, rfl, by decide +kernel, fun E S x h => reffit (fun _ => rfl) ⟨rfl, fun _ => rfl⟩ (by decide) x⟩
theorem fl_X12_188_186 : Fl RX12 188 186 70 (3, 58, 0) := ⟨12, 138, fs_186, RX12, TX12, rfl, rfl, by decide, rfl, by decide, rfl, cf12, (tbg sg7 201 rfl rfl)⟩
theorem fq_X12_188_186 : Fpf RX12 188 186 70 (3, 58, 0) := ⟨fl_X12_188_186, 12, 138, fs_186, RX12, TX12, (.array (.int)), rfl, rfl, rfl, rfl, by decide +kernel, fun E S x h => reffit (fun _ => rfl) ⟨rfl, fun _ => rfl⟩ (by decide) x⟩
theorem fl_X12_191_186 : Fl RX12 191 186 71 (3, 59, 0) := ⟨12, 138, fs_186, RX12, TX12, rfl, rfl, by decide, rfl, by decide, rfl, cf12, (tbg sg7 202 rfl rfl)⟩
theorem fq_X12_191_186 : Fpf RX12 191 186 71 (3, 59, 0) := ⟨fl_X12_191_186, 12, 138, fs_186, RX12, TX12, (.array (.int)), rfl, rfl, rfl, rfl, by decide +kernel, fun E S x h => reffit (fun _ => rfl) ⟨rfl, fun _ => rfl⟩ (by decide) x⟩
theorem fl_X12_194_186 : Fl RX12 194 186 72 (3, 60, 0) := ⟨12, 138, fs_186, RX12, TX12, rfl, rfl, by decide, rfl, by decide, rfl, cf12, (tbg sg7 203 rfl rfl)⟩
theorem fq_X12_194_186 : Fpf RX12 194 186 72 (3, 60, 0) := ⟨fl_X12_194_186, 12, 138, fs_186, RX12, TX12, (.array (.boolean)), rfl, rfl, rfl, rfl, by decide +kernel, fun E S x h => reffit (fun _ => rfl) ⟨rfl, fun _ => rfl⟩ (by decide) x⟩
theorem fl_X12_197_186 : Fl RX12 197 186 73 (0, (-2147483648), 2147483647) := ⟨12, 138, fs_186, RX12, TX12, rfl, rfl, by decide, rfl, by decide, rfl, cf12, (tbg sg7 204 rfl rfl)⟩
theorem fp_X12_197_186 : Fp RX12 197 186 73 (0, (-2147483648), 2147483647) := ⟨fl_X12_197_186, 12, 138, fs_186, RX12, TX12, .int, rfl, rfl, rfl, by decide +kernel, fun E S x h => ⟨rfl, rfl⟩⟩
theorem fl_X12_200_186 : Fl RX12 200 186 75 (3, 61, 0) := ⟨12, 138, fs_186, RX12, TX12, rfl, rfl, by decide, rfl, by decide, rfl, cf12, (tbg sg7 206 rfl rfl)⟩
theorem fq_X12_200_186 : Fpf RX12 200 186 75 (3, 61, 0) := ⟨fl_X12_200_186, 12, 138, fs_186, RX12, TX12, (.array (.byte)), rfl, rfl, rfl, rfl, by decide +kernel, fun E S x h => reffit (fun _ => rfl) ⟨rfl, fun _ => rfl⟩ (by decide) x⟩
theorem fl_X12_204_186 : Fl RX12 204 186 78 (0, (-2147483648), 2147483647) := ⟨12, 138, fs_186, RX12, TX12, rfl, rfl, by decide, rfl, by decide, rfl, cf12, (tbg sg7 209 rfl rfl)⟩
theorem fp_X12_204_186 : Fp RX12 204 186 78 (0, (-2147483648), 2147483647) := ⟨fl_X12_204_186, 12, 138, fs_186, RX12, TX12, .int, rfl, rfl, rfl, by decide +kernel, fun E S x h => ⟨rfl, rfl⟩⟩
theorem fl_X12_207_186 : Fl RX12 207 186 79 (0, (-2147483648), 2147483647) := ⟨12, 138, fs_186, RX12, TX12, rfl, rfl, by decide, rfl, by decide, rfl, cf12, (tbg sg7 210 rfl rfl)⟩
theorem fp_X12_207_186 : Fp RX12 207 186 79 (0, (-2147483648), 2147483647) := ⟨fl_X12_207_186, 12, 138, fs_186, RX12, TX12, .int, rfl, rfl, rfl, by decide +kernel, fun E S x h => ⟨rfl, rfl⟩⟩
theorem fl_X12_210_186 : Fl RX12 210 186 93 (3, 62, 0) := ⟨12, 138, fs_186, RX12, TX12, rfl, rfl, by decide, rfl, by decide, rfl, cf12, (tbg sg7 224 rfl rfl)⟩
theorem fq_X12_210_186 : Fpf RX12 210 186 93 (3, 62, 0) := ⟨fl_X12_210_186, 12, 138, fs_186, RX12, TX12, (.array (.long)), rfl, rfl, rfl, rfl, by decide +kernel, fun E S x h => reffit (fun _ => rfl) ⟨rfl, fun _ => rfl⟩ (by decide) x⟩
theorem fl_X12_214_186 : Fl RX12 214 186 94 (3, 63, 0) := ⟨12, 138, fs_186, RX12, TX12, rfl, rfl, by decide, rfl, by decide, rfl, cf12, (tbg sg7 225 rfl rfl)⟩
theorem fq_X12_214_186 : Fpf RX12 214 186 94 (3, 63, 0) := ⟨fl_X12_214_186, 12, 138, fs_186, RX12, TX12, (.array (.int)), rfl, rfl, rfl, rfl, by decide +kernel, fun E S x h => reffit (fun _ => rfl) ⟨rfl, fun _ => rfl⟩ (by decide) x⟩
theorem fl_X12_217_186 : Fl RX12 217 186 95 (3, 64, 0) := ⟨12, 138, fs_186, RX12, TX12, rfl, rfl, by decide, rfl, by decide, rfl, cf12, (tbg sg7 226 rfl rfl)⟩
theorem fq_X12_217_186 : Fpf RX12 217 186 95 (3, 64, 0) := ⟨fl_X12_217_186, 12, 138, fs_186, RX12, TX12, (.array (.int)), rfl, rfl, rfl, rfl, by decide +kernel, fun E S x h => reffit (fun _ => rfl) ⟨rfl, fun _ => rfl⟩ (by decide) x⟩
theorem fl_X12_220_186 : Fl RX12 220 186 96 (3, 65, 0) := ⟨12, 138, fs_186, RX12, TX12, rfl, rfl, by decide, rfl, by decide, rfl, cf12, (tbg sg7 227 rfl rfl)⟩
theorem fq_X12_220_186 : Fpf RX12 220 186 96 (3, 65, 0) := ⟨fl_X12_220_186, 12, 138, fs_186, RX12, TX12, (.array (.int)), rfl, rfl, rfl, rfl, by decide +kernel, fun E S x h => reffit (fun _ => rfl) ⟨rfl, fun _ => rfl⟩ (by decide) x⟩
theorem fl_X12_223_186 : Fl RX12 223 186 97 (3, 66, 0) := ⟨12, 138, fs_186, RX12, TX12, rfl, rfl, by decide, rfl, by decide, rfl, cf12, (tbg sg7 228 rfl rfl)⟩
theorem fq_X12_223_186 : Fpf RX12 223 186 97 (3, 66, 0) := ⟨fl_X12_223_186, 12, 138, fs_186, RX12, TX12, (.array (.int)), rfl, rfl, rfl, rfl, by decide +kernel, fun E S x h => reffit (fun _ => rfl) ⟨rfl, fun _ => rfl⟩ (by decide) x⟩
theorem fl_X12_226_186 : Fl RX12 226 186 98 (3, 67, 0) := ⟨12, 138, fs_186, RX12, TX12, rfl, rfl, by decide, rfl, by decide, rfl, cf12, (tbg sg7 229 rfl rfl)⟩
theorem fq_X12_226_186 : Fpf RX12 226 186 98 (3, 67, 0) := ⟨fl_X12_226_186, 12, 138, fs_186, RX12, TX12, (.array (.int)), rfl, rfl, rfl, rfl, by decide +kernel, fun E S x h => reffit (fun _ => rfl) ⟨rfl, fun _ => rfl⟩ (by decide) x⟩
theorem fl_X12_229_186 : Fl RX12 229 186 99 (3, 68, 0) := ⟨12, 138, fs_186, RX12, TX12, rfl, rfl, by decide, rfl, by decide, rfl, cf12, (tbg sg7 230 rfl rfl)⟩
theorem fq_X12_229_186 : Fpf RX12 229 186 99 (3, 68, 0) := ⟨fl_X12_229_186, 12, 138, fs_186, RX12, TX12, (.array (.int)), rfl, rfl, rfl, rfl, by decide +kernel, fun E S x h => reffit (fun _ => rfl) ⟨rfl, fun _ => rfl⟩ (by decide) x⟩
theorem fl_X12_232_186 : Fl RX12 232 186 100 (3, 69, 0) := ⟨12, 138, fs_186, RX12, TX12, rfl, rfl, by decide, rfl, by decide, rfl, cf12, (tbg sg7 231 rfl rfl)⟩
theorem fq_X12_232_186 : Fpf RX12 232 186 100 (3, 69, 0) := ⟨fl_X12_232_186, 12, 138, fs_186, RX12, TX12, (.array (.int)), rfl, rfl, rfl, rfl, by decide +kernel, fun E S x h => reffit (fun _ => rfl) ⟨rfl, fun _ => rfl⟩ (by decide) x⟩
theorem fl_X12_235_186 : Fl RX12 235 186 101 (3, 70, 0) := ⟨12, 138, fs_186, RX12, TX12, rfl, rfl, by decide, rfl, by decide, rfl, cf12, (tbg sg7 232 rfl rfl)⟩
theorem fq_X12_235_186 : Fpf RX12 235 186 101 (3, 70, 0) := ⟨fl_X12_235_186, 12, 138, fs_186, RX12, TX12, (.array (.int)), rfl, rfl, rfl, rfl, by decide +kernel, fun E S x h => reffit (fun _ => rfl) ⟨rfl, fun _ => rfl⟩ (by decide) x⟩
theorem fl_X12_238_186 : Fl RX12 238 186 102 (3, 71, 0) := ⟨12, 138, fs_186, RX12, TX12, rfl, rfl, by decide, rfl, by decide, rfl, cf12, (tbg sg7 233 rfl rfl)⟩
theorem fq_X12_238_186 : Fpf RX12 238 186 102 (3, 71, 0) := ⟨fl_X12_238_186, 12, 138, fs_186, RX12, TX12, (.array (.int)), rfl, rfl, rfl, rfl, by decide +kernel, fun E S x h => reffit (fun _ => rfl) ⟨rfl, fun _ => rfl⟩ (by decide) x⟩
theorem fl_X12_241_186 : Fl RX12 241 186 103 (3, 72, 0) := ⟨12, 138, fs_186, RX12, TX12, rfl, rfl, by decide, rfl, by decide, rfl, cf12, (tbg sg7 234 rfl rfl)⟩
theorem fq_X12_241_186 : Fpf RX12 241 186 103 (3, 72, 0) := ⟨fl_X12_241_186, 12, 138, fs_186, RX12, TX12, (.array (.long)), rfl, rfl, rfl, rfl, by decide +kernel, fun E S x h => reffit (fun _ => rfl) ⟨rfl, fun _ => rfl⟩ (by decide) x⟩
theorem fl_X12_244_186 : Fl RX12 244 186 104 (3, 73, 0) := ⟨12, 138, fs_186, RX12, TX12, rfl, rfl, by decide, rfl, by decide, rfl, cf12, (tbg sg7 235 rfl rfl)⟩
theorem fq_X12_244_186 : Fpf RX12 244 186 104 (3, 73, 0) := ⟨fl_X12_244_186, 12, 138, fs_186, RX12, TX12, (.array (.long)), rfl, rfl, rfl, rfl, by decide +kernel, fun E S x h => reffit (fun _ => rfl) ⟨rfl, fun _ => rfl⟩ (by decide) x⟩
theorem fl_X12_247_186 : Fl RX12 247 186 105 (3, 74, 0) := ⟨12, 138, fs_186, RX12, TX12, rfl, rfl, by decide, rfl, by decide, rfl, cf12, (tbg sg7 236 rfl rfl)⟩
theorem fq_X12_247_186 : Fpf RX12 247 186 105 (3, 74, 0) := ⟨fl_X12_247_186, 12, 138, fs_186, RX12, TX12, (.array (.long)), rfl, rfl, rfl, rfl, by decide +kernel, fun E S x h => reffit (fun _ => rfl) ⟨rfl, fun _ => rfl⟩ (by decide) x⟩
theorem fl_X12_250_186 : Fl RX12 250 186 106 (3, 75, 0) := ⟨12, 138, fs_186, RX12, TX12, rfl, rfl, by decide, rfl, by decide, rfl, cf12, (tbg sg7 237 rfl rfl)⟩
theorem fq_X12_250_186 : Fpf RX12 250 186 106 (3, 75, 0) := ⟨fl_X12_250_186, 12, 138, fs_186, RX12, TX12, (.array (.long)), rfl, rfl, rfl, rfl, by decide +kernel, fun E S x h => reffit (fun _ => rfl) ⟨rfl, fun _ => rfl⟩ (by decide) x⟩
theorem fl_X12_253_186 : Fl RX12 253 186 107 (3, 76, 0) := ⟨12, 138, fs_186, RX12, TX12, rfl, rfl, by decide, rfl, by decide, rfl, cf12, (tbg sg7 238 rfl rfl)⟩
theorem fq_X12_253_186 : Fpf RX12 253 186 107 (3, 76, 0) := ⟨fl_X12_253_186, 12, 138, fs_186, RX12, TX12, (.array (.long)), rfl, rfl, rfl, rfl, by decide +kernel, fun E S x h => reffit (fun _ => rfl) ⟨rfl, fun _ => rfl⟩ (by decide) x⟩
theorem fl_X12_256_186 : Fl RX12 256 186 108 (3, 77, 0) := ⟨12, 138, fs_186, RX12, TX12, rfl, rfl, by decide, rfl, by decide, rfl, cf12, (tbg sg7 239 rfl rfl)⟩
theorem fq_X12_256_186 : Fpf RX12 256 186 108 (3, 77, 0) := ⟨fl_X12_256_186, 12, 138, fs_186, RX12, TX12, (.array (.long)), rfl, rfl, rfl, rfl, by decide +kernel, fun E S x h => reffit (fun _ => rfl) ⟨rfl, fun _ => rfl⟩ (by decide) x⟩
theorem fl_X12_259_186 : Fl RX12 259 186 109 (3, 78, 0) := ⟨12, 138, fs_186, RX12, TX12, rfl, rfl, by decide, rfl, by decide, rfl, cf12, (tbg sg8 0 rfl rfl)⟩
theorem fq_X12_259_186 : Fpf RX12 259 186 109 (3, 78, 0) := ⟨fl_X12_259_186, 12, 138, fs_186, RX12, TX12, (.array (.long)), rfl, rfl, rfl, rfl, by decide +kernel, fun E S x h => reffit (fun _ => rfl) ⟨rfl, fun _ => rfl⟩ (by decide) x⟩
theorem fl_X12_262_186 : Fl RX12 262 186 110 (3, 79, 0) := ⟨12, 138, fs_186, RX12, TX12, rfl, rfl, by decide, rfl, by decide, rfl, cf12, (tbg sg8 1 rfl rfl)⟩
theorem fq_X12_262_186 : Fpf RX12 262 186 110 (3, 79, 0) := ⟨fl_X12_262_186, 12, 138, fs_186, RX12, TX12, (.array (.long)), rfl, rfl, rfl, rfl, by decide +kernel, fun E S x h => reffit (fun _ => rfl) ⟨rfl, fun _ => rfl⟩ (by decide) x⟩
theorem fl_X12_265_186 : Fl RX12 265 186 111 (3, 80, 0) := ⟨12, 138, fs_186, RX12, TX12, rfl, rfl, by decide, rfl, by decide, rfl, cf12, (tbg sg8 2 rfl rfl)⟩
theorem fq_X12_265_186 : Fpf RX12 265 186 111 (3, 80, 0) := ⟨fl_X12_265_186, 12, 138, fs_186, RX12, TX12, (.array (.long)), rfl, rfl, rfl, rfl, by decide +kernel, fun E S x h => reffit (fun _ => rfl) ⟨rfl, fun _ => rfl⟩ (by decide) x⟩
theorem fl_X12_268_186 : Fl RX12 268 186 112 (3, 81, 0) := ⟨12, 138, fs_186, RX12, TX12, rfl, rfl, by decide, rfl, by decide, rfl, cf12, (tbg sg8 3 rfl rfl)⟩
theorem fq_X12_268_186 : Fpf RX12 268 186 112 (3, 81, 0) := ⟨fl_X12_268_186, 12, 138, fs_186, RX12, TX12, (.array (.long)), rfl, rfl, rfl, rfl, by decide +kernel, fun E S x h => reffit (fun _ => rfl) ⟨rfl, fun _ => rfl⟩ (by decide) x⟩
theorem fl_X12_271_186 : Fl RX12 271 186 113 (3, 82, 0) := ⟨12, 138, fs_186, RX12, TX12, rfl, rfl, by decide, rfl, by decide, rfl, cf12, (tbg sg8 4 rfl rfl)⟩
theorem fq_X12_271_186 : Fpf RX12 271 186 113 (3, 82, 0) := ⟨fl_X12_271_186, 12, 138, fs_186, RX12, TX12, (.array (.long)), rfl, rfl, rfl, rfl, by decide +kernel, fun E S x h => reffit (fun _ => rfl) ⟨rfl, fun _ => rfl⟩ (by decide) x⟩
theorem fl_X12_274_186 : Fl RX12 274 186 114 (3, 83, 0) := ⟨12, 138, fs_186, RX12, TX12, rfl, rfl, by decide, rfl, by decide, rfl, cf12, (tbg sg8 5 rfl rfl)⟩
theorem fq_X12_274_186 : Fpf RX12 274 186 114 (3, 83, 0) := ⟨fl_X12_274_186, 12, 138, fs_186, RX12, TX12, (.array (.long)), rfl, rfl, rfl, rfl, by decide +kernel, fun E S x h => reffit (fun _ => rfl) ⟨rfl, fun _ => rfl⟩ (by decide) x⟩
theorem fl_X12_277_186 : Fl RX12 277 186 115 (3, 84, 0) := ⟨12, 138, fs_186, RX12, TX12, rfl, rfl, by decide, rfl, by decide, rfl, cf12, (tbg sg8 6 rfl rfl)⟩
theorem fq_X12_277_186 : Fpf RX12 277 186 115 (3, 84, 0) := ⟨fl_X12_277_186, 12, 138, fs_186, RX12, TX12, (.array (.long)), rfl, rfl, rfl, rfl, by decide +kernel, fun E S x h => reffit (fun _ => rfl) ⟨rfl, fun _ => rfl⟩ (by decide) x⟩
theorem fl_X12_280_186 : Fl RX12 280 186 116 (3, 85, 0) := ⟨12, 138, fs_186, RX12, TX12, rfl, rfl, by decide, rfl, by decide, rfl, cf12, (tbg sg8 7 rfl rfl)⟩
theorem fq_X12_280_186 : Fpf RX12 280 186 116 (3, 85, 0) := ⟨fl_X12_280_186, 12, 138, fs_186, RX12, TX12, (.array (.long)), rfl, rfl, rfl, rfl, by decide +kernel, fun E S x h => reffit (fun _ => rfl) ⟨rfl, fun _ => rfl⟩ (by decide) x⟩
theorem fl_X12_283_186 : Fl RX12 283 186 117 (3, 86, 0) := ⟨12, 138, fs_186, RX12, TX12, rfl, rfl, by decide, rfl, by decide, rfl, cf12, (tbg sg8 8 rfl rfl)⟩
theorem fq_X12_283_186 : Fpf RX12 283 186 117 (3, 86, 0) := ⟨fl_X12_283_186, 12, 138, fs_186, RX12, TX12, (.array (.long)), rfl, rfl, rfl, rfl, by decide +kernel, fun E S x h => reffit (fun _ => rfl) ⟨rfl, fun _ => rfl⟩ (by decide) x⟩
theorem fl_X12_286_186 : Fl RX12 286 186 118 (3, 87, 0) := ⟨12, 138, fs_186, RX12, TX12, rfl, rfl, by decide, rfl, by decide, rfl, cf12, (tbg sg8 9 rfl rfl)⟩
theorem fq_X12_286_186 : Fpf RX12 286 186 118 (3, 87, 0) := ⟨fl_X12_286_186, 12, 138, fs_186, RX12, TX12, (.array (.int)), rfl, rfl, rfl, rfl, by decide +kernel, fun E S x h => reffit (fun _ => rfl) ⟨rfl, fun _ => rfl⟩ (by decide) x⟩
theorem fl_X12_289_186 : Fl RX12 289 186 119 (3, 88, 0) := ⟨12, 138, fs_186, RX12, TX12, rfl, rfl, by decide, rfl, by decide, rfl, cf12, (tbg sg8 10 rfl rfl)⟩
theorem fq_X12_289_186 : Fpf RX12 289 186 119 (3, 88, 0) := ⟨fl_X12_289_186, 12, 138, fs_186, RX12, TX12, (.array (.int)), rfl, rfl, rfl, rfl, by decide +kernel, fun E S x h => reffit (fun _ => rfl) ⟨rfl, fun _ => rfl⟩ (by decide) x⟩
theorem fl_X12_292_186 : Fl RX12 292 186 121 (3, 89, 0) := ⟨12, 138, fs_186, RX12, TX12, rfl, rfl, by decide, rfl, by decide, rfl, cf12, (tbg sg8 12 rfl rfl)⟩
theorem fq_X12_292_186 : Fpf RX12 292 186 121 (3, 89, 0) := ⟨fl_X12_292_186, 12, 138, fs_186, RX12, TX12, (.array (.long)), rfl, rfl, rfl, rfl, by decide +kernel, fun E S x h => reffit (fun _ => rfl) ⟨rfl, fun _ => rfl⟩ (by decide) x⟩
theorem fl_X12_295_186 : Fl RX12 295 186 125 (3, 90, 0) := ⟨12, 138, fs_186, RX12, TX12, rfl, rfl, by decide, rfl, by decide, rfl, cf12, (tbg sg8 16 rfl rfl)⟩
theorem fq_X12_295_186 : Fpf RX12 295 186 125 (3, 90, 0) := ⟨fl_X12_295_186, 12, 138, fs_186, RX12, TX12, (.array (.long)), rfl, rfl, rfl, rfl, by decide +kernel, fun E S x h => reffit (fun _ => rfl) ⟨rfl, fun _ => rfl⟩ (by decide) x⟩
theorem fl_X12_298_186 : Fl RX12 298 186 126 (3, 91, 0) := ⟨12, 138, fs_186, RX12, TX12, rfl, rfl, by decide, rfl, by decide, rfl, cf12, (tbg sg8 17 rfl rfl)⟩
theorem fq_X12_298_186 : Fpf RX12 298 186 126 (3, 91, 0) := ⟨fl_X12_298_186, 12, 138, fs_186, RX12, TX12, (.array (.long)), rfl, rfl, rfl, rfl, by decide +kernel, fun E S x h => reffit (fun _ => rfl) ⟨rfl, fun _ => rfl⟩ (by decide) x⟩
theorem fl_X12_301_186 : Fl RX12 301 186 127 (3, 92, 0) := ⟨12, 138, fs_186, RX12, TX12, rfl, rfl, by decide, rfl, by decide, rfl, cf12, (tbg sg8 18 rfl rfl)⟩
theorem fq_X12_301_186 : Fpf RX12 301 186 127 (3, 92, 0) := ⟨fl_X12_301_186, 12, 138, fs_186, RX12, TX12, (.array (.boolean)), rfl, rfl, rfl, rfl, by decide +kernel, fun E S x h => reffit (fun _ => rfl) ⟨rfl, fun _ => rfl⟩ (by decide) x⟩
