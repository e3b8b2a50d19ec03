theorem all_of {G' : Gh} {L K q t j0 : Int} (e : q = G' K t j0) (a : ∀ j : Int, G' L q j = 0) : ∀ j : Int, G' L (G' K t j0) j = 0 := by rw [← e]; exact a
theorem fl_X4_9_148 : Fl RX4 9 148 1 (1, (-9223372036854775808), 9223372036854775807) := ⟨5, 6, fs_148, RX4, TX4, rfl, rfl, by decide, rfl, by decide, rfl, cf_X4, (tbg sg2 4 rfl rfl)⟩
theorem fp_X4_9_148 : Fp RX4 9 148 1 (1, (-9223372036854775808), 9223372036854775807) := ⟨fl_X4_9_148, 5, 6, fs_148, RX4, TX4, .long, rfl, rfl, rfl, by decide +kernel, fun E S x h => ⟨rfl, rfl⟩⟩
theorem fl_X4_15_148 : Fl RX4 15 148 3 (3, 99, 0) := ⟨5, 6, fs_148, RX4, TX4, rfl, rfl, by decide, rfl, by decide, rfl, cf_X4, (tbg sg2 8 rfl rfl)⟩
theorem fq_X4_15_148 : Fpf RX4 15 148 3 (3, 99, 0) := ⟨fl_X4_15_148, 5, 6, fs_148, RX4, TX4, (.array (.long)), rfl, rfl, rfl, rfl, by decide +kernel, fun E S x h => reffit (fun _ => rfl) ⟨rfl, fun _ => rfl⟩ (by decide) x⟩
theorem fl_X4_19_148 : Fl RX4 19 148 4 (3, 99, 0) := ⟨5, 6, fs_148, RX4, TX4, rfl, rfl, by decide, rfl, by decide, rfl, cf_X4, (tbg sg2 9 rfl rfl)⟩
theorem fq_X4_19_148 : Fpf RX4 19 148 4 (3, 99, 0) := ⟨fl_X4_19_148, 5, 6, fs_148, RX4, TX4, (.array (.long)), rfl, rfl, rfl, rfl, by decide +kernel, fun E S x h => reffit (fun _ => rfl) ⟨rfl, fun _ => rfl⟩ (by decide) x⟩
theorem fl_X4_22_148 : Fl RX4 22 148 5 (3, 99, 0) := ⟨5, 6, fs_148, RX4, TX4, rfl, rfl, by decide, rfl, by decide, rfl, cf_X4, (tbg sg2 10 rfl rfl)⟩
theorem fq_X4_22_148 : Fpf RX4 22 148 5 (3, 99, 0) := ⟨fl_X4_22_148, 5, 6, fs_148, RX4, TX4, (.array (.long)), rfl, rfl, rfl, rfl, by decide +kernel, fun E S x h => reffit (fun _ => rfl) ⟨rfl, fun _ => rfl⟩ (by decide) x⟩
theorem fl_X9_9_149 : Fl RX9 9 149 2 (0, (-1), 2) := ⟨10, 16, fs_149, RX9, TX9, rfl, rfl, by decide, rfl, by decide, rfl, cf_X9, (tbg sg3 179 rfl rfl)⟩
theorem fp_X9_9_149 : Fp RX9 9 149 2 (0, (-1), 2) := ⟨fl_X9_9_149, 10, 16, fs_149, RX9, TX9, .int, rfl, rfl, rfl, by decide +kernel, fun E S x h => ⟨rfl, rfl⟩⟩
theorem fl_X9_15_149 : Fl RX9 15 149 3 (3, 120, 0) := ⟨10, 16, fs_149, RX9, TX9, rfl, rfl, by decide, rfl, by decide, rfl, cf_X9, (tbg sg3 183 rfl rfl)⟩
theorem fq_X9_15_149 : Fpf RX9 15 149 3 (3, 120, 0) := ⟨fl_X9_15_149, 10, 16, fs_149, RX9, TX9, (.array (.int)), rfl, rfl, rfl, rfl, by decide +kernel, fun E S x h => reffit (fun _ => rfl) ⟨rfl, fun _ => rfl⟩ (by decide) x⟩
theorem fl_X9_19_149 : Fl RX9 19 149 4 (3, 119, 0) := ⟨10, 16, fs_149, RX9, TX9, rfl, rfl, by decide, rfl, by decide, rfl, cf_X9, (tbg sg3 188 rfl rfl)⟩
theorem fq_X9_19_149 : Fpf RX9 19 149 4 (3, 119, 0) := ⟨fl_X9_19_149, 10, 16, fs_149, RX9, TX9, (.array (.int)), rfl, rfl, rfl, rfl, by decide +kernel, fun E S x h => reffit (fun _ => rfl) ⟨rfl, fun _ => rfl⟩ (by decide) x⟩
theorem fl_X9_22_149 : Fl RX9 22 149 5 (3, 121, 0) := ⟨10, 16, fs_149, RX9, TX9, rfl, rfl, by decide, rfl, by decide, rfl, cf_X9, (tbg sg3 193 rfl rfl)⟩
theorem fq_X9_22_149 : Fpf RX9 22 149 5 (3, 121, 0) := ⟨fl_X9_22_149, 10, 16, fs_149, RX9, TX9, (.array (.int)), rfl, rfl, rfl, rfl, by decide +kernel, fun E S x h => reffit (fun _ => rfl) ⟨rfl, fun _ => rfl⟩ (by decide) x⟩
theorem fl_X9_25_149 : Fl RX9 25 149 6 (3, 119, 0) := ⟨10, 16, fs_149, RX9, TX9, rfl, rfl, by decide, rfl, by decide, rfl, cf_X9, (tbg sg3 198 rfl rfl)⟩
theorem fq_X9_25_149 : Fpf RX9 25 149 6 (3, 119, 0) := ⟨fl_X9_25_149, 10, 16, fs_149, RX9, TX9, (.array (.int)), rfl, rfl, rfl, rfl, by decide +kernel, fun E S x h => reffit (fun _ => rfl) ⟨rfl, fun _ => rfl⟩ (by decide) x⟩
theorem fl_X9_28_149 : Fl RX9 28 149 7 (3, 122, 0) := ⟨10, 16, fs_149, RX9, TX9, rfl, rfl, by decide, rfl, by decide, rfl, cf_X9, (tbg sg3 202 rfl rfl)⟩
theorem fq_X9_28_149 : Fpf RX9 28 149 7 (3, 122, 0) := ⟨fl_X9_28_149, 10, 16, fs_149, RX9, TX9, (.array (.int)), rfl, rfl, rfl, rfl, by decide +kernel, fun E S x h => reffit (fun _ => rfl) ⟨rfl, fun _ => rfl⟩ (by decide) x⟩
theorem fl_X9_31_149 : Fl RX9 31 149 8 (3, 123, 0) := ⟨10, 16, fs_149, RX9, TX9, rfl, rfl, by decide, rfl, by decide, rfl, cf_X9, (tbg sg3 206 rfl rfl)⟩
theorem fq_X9_31_149 : Fpf RX9 31 149 8 (3, 123, 0) := ⟨fl_X9_31_149, 10, 16, fs_149, RX9, TX9, (.array (.int)), rfl, rfl, rfl, rfl, by decide +kernel, fun E S x h => reffit (fun _ => rfl) ⟨rfl, fun _ => rfl⟩ (by decide) x⟩
theorem fl_X9_34_149 : Fl RX9 34 149 9 (3, 124, 0) := ⟨10, 16, fs_149, RX9, TX9, rfl, rfl, by decide, rfl, by decide, rfl, cf_X9, (tbg sg3 208 rfl rfl)⟩
theorem fq_X9_34_149 : Fpf RX9 34 149 9 (3, 124, 0) := ⟨fl_X9_34_149, 10, 16, fs_149, RX9, TX9, (.array (.int)), rfl, rfl, rfl, rfl, by decide +kernel, fun E S x h => reffit (fun _ => rfl) ⟨rfl, fun _ => rfl⟩ (by decide) x⟩
theorem fl_X9_37_149 : Fl RX9 37 149 10 (3, 124, 0) := ⟨10, 16, fs_149, RX9, TX9, rfl, rfl, by decide, rfl, by decide, rfl, cf_X9, (tbg sg3 212 rfl rfl)⟩
theorem fq_X9_37_149 : Fpf RX9 37 149 10 (3, 124, 0) := ⟨fl_X9_37_149, 10, 16, fs_149, RX9, TX9, (.array (.int)), rfl, rfl, rfl, rfl, by decide +kernel, fun E S x h => reffit (fun _ => rfl) ⟨rfl, fun _ => rfl⟩ (by decide) x⟩
theorem fl_X9_40_149 : Fl RX9 40 149 11 (3, 125, 0) := ⟨10, 16, fs_149, RX9, TX9, rfl, rfl, by decide, rfl, by decide, rfl, cf_X9, (tbg sg3 216 rfl rfl)⟩
theorem fq_X9_40_149 : Fpf RX9 40 149 11 (3, 125, 0) := ⟨fl_X9_40_149, 10, 16, fs_149, RX9, TX9, (.array (.long)), rfl, rfl, rfl, rfl, by decide +kernel, fun E S x h => reffit (fun _ => rfl) ⟨rfl, fun _ => rfl⟩ (by decide) x⟩
theorem fl_X9_44_149 : Fl RX9 44 149 12 (3, 126, 0) := ⟨10, 16, fs_149, RX9, TX9, rfl, rfl, by decide, rfl, by decide, rfl, cf_X9, (tbg sg3 220 rfl rfl)⟩
theorem fq_X9_44_149 : Fpf RX9 44 149 12 (3, 126, 0) := ⟨fl_X9_44_149, 10, 16, fs_149, RX9, TX9, (.array (.boolean)), rfl, rfl, rfl, rfl, by decide +kernel, fun E S x h => reffit (fun _ => rfl) ⟨rfl, fun _ => rfl⟩ (by decide) x⟩
theorem fl_X9_48_149 : Fl RX9 48 149 13 (3, 119, 0) := ⟨10, 16, fs_149, RX9, TX9, rfl, rfl, by decide, rfl, by decide, rfl, cf_X9, (tbg sg3 223 rfl rfl)⟩
theorem fq_X9_48_149 : Fpf RX9 48 149 13 (3, 119, 0) := ⟨fl_X9_48_149, 10, 16, fs_149, RX9, TX9, (.array (.int)), rfl, rfl, rfl, rfl, by decide +kernel, fun E S x h => reffit (fun _ => rfl) ⟨rfl, fun _ => rfl⟩ (by decide) x⟩
theorem fl_X9_51_149 : Fl RX9 51 149 14 (3, 127, 0) := ⟨10, 16, fs_149, RX9, TX9, rfl, rfl, by decide, rfl, by decide, rfl, cf_X9, (tbg sg3 224 rfl rfl)⟩
theorem fq_X9_51_149 : Fpf RX9 51 149 14 (3, 127, 0) := ⟨fl_X9_51_149, 10, 16, fs_149, RX9, TX9, (.array (.long)), rfl, rfl, rfl, rfl, by decide +kernel, fun E S x h => reffit (fun _ => rfl) ⟨rfl, fun _ => rfl⟩ (by decide) x⟩
theorem fl_X9_54_149 : Fl RX9 54 149 15 (3, 127, 0) := ⟨10, 16, fs_149, RX9, TX9, rfl, rfl, by decide, rfl, by decide, rfl, cf_X9, (tbg sg3 227 rfl rfl)⟩
theorem fq_X9_54_149 : Fpf RX9 54 149 15 (3, 127, 0) := ⟨fl_X9_54_149, 10, 16, fs_149, RX9, TX9, (.array (.long)), rfl, rfl, rfl, rfl, by decide +kernel, fun E S x h => reffit (fun _ => rfl) ⟨rfl, fun _ => rfl⟩ (by decide) x⟩
theorem fl_X6_9_145 : Fl RX6 9 145 1 (0, (-2147483648), 2147483647) := ⟨7, 17, fs_145, RX6, TX6, rfl, rfl, by decide, rfl, by decide, rfl, cf_X6, (tbg sg2 32 rfl rfl)⟩
theorem fp_X6_9_145 : Fp RX6 9 145 1 (0, (-2147483648), 2147483647) := ⟨fl_X6_9_145, 7, 17, fs_145, RX6, TX6, .int, rfl, rfl, rfl, by decide +kernel, fun E S x h => ⟨rfl, rfl⟩⟩
theorem fl_X6_15_145 : Fl RX6 15 145 2 (0, (-2147483648), 2147483647) := ⟨7, 17, fs_145, RX6, TX6, rfl, rfl, by decide, rfl, by decide, rfl, cf_X6, (tbg sg2 34 rfl rfl)⟩
theorem fp_X6_15_145 : Fp RX6 15 145 2 (0, (-2147483648), 2147483647) := ⟨fl_X6_15_145, 7, 17, fs_145, RX6, TX6, .int, rfl, rfl, rfl, by decide +kernel, fun E S x h => ⟨rfl, rfl⟩⟩
theorem fl_X6_18_145 : Fl RX6 18 145 3 (3, 105, 0) := ⟨7, 17, fs_145, RX6, TX6, rfl, rfl, by decide, rfl, by decide, rfl, cf_X6, (tbg sg2 36 rfl rfl)⟩
theorem fq_X6_18_145 : Fpf RX6 18 145 3 (3, 105, 0) := ⟨fl_X6_18_145, 7, 17, fs_145, RX6, TX6, (.array (.int)), rfl, rfl, rfl, rfl, by decide +kernel, fun E S x h => reffit (fun _ => rfl) ⟨rfl, fun _ => rfl⟩ (by decide) x⟩
theorem fl_X6_22_145 : Fl RX6 22 145 12 (3, 106, 0) := ⟨7, 17, fs_145, RX6, TX6, rfl, rfl, by decide, rfl, by decide, rfl, cf_X6, (tbg sg2 45 rfl rfl)⟩
theorem fq_X6_22_145 : Fpf RX6 22 145 12 (3, 106, 0) := ⟨fl_X6_22_145, 7, 17, fs_145, RX6, TX6, (.array (.int)), rfl, rfl, rfl, rfl, by decide +kernel, fun E S x h => reffit (fun _ => rfl) ⟨rfl, fun _ => rfl⟩ (by decide) x⟩
theorem fl_X6_25_145 : Fl RX6 25 145 15 (3, 107, 0) := ⟨7, 17, fs_145, RX6, TX6, rfl, rfl, by decide, rfl, by decide, rfl, cf_X6, (tbg sg2 48 rfl rfl)⟩
theorem fq_X6_25_145 : Fpf RX6 25 145 15 (3, 107, 0) := ⟨fl_X6_25_145, 7, 17, fs_145, RX6, TX6, (.array (.int)), rfl, rfl, rfl, rfl, by decide +kernel, fun E S x h => reffit (fun _ => rfl) ⟨rfl, fun _ => rfl⟩ (by decide) x⟩
theorem fl_X6_28_145 : Fl RX6 28 145 16 (3, 107, 0) := ⟨7, 17, fs_145, RX6, TX6, rfl, rfl, by decide, rfl, by decide, rfl, cf_X6, (tbg sg2 49 rfl rfl)⟩
theorem fq_X6_28_145 : Fpf RX6 28 145 16 (3, 107, 0) := ⟨fl_X6_28_145, 7, 17, fs_145, RX6, TX6, (.array (.int)), rfl, rfl, rfl, rfl, by decide +kernel, fun E S x h => reffit (fun _ => rfl) ⟨rfl, fun _ => rfl⟩ (by decide) x⟩
theorem fl_X7_9_146 : Fl RX7 9 146 5 (3, 108, 0) := ⟨8, 17, fs_146, RX7, TX7, rfl, rfl, by decide, rfl, by decide, rfl, cf_X7, (tbg sg2 100 rfl rfl)⟩
theorem fq_X7_9_146 : Fpf RX7 9 146 5 (3, 108, 0) := ⟨fl_X7_9_146, 8, 17, fs_146, RX7, TX7, (.array (.int)), rfl, rfl, rfl, rfl, by decide +kernel, fun E S x h => reffit (fun _ => rfl) ⟨rfl, fun _ => rfl⟩ (by decide) x⟩
theorem fl_X7_15_146 : Fl RX7 15 146 6 (3, 108, 0) := ⟨8, 17, fs_146, RX7, TX7, rfl, rfl, by decide, rfl, by decide, rfl, cf_X7, (tbg sg2 101 rfl rfl)⟩
theorem fq_X7_15_146 : Fpf RX7 15 146 6 (3, 108, 0) := ⟨fl_X7_15_146, 8, 17, fs_146, RX7, TX7, (.array (.int)), rfl, rfl, rfl, rfl, by decide +kernel, fun E S x h => reffit (fun _ => rfl) ⟨rfl, fun _ => rfl⟩ (by decide) x⟩
theorem fl_X7_18_146 : Fl RX7 18 146 7 (3, 108, 0) := ⟨8, 17, fs_146, RX7, TX7, rfl, rfl, by decide, rfl, by decide, rfl, cf_X7, (tbg sg2 102 rfl rfl)⟩
theorem fq_X7_18_146 : Fpf RX7 18 146 7 (3, 108, 0) := ⟨fl_X7_18_146, 8, 17, fs_146, RX7, TX7, (.array (.int)), rfl, rfl, rfl, rfl, by decide +kernel, fun E S x h => reffit (fun _ => rfl) ⟨rfl, fun _ => rfl⟩ (by decide) x⟩
theorem fl_X7_21_146 : Fl RX7 21 146 8 (3, 108, 0) := ⟨8, 17, fs_146, RX7, TX7, rfl, rfl, by decide, rfl, by decide, rfl, cf_X7, (tbg sg2 103 rfl rfl)⟩
theorem fq_X7_21_146 : Fpf RX7 21 146 8 (3, 108, 0) := ⟨fl_X7_21_146, 8, 17, fs_146, RX7, TX7, (.array (.int)), rfl, rfl, rfl, rfl, by decide +kernel, fun E S x h => reffit (fun _ => rfl) ⟨rfl, fun _ => rfl⟩ (by decide) x⟩
theorem fl_X7_24_146 : Fl RX7 24 146 9 (3, 108, 0) := ⟨8, 17, fs_146, RX7, TX7, rfl, rfl, by decide, rfl, by decide, rfl, cf_X7, (tbg sg2 104 rfl rfl)⟩
theorem fq_X7_24_146 : Fpf RX7 24 146 9 (3, 108, 0) := ⟨fl_X7_24_146, 8, 17, fs_146, RX7, TX7, (.array (.int)), rfl, rfl, rfl, rfl, by decide +kernel, fun E S x h => reffit (fun _ => rfl) ⟨rfl, fun _ => rfl⟩ (by decide) x⟩
theorem fl_X7_27_146 : Fl RX7 27 146 10 (3, 110, 0) := ⟨8, 17, fs_146, RX7, TX7, rfl, rfl, by decide, rfl, by decide, rfl, cf_X7, (tbg sg2 105 rfl rfl)⟩
theorem fq_X7_27_146 : Fpf RX7 27 146 10 (3, 110, 0) := ⟨fl_X7_27_146, 8, 17, fs_146, RX7, TX7, (.array (.boolean)), rfl, rfl, rfl, rfl, by decide +kernel, fun E S x h => reffit (fun _ => rfl) ⟨rfl, fun _ => rfl⟩ (by decide) x⟩
theorem fl_X7_31_146 : Fl RX7 31 146 11 (3, 109, 0) := ⟨8, 17, fs_146, RX7, TX7, rfl, rfl, by decide, rfl, by decide, rfl, cf_X7, (tbg sg2 106 rfl rfl)⟩
theorem fq_X7_31_146 : Fpf RX7 31 146 11 (3, 109, 0) := ⟨fl_X7_31_146, 8, 17, fs_146, RX7, TX7, (.array (.int)), rfl, rfl, rfl, rfl, by decide +kernel, fun E S x h => reffit (fun _ => rfl) ⟨rfl, fun _ => rfl⟩ (by decide) x⟩
theorem fl_X7_34_146 : Fl RX7 34 146 13 (3, 111, 0) := ⟨8, 17, fs_146, RX7, TX7, rfl, rfl, by decide, rfl, by decide, rfl, cf_X7, (tbg sg2 108 rfl rfl)⟩
theorem fq_X7_34_146 : Fpf RX7 34 146 13 (3, 111, 0) := ⟨fl_X7_34_146, 8, 17, fs_146, RX7, TX7, (.array (.int)), rfl, rfl, rfl, rfl, by decide +kernel, fun E S x h => reffit (fun _ => rfl) ⟨rfl, fun _ => rfl⟩ (by decide) x⟩
theorem fl_X7_37_146 : Fl RX7 37 146 14 (3, 112, 0) := ⟨8, 17, fs_146, RX7, TX7, rfl, rfl, by decide, rfl, by decide, rfl, cf_X7, (tbg sg2 109 rfl rfl)⟩
theorem fq_X7_37_146 : Fpf RX7 37 146 14 (3, 112, 0) := ⟨fl_X7_37_146, 8, 17, fs_146, RX7, TX7, (.array (.int)), rfl, rfl, rfl, rfl, by decide +kernel, fun E S x h => reffit (fun _ => rfl) ⟨rfl, fun _ => rfl⟩ (by decide) x⟩
theorem fl_X7_40_146 : Fl RX7 40 146 15 (3, 113, 0) := ⟨8, 17, fs_146, RX7, TX7, rfl, rfl, by decide, rfl, by decide, rfl, cf_X7, (tbg sg2 110 rfl rfl)⟩
theorem fq_X7_40_146 : Fpf RX7 40 146 15 (3, 113, 0) := ⟨fl_X7_40_146, 8, 17, fs_146, RX7, TX7, (.array (.long)), rfl, rfl, rfl, rfl, by decide +kernel, fun E S x h => reffit (fun _ => rfl) ⟨rfl, fun _ => rfl⟩ (by decide) x⟩
theorem fl_X7_44_146 : Fl RX7 44 146 16 (3, 112, 0) := ⟨8, 17, fs_146, RX7, TX7, rfl, rfl, by decide, rfl, by decide, rfl, cf_X7, (tbg sg2 111 rfl rfl)⟩
theorem fq_X7_44_146 : Fpf RX7 44 146 16 (3, 112, 0) := ⟨fl_X7_44_146, 8, 17, fs_146, RX7, TX7, (.array (.int)), rfl, rfl, rfl, rfl, by decide +kernel, fun E S x h => reffit (fun _ => rfl) ⟨rfl, fun _ => rfl⟩ (by decide) x⟩
theorem fl_X0_9_144 : Fl RX0 9 144 1 (3, 93, 0) := ⟨1, 18, fs_144, RX0, TX0, rfl, rfl, by decide, rfl, by decide, rfl, cf_X0, (tbg sg1 55 rfl rfl)⟩
theorem fq_X0_9_144 : Fpf RX0 9 144 1 (3, 93, 0) := ⟨fl_X0_9_144, 1, 18, fs_144, RX0, TX0, (.array (.int)), rfl, rfl, rfl, rfl, by decide +kernel, fun E S x h => reffit (fun _ => rfl) ⟨rfl, fun _ => rfl⟩ (by decide) x⟩
theorem fl_X0_15_144 : Fl RX0 15 144 2 (3, 94, 0) := ⟨1, 18, fs_144, RX0, TX0, rfl, rfl, by decide, rfl, by decide, rfl, cf_X0, (tbg sg1 57 rfl rfl)⟩
theorem fq_X0_15_144 : Fpf RX0 15 144 2 (3, 94, 0) := ⟨fl_X0_15_144, 1, 18, fs_144, RX0, TX0, (.array (.int)), rfl, rfl, rfl, rfl, by decide +kernel, fun E S x h => reffit (fun _ => rfl) ⟨rfl, fun _ => rfl⟩ (by decide) x⟩
theorem fl_X0_18_144 : Fl RX0 18 144 3 (3, 94, 0) := ⟨1, 18, fs_144, RX0, TX0, rfl, rfl, by decide, rfl, by decide, rfl, cf_X0, (tbg sg1 58 rfl rfl)⟩
theorem fq_X0_18_144 : Fpf RX0 18 144 3 (3, 94, 0) := ⟨fl_X0_18_144, 1, 18, fs_144, RX0, TX0, (.array (.int)), rfl, rfl, rfl, rfl, by decide +kernel, fun E S x h => reffit (fun _ => rfl) ⟨rfl, fun _ => rfl⟩ (by decide) x⟩
theorem fl_X0_21_144 : Fl RX0 21 144 4 (3, 94, 0) := ⟨1, 18, fs_144, RX0, TX0, rfl, rfl, by decide, rfl, by decide, rfl, cf_X0, (tbg sg1 59 rfl rfl)⟩
theorem fq_X0_21_144 : Fpf RX0 21 144 4 (3, 94, 0) := ⟨fl_X0_21_144, 1, 18, fs_144, RX0, TX0, (.array (.int)), rfl, rfl, rfl, rfl, by decide +kernel, fun E S x h => reffit (fun _ => rfl) ⟨rfl, fun _ => rfl⟩ (by decide) x⟩
theorem fl_X0_24_144 : Fl RX0 24 144 5 (3, 94, 0) := ⟨1, 18, fs_144, RX0, TX0, rfl, rfl, by decide, rfl, by decide, rfl, cf_X0, (tbg sg1 62 rfl rfl)⟩
theorem fq_X0_24_144 : Fpf RX0 24 144 5 (3, 94, 0) := ⟨fl_X0_24_144, 1, 18, fs_144, RX0, TX0, (.array (.int)), rfl, rfl, rfl, rfl, by decide +kernel, fun E S x h => reffit (fun _ => rfl) ⟨rfl, fun _ => rfl⟩ (by decide) x⟩
theorem fl_X0_27_144 : Fl RX0 27 144 6 (3, 94, 0) := ⟨1, 18, fs_144, RX0, TX0, rfl, rfl, by decide, rfl, by decide, rfl, cf_X0, (tbg sg1 64 rfl rfl)⟩
theorem fq_X0_27_144 : Fpf RX0 27 144 6 (3, 94, 0) := ⟨fl_X0_27_144, 1, 18, fs_144, RX0, TX0, (.array (.int)), rfl, rfl, rfl, rfl, by decide +kernel, fun E S x h => reffit (fun _ => rfl) ⟨rfl, fun _ => rfl⟩ (by decide) x⟩
theorem fl_X0_30_144 : Fl RX0 30 144 7 (3, 93, 0) := ⟨1, 18, fs_144, RX0, TX0, rfl, rfl, by decide, rfl, by decide, rfl, cf_X0, (tbg sg1 66 rfl rfl)⟩
theorem fq_X0_30_144 : Fpf RX0 30 144 7 (3, 93, 0) := ⟨fl_X0_30_144, 1, 18, fs_144, RX0, TX0, (.array (.int)), rfl, rfl, rfl, rfl, by decide +kernel, fun E S x h => reffit (fun _ => rfl) ⟨rfl, fun _ => rfl⟩ (by decide) x⟩
theorem fl_X0_33_144 : Fl RX0 33 144 8 (3, 93, 0) := ⟨1, 18, fs_144, RX0, TX0, rfl, rfl, by decide, rfl, by decide, rfl, cf_X0, (tbg sg1 68 rfl rfl)⟩
theorem fq_X0_33_144 : Fpf RX0 33 144 8 (3, 93, 0) := ⟨fl_X0_33_144, 1, 18, fs_144, RX0, TX0, (.array (.int)), rfl, rfl, rfl, rfl, by decide +kernel, fun E S x h => reffit (fun _ => rfl) ⟨rfl, fun _ => rfl⟩ (by decide) x⟩
theorem fl_X0_36_144 : Fl RX0 36 144 9 (3, 93, 0) := ⟨1, 18, fs_144, RX0, TX0, rfl, rfl, by decide, rfl, by decide, rfl, cf_X0, (tbg sg1 69 rfl rfl)⟩
theorem fq_X0_36_144 : Fpf RX0 36 144 9 (3, 93, 0) := ⟨fl_X0_36_144, 1, 18, fs_144, RX0, TX0, (.array (.int)), rfl, rfl, rfl, rfl, by decide +kernel, fun E S x h => reffit (fun _ => rfl) ⟨rfl, fun _ => rfl⟩ (by decide) x⟩
theorem fl_X0_41_144 : Fl RX0 41 144 10 (3, 98, 0) := ⟨1, 18, fs_144, RX0, TX0, rfl, rfl, by decide, rfl, by decide, rfl, cf_X0, (tbg sg1 71 rfl rfl)⟩
theorem fq_X0_41_144 : Fpf RX0 41 144 10 (3, 98, 0) := ⟨fl_X0_41_144, 1, 18, fs_144, RX0, TX0, (.array (.array (.long))), rfl, rfl, rfl, rfl, by decide +kernel, fun E S x h => reffit (fun _ => rfl) ⟨rfl, fun _ => rfl⟩ (by decide) x⟩
theorem fl_X0_44_144 : Fl RX0 44 144 11 (3, 98, 0) := ⟨1, 18, fs_144, RX0, TX0, rfl, rfl, by decide, rfl, by decide, rfl, cf_X0, (tbg sg1 73 rfl rfl)⟩
theorem fq_X0_44_144 : Fpf RX0 44 144 11 (3, 98, 0) := ⟨fl_X0_44_144, 1, 18, fs_144, RX0, TX0, (.array (.array (.long))), rfl, rfl, rfl, rfl, by decide +kernel, fun E S x h => reffit (fun _ => rfl) ⟨rfl, fun _ => rfl⟩ (by decide) x⟩
theorem fl_X0_47_144 : Fl RX0 47 144 12 (3, 95, 0) := ⟨1, 18, fs_144, RX0, TX0, rfl, rfl, by decide, rfl, by decide, rfl, cf_X0, (tbg sg1 75 rfl rfl)⟩
theorem fq_X0_47_144 : Fpf RX0 47 144 12 (3, 95, 0) := ⟨fl_X0_47_144, 1, 18, fs_144, RX0, TX0, (.array (.long)), rfl, rfl, rfl, rfl, by decide +kernel, fun E S x h => reffit (fun _ => rfl) ⟨rfl, fun _ => rfl⟩ (by decide) x⟩
theorem fl_X0_51_144 : Fl RX0 51 144 13 (3, 95, 0) := ⟨1, 18, fs_144, RX0, TX0, rfl, rfl, by decide, rfl, by decide, rfl, cf_X0, (tbg sg1 78 rfl rfl)⟩
theorem fq_X0_51_144 : Fpf RX0 51 144 13 (3, 95, 0) := ⟨fl_X0_51_144, 1, 18, fs_144, RX0, TX0, (.array (.long)), rfl, rfl, rfl, rfl, by decide +kernel, fun E S x h => reffit (fun _ => rfl) ⟨rfl, fun _ => rfl⟩ (by decide) x⟩
theorem fl_X0_54_144 : Fl RX0 54 144 14 (3, 97, 0) := ⟨1, 18, fs_144, RX0, TX0, rfl, rfl, by decide, rfl, by decide, rfl, cf_X0, (tbg sg1 80 rfl rfl)⟩
theorem fq_X0_54_144 : Fpf RX0 54 144 14 (3, 97, 0) := ⟨fl_X0_54_144, 1, 18, fs_144, RX0, TX0, (.array (.int)), rfl, rfl, rfl, rfl, by decide +kernel, fun E S x h => reffit (fun _ => rfl) ⟨rfl, fun _ => rfl⟩ (by decide) x⟩
theorem fl_X0_57_144 : Fl RX0 57 144 15 (3, 96, 0) := ⟨1, 18, fs_144, RX0, TX0, rfl, rfl, by decide, rfl, by decide, rfl, cf_X0, (tbg sg1 81 rfl rfl)⟩
theorem fq_X0_57_144 : Fpf RX0 57 144 15 (3, 96, 0) := ⟨fl_X0_57_144, 1, 18, fs_144, RX0, TX0, (.array (.long)), rfl, rfl, rfl, rfl, by decide +kernel, fun E S x h => reffit (fun _ => rfl) ⟨rfl, fun _ => rfl⟩ (by decide) x⟩
theorem fl_X0_60_144 : Fl RX0 60 144 16 (3, 96, 0) := ⟨1, 18, fs_144, RX0, TX0, rfl, rfl, by decide, rfl, by decide, rfl, cf_X0, (tbg sg1 83 rfl rfl)⟩
theorem fq_X0_60_144 : Fpf RX0 60 144 16 (3, 96, 0) := ⟨fl_X0_60_144, 1, 18, fs_144, RX0, TX0, (.array (.long)), rfl, rfl, rfl, rfl, by decide +kernel, fun E S x h => reffit (fun _ => rfl) ⟨rfl, fun _ => rfl⟩ (by decide) x⟩
theorem fl_X0_63_144 : Fl RX0 63 144 17 (3, 96, 0) := ⟨1, 18, fs_144, RX0, TX0, rfl, rfl, by decide, rfl, by decide, rfl, cf_X0, (tbg sg1 85 rfl rfl)⟩
theorem fq_X0_63_144 : Fpf RX0 63 144 17 (3, 96, 0) := ⟨fl_X0_63_144, 1, 18, fs_144, RX0, TX0, (.array (.long)), rfl, rfl, rfl, rfl, by decide +kernel, fun E S x h => reffit (fun _ => rfl) ⟨rfl, fun _ => rfl⟩ (by decide) x⟩
theorem fl_X3_11_147 : Fl RX3 11 147 1 (3, 100, 0) := ⟨4, 17, fs_147, RX3, TX3, rfl, rfl, by decide, rfl, by decide, rfl, cf_X3, (tbg sg6 48 rfl rfl)⟩
theorem fq_X3_11_147 : Fpf RX3 11 147 1 (3, 100, 0) := ⟨fl_X3_11_147, 4, 17, fs_147, RX3, TX3, (.array (.array (.long))), rfl, rfl, rfl, rfl, by decide +kernel, fun E S x h => reffit (fun _ => rfl) ⟨rfl, fun _ => rfl⟩ (by decide) x⟩
theorem fl_X3_16_147 : Fl RX3 16 147 2 (3, 101, 0) := ⟨4, 17, fs_147, RX3, TX3, rfl, rfl, by decide, rfl, by decide, rfl, cf_X3, (tbg sg6 49 rfl rfl)⟩
theorem fq_X3_16_147 : Fpf RX3 16 147 2 (3, 101, 0) := ⟨fl_X3_16_147, 4, 17, fs_147, RX3, TX3, (.array (.array (.long))), rfl, rfl, rfl, rfl, by decide +kernel, fun E S x h => reffit (fun _ => rfl) ⟨rfl, fun _ => rfl⟩ (by decide) x⟩
theorem fl_X3_19_147 : Fl RX3 19 147 3 (3, 101, 0) := ⟨4, 17, fs_147, RX3, TX3, rfl, rfl, by decide, rfl, by decide, rfl, cf_X3, (tbg sg6 50 rfl rfl)⟩
theorem fq_X3_19_147 : Fpf RX3 19 147 3 (3, 101, 0) := ⟨fl_X3_19_147, 4, 17, fs_147, RX3, TX3, (.array (.array (.long))), rfl, rfl, rfl, rfl, by decide +kernel, fun E S x h => reffit (fun _ => rfl) ⟨rfl, fun _ => rfl⟩ (by decide) x⟩
theorem fl_X3_22_147 : Fl RX3 22 147 4 (3, 102, 0) := ⟨4, 17, fs_147, RX3, TX3, rfl, rfl, by decide, rfl, by decide, rfl, cf_X3, (tbg sg6 51 rfl rfl)⟩
theorem fq_X3_22_147 : Fpf RX3 22 147 4 (3, 102, 0) := ⟨fl_X3_22_147, 4, 17, fs_147, RX3, TX3, (.array (.array (.long))), rfl, rfl, rfl, rfl, by decide +kernel, fun E S x h => reffit (fun _ => rfl) ⟨rfl, fun _ => rfl⟩ (by decide) x⟩
theorem fl_X3_25_147 : Fl RX3 25 147 5 (3, 102, 0) := ⟨4, 17, fs_147, RX3, TX3, rfl, rfl, by decide, rfl, by decide, rfl, cf_X3, (tbg sg6 52 rfl rfl)⟩
theorem fq_X3_25_147 : Fpf RX3 25 147 5 (3, 102, 0) := ⟨fl_X3_25_147, 4, 17, fs_147, RX3, TX3, (.array (.array (.long))), rfl, rfl, rfl, rfl, by decide +kernel, fun E S x h => reffit (fun _ => rfl) ⟨rfl, fun _ => rfl⟩ (by decide) x⟩
theorem fl_X3_28_147 : Fl RX3 28 147 6 (3, 102, 0) := ⟨4, 17, fs_147, RX3, TX3, rfl, rfl, by decide, rfl, by decide, rfl, cf_X3, (tbg sg6 53 rfl rfl)⟩
theorem fq_X3_28_147 : Fpf RX3 28 147 6 (3, 102, 0) := ⟨fl_X3_28_147, 4, 17, fs_147, RX3, TX3, (.array (.array (.long))), rfl, rfl, rfl, rfl, by decide +kernel, fun E S x h => reffit (fun _ => rfl) ⟨rfl, fun _ => rfl⟩ (by decide) x⟩
theorem fl_X3_31_147 : Fl RX3 31 147 7 (3, 95, 0) := ⟨4, 17, fs_147, RX3, TX3, rfl, rfl, by decide, rfl, by decide, rfl, cf_X3, (tbg sg6 54 rfl rfl)⟩
theorem fq_X3_31_147 : Fpf RX3 31 147 7 (3, 95, 0) := ⟨fl_X3_31_147, 4, 17, fs_147, RX3, TX3, (.array (.long)), rfl, rfl, rfl, rfl, by decide +kernel, fun E S x h => reffit (fun _ => rfl) ⟨rfl, fun _ => rfl⟩ (by decide) x⟩
theorem fl_X3_35_147 : Fl RX3 35 147 8 (3, 97, 0) := ⟨4, 17, fs_147, RX3, TX3, rfl, rfl, by decide, rfl, by decide, rfl, cf_X3, (tbg sg6 55 rfl rfl)⟩
theorem fq_X3_35_147 : Fpf RX3 35 147 8 (3, 97, 0) := ⟨fl_X3_35_147, 4, 17, fs_147, RX3, TX3, (.array (.int)), rfl, rfl, rfl, rfl, by decide +kernel, fun E S x h => reffit (fun _ => rfl) ⟨rfl, fun _ => rfl⟩ (by decide) x⟩
theorem fl_X3_39_147 : Fl RX3 39 147 9 (3, 103, 0) := ⟨4, 17, fs_147, RX3, TX3, rfl, rfl, by decide, rfl, by decide, rfl, cf_X3, (tbg sg6 56 rfl rfl)⟩
theorem fq_X3_39_147 : Fpf RX3 39 147 9 (3, 103, 0) := ⟨fl_X3_39_147, 4, 17, fs_147, RX3, TX3, (.array (.array (.long))), rfl, rfl, rfl, rfl, by decide +kernel, fun E S x h => reffit (fun _ => rfl) ⟨rfl, fun _ => rfl⟩ (by decide) x⟩
theorem fl_X3_42_147 : Fl RX3 42 147 10 (3, 103, 0) := ⟨4, 17, fs_147, RX3, TX3, rfl, rfl, by decide, rfl, by decide, rfl, cf_X3, (tbg sg6 57 rfl rfl)⟩
theorem fq_X3_42_147 : Fpf RX3 42 147 10 (3, 103, 0) := ⟨fl_X3_42_147, 4, 17, fs_147, RX3, TX3, (.array (.array (.long))), rfl, rfl, rfl, rfl, by decide +kernel, fun E S x h => reffit (fun _ => rfl) ⟨rfl, fun _ => rfl⟩ (by decide) x⟩
theorem fl_X3_45_147 : Fl RX3 45 147 11 (3, 103, 0) := ⟨4, 17, fs_147, RX3, TX3, rfl, rfl, by decide, rfl, by decide, rfl, cf_X3, (tbg sg6 58 rfl rfl)⟩
theorem fq_X3_45_147 : Fpf RX3 45 147 11 (3, 103, 0) := ⟨fl_X3_45_147, 4, 17, fs_147, RX3, TX3, (.array (.array (.long))), rfl, rfl, rfl, rfl, by decide +kernel, fun E S x h => reffit (fun _ => rfl) ⟨rfl, fun _ => rfl⟩ (by decide) x⟩
theorem fl_X3_48_147 : Fl RX3 48 147 12 (3, 104, 0) := ⟨4, 17, fs_147, RX3, TX3, rfl, rfl, by decide, rfl, by decide, rfl, cf_X3, (tbg sg6 59 rfl rfl)⟩
theorem fq_X3_48_147 : Fpf RX3 48 147 12 (3, 104, 0) := ⟨fl_X3_48_147, 4, 17, fs_147, RX3, TX3, (.array (.array (.long))), rfl, rfl, rfl, rfl, by decide +kernel, fun E S x h => reffit (fun _ => rfl) ⟨rfl, fun _ => rfl⟩ (by decide) x⟩
theorem fl_X3_51_147 : Fl RX3 51 147 13 (3, 99, 0) := ⟨4, 17, fs_147, RX3, TX3, rfl, rfl, by decide, rfl, by decide, rfl, cf_X3, (tbg sg6 60 rfl rfl)⟩
theorem fq_X3_51_147 : Fpf RX3 51 147 13 (3, 99, 0) := ⟨fl_X3_51_147, 4, 17, fs_147, RX3, TX3, (.array (.long)), rfl, rfl, rfl, rfl, by decide +kernel, fun E S x h => reffit (fun _ => rfl) ⟨rfl, fun _ => rfl⟩ (by decide) x⟩
theorem fl_X3_54_147 : Fl RX3 54 147 14 (3, 99, 0) := ⟨4, 17, fs_147, RX3, TX3, rfl, rfl, by decide, rfl, by decide, rfl, cf_X3, (tbg sg6 61 rfl rfl)⟩
theorem fq_X3_54_147 : Fpf RX3 54 147 14 (3, 99, 0) := ⟨fl_X3_54_147, 4, 17, fs_147, RX3, TX3, (.array (.long)), rfl, rfl, rfl, rfl, by decide +kernel, fun E S x h => reffit (fun _ => rfl) ⟨rfl, fun _ => rfl⟩ (by decide) x⟩
theorem fl_X3_57_147 : Fl RX3 57 147 15 (3, 99, 0) := ⟨4, 17, fs_147, RX3, TX3, rfl, rfl, by decide, rfl, by decide, rfl, cf_X3, (tbg sg6 62 rfl rfl)⟩
theorem fq_X3_57_147 : Fpf RX3 57 147 15 (3, 99, 0) := ⟨fl_X3_57_147, 4, 17, fs_147, RX3, TX3, (.array (.long)), rfl, rfl, rfl, rfl, by decide +kernel, fun E S x h => reffit (fun _ => rfl) ⟨rfl, fun _ => rfl⟩ (by decide) x⟩
theorem fl_X3_60_147 : Fl RX3 60 147 16 (3, 99, 0) := ⟨4, 17, fs_147, RX3, TX3, rfl, rfl, by decide, rfl, by decide, rfl, cf_X3, (tbg sg6 63 rfl rfl)⟩
theorem fq_X3_60_147 : Fpf RX3 60 147 16 (3, 99, 0) := ⟨fl_X3_60_147, 4, 17, fs_147, RX3, TX3, (.array (.long)), rfl, rfl, rfl, rfl, by decide +kernel, fun E S x h => reffit (fun _ => rfl) ⟨rfl, fun _ => rfl⟩ (by decide) x⟩
theorem fl_X3_63_147 : Fl RX3 63 147 0 (3, 130, 0) := ⟨4, 17, fs_147, RX3, TX3, rfl, rfl, by decide, rfl, by decide, rfl, cf_X3, (tbg sg6 47 rfl rfl)⟩
theorem fq_X3_63_147 : Fpf RX3 63 147 0 (3, 130, 0) := ⟨fl_X3_63_147, 4, 17, fs_147, RX3, TX3, (.object "ShareLife$Accounts"), rfl, rfl, rfl, rfl, by decide +kernel, fun E S x h => reffit (fun _ => rfl) ⟨rfl, fun _ => rfl⟩ (by decide) x⟩
set_option maxRecDepth 100000 in
set_option maxHeartbeats 4000000 in
theorem c_X4_init (E : En) (S : Sg) (G : Gh) (this : Int) (hS : S this = 148) : Calls E mX4_init [(2, this)] S G 3 3 27 (fun r S' G' => Gr [99] [(148, 1), (148, 3), (148, 4), (148, 5)] S G S' G' ∧ r = none ∧ Fnl E fs_134 148 S' G' this) := by
  refine calls_by [(0, (2, this))] rfl rfl (Nat.le_of_ble_eq_true rfl) (fun X hX => ?_)
  have hP := hPX4_init
  refine r_ex hX hP 1 (pc' := 1) (st' := [(2, this)]) (lo' := [(0, (2, this))]) rfl ?_
  refine r_nn hX hS (by decide) (fun p1 => ?_)
  refine r_objI hX hP rfl (tbg sg2 1 rfl rfl) (tbg sg1 33 rfl rfl) (tbg sg1 34 rfl rfl) p1 (by first | decide | omega) (Nat.le_of_ble_eq_true rfl) ?_
  refine r_ex hX hP 2 (pc' := 6) (st' := [(1, 1), (2, this)]) (lo' := [(0, (2, this))]) rfl ?_
  refine r_putLK hX hP rfl fp_X4_9_148 hS (by first | decide | omega) (by first | decide | omega) (fun h2 => ?_)
  refine r_ex hX hP 2 (pc' := 12) (st' := [(0, 9), (2, this)]) (lo' := [(0, (2, this))]) rfl ?_
  have g3 : Gr [99] [(148, 1), (148, 3), (148, 4), (148, 5)] S G S (up G 148 this 1 1) := (gr_up (gr_refl [99] [(148, 1), (148, 3), (148, 4), (148, 5)] S G) rfl)
  refine r_newarrA hX hP rfl (L := 99) (n := 9) al_99 (by decide) rfl rfl rfl (tbg sg1 123 rfl rfl) (by decide) (by first | decide | omega) (by first | decide | omega) (fun n4 S5 G6 n4z n4n n4l g7 n4v => ?_)
  have z8 : S n4 = 0 := gr_zero g3 n4z
  have s9 : S5 this = 148 := gr_lab g7 hS (by decide)
  have e10 : 1 = G6 148 this 1 := gr_val g7 h2 hS (by decide) rfl
  have g11 : Gr [99] [(148, 1), (148, 3), (148, 4), (148, 5)] S G S5 G6 := gr_call g3 g7 rfl rfl
  refine r_putFN hX hP rfl rfl fq_X4_15_148 s9 (by decide) (Or.inr n4l) (fun h12 => ?_)
  refine r_ex hX hP 2 (pc' := 20) (st' := [(0, 9), (2, this)]) (lo' := [(0, (2, this))]) rfl ?_
  have g13 : Gr [99] [(148, 1), (148, 3), (148, 4), (148, 5)] S G S5 (up G6 148 this 3 n4) := (gr_up g11 rfl)
  refine r_newarrA hX hP rfl (L := 99) (n := 9) al_99 (by decide) rfl rfl rfl (tbg sg1 123 rfl rfl) (by decide) (by first | decide | omega) (by first | decide | omega) (fun n14 S15 G16 n14z n14n n14l g17 n14v => ?_)
  have z18 : S n14 = 0 := gr_zero g13 n14z
  have s19 : S15 this = 148 := gr_lab g17 s9 (by decide)
  have s20 : S15 n4 = 99 := gr_lab g17 n4l (by decide)
  have e21 : 1 = G16 148 this 1 := gr_val g17 e10 s9 (by decide) rfl
  have e22 : n4 = G16 148 this 3 := gr_val g17 h12 s9 (by decide) rfl
  have g23 : Gr [99] [(148, 1), (148, 3), (148, 4), (148, 5)] S G S15 G16 := gr_call g13 g17 rfl rfl
  refine r_putFN hX hP rfl rfl fq_X4_19_148 s19 (by decide) (Or.inr n14l) (fun h24 => ?_)
  refine r_ex hX hP 2 (pc' := 28) (st' := [(0, 9), (2, this)]) (lo' := [(0, (2, this))]) rfl ?_
  have g25 : Gr [99] [(148, 1), (148, 3), (148, 4), (148, 5)] S G S15 (up G16 148 this 4 n14) := (gr_up g23 rfl)
  refine r_newarrA hX hP rfl (L := 99) (n := 9) al_99 (by decide) rfl rfl rfl (tbg sg1 123 rfl rfl) (by decide) (by first | decide | omega) (by first | decide | omega) (fun n26 S27 G28 n26z n26n n26l g29 n26v => ?_)
  have z30 : S n26 = 0 := gr_zero g25 n26z
  have s31 : S27 this = 148 := gr_lab g29 s19 (by decide)
  have s32 : S27 n4 = 99 := gr_lab g29 s20 (by decide)
  have s33 : S27 n14 = 99 := gr_lab g29 n14l (by decide)
  have e34 : 1 = G28 148 this 1 := gr_val g29 e21 s19 (by decide) rfl
  have e35 : n4 = G28 148 this 3 := gr_val g29 e22 s19 (by decide) rfl
  have e36 : n14 = G28 148 this 4 := gr_val g29 h24 s19 (by decide) rfl
  have g37 : Gr [99] [(148, 1), (148, 3), (148, 4), (148, 5)] S G S27 G28 := gr_call g25 g29 rfl rfl
  refine r_putFN hX hP rfl rfl fq_X4_22_148 s31 (by decide) (Or.inr n26l) (fun h38 => ?_)
  refine r_finA hX (L := 148) (ci := 5) (fs := fs_148) rfl s31 (by decide) (fun hr39 => ?_)
  have hf40 : Fnl E fs_134 148 S27 (up G28 148 this 5 n26) this := by
    intro j hj
    rcases (by have : j < 6 := hj; omega : j = 0 ∨ j = 1 ∨ j = 2 ∨ j = 3 ∨ j = 4 ∨ j = 5) with rfl | rfl | rfl | rfl | rfl | rfl
    · exact hr39 0 (by decide)
    · exact hr39 1 (by decide)
    · exact hr39 2 (by decide)
    · exact ⟨lab_of e35 s32, by decide⟩
    · exact ⟨lab_of e36 s33, by decide⟩
    · exact ⟨lab_of h38 n26l, by decide⟩
  have g41 : Gr [99] [(148, 1), (148, 3), (148, 4), (148, 5)] S G S27 (up G28 148 this 5 n26) := (gr_up g37 rfl)
  exact r_retV hX hP rfl rfl (by first | decide | omega) (by first | decide | omega) ⟨g41, rfl, hf40⟩
set_option maxRecDepth 100000 in
set_option maxHeartbeats 4000000 in
theorem c_X7_init (E : En) (S : Sg) (G : Gh) (this : Int) (hS : S this = 146) : Calls E mX7_init [(2, this)] S G 3 11 136 (fun r S' G' => Gr [108, 109, 110, 111, 112, 113] [(146, 5), (146, 6), (146, 7), (146, 8), (146, 9), (146, 10), (146, 11), (146, 13), (146, 14), (146, 15), (146, 16)] S G S' G' ∧ r = none ∧ Fnl E fs_132 146 S' G' this) := by
  refine calls_by [(0, (2, this))] rfl rfl (Nat.le_of_ble_eq_true rfl) (fun X hX => ?_)
  have hP := hPX7_init
  refine r_ex hX hP 1 (pc' := 1) (st' := [(2, this)]) (lo' := [(0, (2, this))]) rfl ?_
  refine r_nn hX hS (by decide) (fun p1 => ?_)
  refine r_objI hX hP rfl (tbg sg2 90 rfl rfl) (tbg sg1 33 rfl rfl) (tbg sg1 34 rfl rfl) p1 (by first | decide | omega) (Nat.le_of_ble_eq_true rfl) ?_
  refine r_ex hX hP 2 (pc' := 7) (st' := [(0, 12), (2, this)]) (lo' := [(0, (2, this))]) rfl ?_
  refine r_newarrA hX hP rfl (L := 108) (n := 12) al_108 (by decide) rfl rfl rfl (tbg sg1 124 rfl rfl) (by decide) (by first | decide | omega) (by first | decide | omega) (fun n2 S3 G4 n2z n2n n2l g5 n2v => ?_)
  have z6 : S n2 = 0 := gr_zero (gr_refl [108, 109, 110, 111, 112, 113] [(146, 5), (146, 6), (146, 7), (146, 8), (146, 9), (146, 10), (146, 11), (146, 13), (146, 14), (146, 15), (146, 16)] S G) n2z
  have s7 : S3 this = 146 := gr_lab g5 hS (by decide)
  have g8 : Gr [108, 109, 110, 111, 112, 113] [(146, 5), (146, 6), (146, 7), (146, 8), (146, 9), (146, 10), (146, 11), (146, 13), (146, 14), (146, 15), (146, 16)] S G S3 G4 := gr_call (gr_refl [108, 109, 110, 111, 112, 113] [(146, 5), (146, 6), (146, 7), (146, 8), (146, 9), (146, 10), (146, 11), (146, 13), (146, 14), (146, 15), (146, 16)] S G) g5 rfl rfl
  refine r_putFN hX hP rfl rfl fq_X7_9_146 s7 (by decide) (Or.inr n2l) (fun h9 => ?_)
  refine r_ex hX hP 2 (pc' := 15) (st' := [(0, 12), (2, this)]) (lo' := [(0, (2, this))]) rfl ?_
  have g10 : Gr [108, 109, 110, 111, 112, 113] [(146, 5), (146, 6), (146, 7), (146, 8), (146, 9), (146, 10), (146, 11), (146, 13), (146, 14), (146, 15), (146, 16)] S G S3 (up G4 146 this 5 n2) := (gr_up g8 rfl)
  refine r_newarrA hX hP rfl (L := 108) (n := 12) al_108 (by decide) rfl rfl rfl (tbg sg1 124 rfl rfl) (by decide) (by first | decide | omega) (by first | decide | omega) (fun n11 S12 G13 n11z n11n n11l g14 n11v => ?_)
  have z15 : S n11 = 0 := gr_zero g10 n11z
  have s16 : S12 this = 146 := gr_lab g14 s7 (by decide)
  have s17 : S12 n2 = 108 := gr_lab g14 n2l (by decide)
  have e18 : n2 = G13 146 this 5 := gr_val g14 h9 s7 (by decide) rfl
  have g19 : Gr [108, 109, 110, 111, 112, 113] [(146, 5), (146, 6), (146, 7), (146, 8), (146, 9), (146, 10), (146, 11), (146, 13), (146, 14), (146, 15), (146, 16)] S G S12 G13 := gr_call g10 g14 rfl rfl
  refine r_putFN hX hP rfl rfl fq_X7_15_146 s16 (by decide) (Or.inr n11l) (fun h20 => ?_)
  refine r_ex hX hP 2 (pc' := 23) (st' := [(0, 12), (2, this)]) (lo' := [(0, (2, this))]) rfl ?_
  have g21 : Gr [108, 109, 110, 111, 112, 113] [(146, 5), (146, 6), (146, 7), (146, 8), (146, 9), (146, 10), (146, 11), (146, 13), (146, 14), (146, 15), (146, 16)] S G S12 (up G13 146 this 6 n11) := (gr_up g19 rfl)
  refine r_newarrA hX hP rfl (L := 108) (n := 12) al_108 (by decide) rfl rfl rfl (tbg sg1 124 rfl rfl) (by decide) (by first | decide | omega) (by first | decide | omega) (fun n22 S23 G24 n22z n22n n22l g25 n22v => ?_)
  have z26 : S n22 = 0 := gr_zero g21 n22z
  have s27 : S23 this = 146 := gr_lab g25 s16 (by decide)
  have s28 : S23 n2 = 108 := gr_lab g25 s17 (by decide)
  have s29 : S23 n11 = 108 := gr_lab g25 n11l (by decide)
  have e30 : n2 = G24 146 this 5 := gr_val g25 e18 s16 (by decide) rfl
  have e31 : n11 = G24 146 this 6 := gr_val g25 h20 s16 (by decide) rfl
  have g32 : Gr [108, 109, 110, 111, 112, 113] [(146, 5), (146, 6), (146, 7), (146, 8), (146, 9), (146, 10), (146, 11), (146, 13), (146, 14), (146, 15), (146, 16)] S G S23 G24 := gr_call g21 g25 rfl rfl
  refine r_putFN hX hP rfl rfl fq_X7_18_146 s27 (by decide) (Or.inr n22l) (fun h33 => ?_)
  refine r_ex hX hP 2 (pc' := 31) (st' := [(0, 12), (2, this)]) (lo' := [(0, (2, this))]) rfl ?_
  have g34 : Gr [108, 109, 110, 111, 112, 113] [(146, 5), (146, 6), (146, 7), (146, 8), (146, 9), (146, 10), (146, 11), (146, 13), (146, 14), (146, 15), (146, 16)] S G S23 (up G24 146 this 7 n22) := (gr_up g32 rfl)
  refine r_newarrA hX hP rfl (L := 108) (n := 12) al_108 (by decide) rfl rfl rfl (tbg sg1 124 rfl rfl) (by decide) (by first | decide | omega) (by first | decide | omega) (fun n35 S36 G37 n35z n35n n35l g38 n35v => ?_)
  have z39 : S n35 = 0 := gr_zero g34 n35z
  have s40 : S36 this = 146 := gr_lab g38 s27 (by decide)
  have s41 : S36 n2 = 108 := gr_lab g38 s28 (by decide)
  have s42 : S36 n11 = 108 := gr_lab g38 s29 (by decide)
  have s43 : S36 n22 = 108 := gr_lab g38 n22l (by decide)
  have e44 : n2 = G37 146 this 5 := gr_val g38 e30 s27 (by decide) rfl
  have e45 : n11 = G37 146 this 6 := gr_val g38 e31 s27 (by decide) rfl
  have e46 : n22 = G37 146 this 7 := gr_val g38 h33 s27 (by decide) rfl
  have g47 : Gr [108, 109, 110, 111, 112, 113] [(146, 5), (146, 6), (146, 7), (146, 8), (146, 9), (146, 10), (146, 11), (146, 13), (146, 14), (146, 15), (146, 16)] S G S36 G37 := gr_call g34 g38 rfl rfl
  refine r_putFN hX hP rfl rfl fq_X7_21_146 s40 (by decide) (Or.inr n35l) (fun h48 => ?_)
  refine r_ex hX hP 2 (pc' := 39) (st' := [(0, 12), (2, this)]) (lo' := [(0, (2, this))]) rfl ?_
  have g49 : Gr [108, 109, 110, 111, 112, 113] [(146, 5), (146, 6), (146, 7), (146, 8), (146, 9), (146, 10), (146, 11), (146, 13), (146, 14), (146, 15), (146, 16)] S G S36 (up G37 146 this 8 n35) := (gr_up g47 rfl)
  refine r_newarrA hX hP rfl (L := 108) (n := 12) al_108 (by decide) rfl rfl rfl (tbg sg1 124 rfl rfl) (by decide) (by first | decide | omega) (by first | decide | omega) (fun n50 S51 G52 n50z n50n n50l g53 n50v => ?_)
  have z54 : S n50 = 0 := gr_zero g49 n50z
  have s55 : S51 this = 146 := gr_lab g53 s40 (by decide)
  have s56 : S51 n2 = 108 := gr_lab g53 s41 (by decide)
  have s57 : S51 n11 = 108 := gr_lab g53 s42 (by decide)
  have s58 : S51 n22 = 108 := gr_lab g53 s43 (by decide)
  have s59 : S51 n35 = 108 := gr_lab g53 n35l (by decide)
  have e60 : n2 = G52 146 this 5 := gr_val g53 e44 s40 (by decide) rfl
  have e61 : n11 = G52 146 this 6 := gr_val g53 e45 s40 (by decide) rfl
  have e62 : n22 = G52 146 this 7 := gr_val g53 e46 s40 (by decide) rfl
  have e63 : n35 = G52 146 this 8 := gr_val g53 h48 s40 (by decide) rfl
  have g64 : Gr [108, 109, 110, 111, 112, 113] [(146, 5), (146, 6), (146, 7), (146, 8), (146, 9), (146, 10), (146, 11), (146, 13), (146, 14), (146, 15), (146, 16)] S G S51 G52 := gr_call g49 g53 rfl rfl
  refine r_putFN hX hP rfl rfl fq_X7_24_146 s55 (by decide) (Or.inr n50l) (fun h65 => ?_)
  refine r_ex hX hP 2 (pc' := 47) (st' := [(0, 12), (2, this)]) (lo' := [(0, (2, this))]) rfl ?_
  have g66 : Gr [108, 109, 110, 111, 112, 113] [(146, 5), (146, 6), (146, 7), (146, 8), (146, 9), (146, 10), (146, 11), (146, 13), (146, 14), (146, 15), (146, 16)] S G S51 (up G52 146 this 9 n50) := (gr_up g64 rfl)
  refine r_newarrA hX hP rfl (L := 110) (n := 12) al_110 (by decide) rfl rfl rfl (tbg sg2 147 rfl rfl) (by decide) (by first | decide | omega) (by first | decide | omega) (fun n67 S68 G69 n67z n67n n67l g70 n67v => ?_)
  have z71 : S n67 = 0 := gr_zero g66 n67z
  have s72 : S68 this = 146 := gr_lab g70 s55 (by decide)
  have s73 : S68 n2 = 108 := gr_lab g70 s56 (by decide)
  have s74 : S68 n11 = 108 := gr_lab g70 s57 (by decide)
  have s75 : S68 n22 = 108 := gr_lab g70 s58 (by decide)
  have s76 : S68 n35 = 108 := gr_lab g70 s59 (by decide)
  have s77 : S68 n50 = 108 := gr_lab g70 n50l (by decide)
  have e78 : n2 = G69 146 this 5 := gr_val g70 e60 s55 (by decide) rfl
  have e79 : n11 = G69 146 this 6 := gr_val g70 e61 s55 (by decide) rfl
  have e80 : n22 = G69 146 this 7 := gr_val g70 e62 s55 (by decide) rfl
  have e81 : n35 = G69 146 this 8 := gr_val g70 e63 s55 (by decide) rfl
  have e82 : n50 = G69 146 this 9 := gr_val g70 h65 s55 (by decide) rfl
  have g83 : Gr [108, 109, 110, 111, 112, 113] [(146, 5), (146, 6), (146, 7), (146, 8), (146, 9), (146, 10), (146, 11), (146, 13), (146, 14), (146, 15), (146, 16)] S G S68 G69 := gr_call g66 g70 rfl rfl
  refine r_putFN hX hP rfl rfl fq_X7_27_146 s72 (by decide) (Or.inr n67l) (fun h84 => ?_)
  refine r_ex hX hP 2 (pc' := 55) (st' := [(0, 12), (2, this)]) (lo' := [(0, (2, this))]) rfl ?_
  have g85 : Gr [108, 109, 110, 111, 112, 113] [(146, 5), (146, 6), (146, 7), (146, 8), (146, 9), (146, 10), (146, 11), (146, 13), (146, 14), (146, 15), (146, 16)] S G S68 (up G69 146 this 10 n67) := (gr_up g83 rfl)
  refine r_newarrA hX hP rfl (L := 109) (n := 12) al_109 (by decide) rfl rfl rfl (tbg sg1 124 rfl rfl) (by decide) (by first | decide | omega) (by first | decide | omega) (fun n86 S87 G88 n86z n86n n86l g89 n86v => ?_)
  have z90 : S n86 = 0 := gr_zero g85 n86z
  have s91 : S87 this = 146 := gr_lab g89 s72 (by decide)
  have s92 : S87 n2 = 108 := gr_lab g89 s73 (by decide)
  have s93 : S87 n11 = 108 := gr_lab g89 s74 (by decide)
  have s94 : S87 n22 = 108 := gr_lab g89 s75 (by decide)
  have s95 : S87 n35 = 108 := gr_lab g89 s76 (by decide)
  have s96 : S87 n50 = 108 := gr_lab g89 s77 (by decide)
  have s97 : S87 n67 = 110 := gr_lab g89 n67l (by decide)
  have e98 : n2 = G88 146 this 5 := gr_val g89 e78 s72 (by decide) rfl
  have e99 : n11 = G88 146 this 6 := gr_val g89 e79 s72 (by decide) rfl
  have e100 : n22 = G88 146 this 7 := gr_val g89 e80 s72 (by decide) rfl
  have e101 : n35 = G88 146 this 8 := gr_val g89 e81 s72 (by decide) rfl
  have e102 : n50 = G88 146 this 9 := gr_val g89 e82 s72 (by decide) rfl
  have e103 : n67 = G88 146 this 10 := gr_val g89 h84 s72 (by decide) rfl
  have g104 : Gr [108, 109, 110, 111, 112, 113] [(146, 5), (146, 6), (146, 7), (146, 8), (146, 9), (146, 10), (146, 11), (146, 13), (146, 14), (146, 15), (146, 16)] S G S87 G88 := gr_call g85 g89 rfl rfl
  refine r_putFN hX hP rfl rfl fq_X7_31_146 s91 (by decide) (Or.inr n86l) (fun h105 => ?_)
  refine r_ex hX hP 2 (pc' := 63) (st' := [(0, 13), (2, this)]) (lo' := [(0, (2, this))]) rfl ?_
  have g106 : Gr [108, 109, 110, 111, 112, 113] [(146, 5), (146, 6), (146, 7), (146, 8), (146, 9), (146, 10), (146, 11), (146, 13), (146, 14), (146, 15), (146, 16)] S G S87 (up G88 146 this 11 n86) := (gr_up g104 rfl)
  refine r_newarrA hX hP rfl (L := 111) (n := 13) al_111 (by decide) rfl rfl rfl (tbg sg1 124 rfl rfl) (by decide) (by first | decide | omega) (by first | decide | omega) (fun n107 S108 G109 n107z n107n n107l g110 n107v => ?_)
  have z111 : S n107 = 0 := gr_zero g106 n107z
  have s112 : S108 this = 146 := gr_lab g110 s91 (by decide)
  have s113 : S108 n2 = 108 := gr_lab g110 s92 (by decide)
  have s114 : S108 n11 = 108 := gr_lab g110 s93 (by decide)
  have s115 : S108 n22 = 108 := gr_lab g110 s94 (by decide)
  have s116 : S108 n35 = 108 := gr_lab g110 s95 (by decide)
  have s117 : S108 n50 = 108 := gr_lab g110 s96 (by decide)
  have s118 : S108 n67 = 110 := gr_lab g110 s97 (by decide)
  have s119 : S108 n86 = 109 := gr_lab g110 n86l (by decide)
  have e120 : n2 = G109 146 this 5 := gr_val g110 e98 s91 (by decide) rfl
  have e121 : n11 = G109 146 this 6 := gr_val g110 e99 s91 (by decide) rfl
  have e122 : n22 = G109 146 this 7 := gr_val g110 e100 s91 (by decide) rfl
  have e123 : n35 = G109 146 this 8 := gr_val g110 e101 s91 (by decide) rfl
  have e124 : n50 = G109 146 this 9 := gr_val g110 e102 s91 (by decide) rfl
  have e125 : n67 = G109 146 this 10 := gr_val g110 e103 s91 (by decide) rfl
  have e126 : n86 = G109 146 this 11 := gr_val g110 h105 s91 (by decide) rfl
  have g127 : Gr [108, 109, 110, 111, 112, 113] [(146, 5), (146, 6), (146, 7), (146, 8), (146, 9), (146, 10), (146, 11), (146, 13), (146, 14), (146, 15), (146, 16)] S G S108 G109 := gr_call g106 g110 rfl rfl
  refine r_putFN hX hP rfl rfl fq_X7_34_146 s112 (by decide) (Or.inr n107l) (fun h128 => ?_)
  refine r_ex hX hP 2 (pc' := 71) (st' := [(0, 13), (2, this)]) (lo' := [(0, (2, this))]) rfl ?_
  have g129 : Gr [108, 109, 110, 111, 112, 113] [(146, 5), (146, 6), (146, 7), (146, 8), (146, 9), (146, 10), (146, 11), (146, 13), (146, 14), (146, 15), (146, 16)] S G S108 (up G109 146 this 13 n107) := (gr_up g127 rfl)
  refine r_newarrA hX hP rfl (L := 112) (n := 13) al_112 (by decide) rfl rfl rfl (tbg sg1 124 rfl rfl) (by decide) (by first | decide | omega) (by first | decide | omega) (fun n130 S131 G132 n130z n130n n130l g133 n130v => ?_)
  have z134 : S n130 = 0 := gr_zero g129 n130z
  have s135 : S131 this = 146 := gr_lab g133 s112 (by decide)
  have s136 : S131 n2 = 108 := gr_lab g133 s113 (by decide)
  have s137 : S131 n11 = 108 := gr_lab g133 s114 (by decide)
  have s138 : S131 n22 = 108 := gr_lab g133 s115 (by decide)
  have s139 : S131 n35 = 108 := gr_lab g133 s116 (by decide)
  have s140 : S131 n50 = 108 := gr_lab g133 s117 (by decide)
  have s141 : S131 n67 = 110 := gr_lab g133 s118 (by decide)
  have s142 : S131 n86 = 109 := gr_lab g133 s119 (by decide)
  have s143 : S131 n107 = 111 := gr_lab g133 n107l (by decide)
  have e144 : n2 = G132 146 this 5 := gr_val g133 e120 s112 (by decide) rfl
  have e145 : n11 = G132 146 this 6 := gr_val g133 e121 s112 (by decide) rfl
  have e146 : n22 = G132 146 this 7 := gr_val g133 e122 s112 (by decide) rfl
  have e147 : n35 = G132 146 this 8 := gr_val g133 e123 s112 (by decide) rfl
  have e148 : n50 = G132 146 this 9 := gr_val g133 e124 s112 (by decide) rfl
  have e149 : n67 = G132 146 this 10 := gr_val g133 e125 s112 (by decide) rfl
  have e150 : n86 = G132 146 this 11 := gr_val g133 e126 s112 (by decide) rfl
  have e151 : n107 = G132 146 this 13 := gr_val g133 h128 s112 (by decide) rfl
  have g152 : Gr [108, 109, 110, 111, 112, 113] [(146, 5), (146, 6), (146, 7), (146, 8), (146, 9), (146, 10), (146, 11), (146, 13), (146, 14), (146, 15), (146, 16)] S G S131 G132 := gr_call g129 g133 rfl rfl
  refine r_putFN hX hP rfl rfl fq_X7_37_146 s135 (by decide) (Or.inr n130l) (fun h153 => ?_)
  refine r_ex hX hP 2 (pc' := 79) (st' := [(0, 13), (2, this)]) (lo' := [(0, (2, this))]) rfl ?_
  have g154 : Gr [108, 109, 110, 111, 112, 113] [(146, 5), (146, 6), (146, 7), (146, 8), (146, 9), (146, 10), (146, 11), (146, 13), (146, 14), (146, 15), (146, 16)] S G S131 (up G132 146 this 14 n130) := (gr_up g152 rfl)
  refine r_newarrA hX hP rfl (L := 113) (n := 13) al_113 (by decide) rfl rfl rfl (tbg sg1 123 rfl rfl) (by decide) (by first | decide | omega) (by first | decide | omega) (fun n155 S156 G157 n155z n155n n155l g158 n155v => ?_)
  have z159 : S n155 = 0 := gr_zero g154 n155z
  have s160 : S156 this = 146 := gr_lab g158 s135 (by decide)
  have s161 : S156 n2 = 108 := gr_lab g158 s136 (by decide)
  have s162 : S156 n11 = 108 := gr_lab g158 s137 (by decide)
  have s163 : S156 n22 = 108 := gr_lab g158 s138 (by decide)
  have s164 : S156 n35 = 108 := gr_lab g158 s139 (by decide)
  have s165 : S156 n50 = 108 := gr_lab g158 s140 (by decide)
  have s166 : S156 n67 = 110 := gr_lab g158 s141 (by decide)
  have s167 : S156 n86 = 109 := gr_lab g158 s142 (by decide)
  have s168 : S156 n107 = 111 := gr_lab g158 s143 (by decide)
  have s169 : S156 n130 = 112 := gr_lab g158 n130l (by decide)
  have e170 : n2 = G157 146 this 5 := gr_val g158 e144 s135 (by decide) rfl
  have e171 : n11 = G157 146 this 6 := gr_val g158 e145 s135 (by decide) rfl
  have e172 : n22 = G157 146 this 7 := gr_val g158 e146 s135 (by decide) rfl
  have e173 : n35 = G157 146 this 8 := gr_val g158 e147 s135 (by decide) rfl
  have e174 : n50 = G157 146 this 9 := gr_val g158 e148 s135 (by decide) rfl
  have e175 : n67 = G157 146 this 10 := gr_val g158 e149 s135 (by decide) rfl
  have e176 : n86 = G157 146 this 11 := gr_val g158 e150 s135 (by decide) rfl
  have e177 : n107 = G157 146 this 13 := gr_val g158 e151 s135 (by decide) rfl
  have e178 : n130 = G157 146 this 14 := gr_val g158 h153 s135 (by decide) rfl
  have g179 : Gr [108, 109, 110, 111, 112, 113] [(146, 5), (146, 6), (146, 7), (146, 8), (146, 9), (146, 10), (146, 11), (146, 13), (146, 14), (146, 15), (146, 16)] S G S156 G157 := gr_call g154 g158 rfl rfl
  refine r_putFN hX hP rfl rfl fq_X7_40_146 s160 (by decide) (Or.inr n155l) (fun h180 => ?_)
  refine r_ex hX hP 2 (pc' := 87) (st' := [(0, 13), (2, this)]) (lo' := [(0, (2, this))]) rfl ?_
  have g181 : Gr [108, 109, 110, 111, 112, 113] [(146, 5), (146, 6), (146, 7), (146, 8), (146, 9), (146, 10), (146, 11), (146, 13), (146, 14), (146, 15), (146, 16)] S G S156 (up G157 146 this 15 n155) := (gr_up g179 rfl)
  refine r_newarrA hX hP rfl (L := 112) (n := 13) al_112 (by decide) rfl rfl rfl (tbg sg1 124 rfl rfl) (by decide) (by first | decide | omega) (by first | decide | omega) (fun n182 S183 G184 n182z n182n n182l g185 n182v => ?_)
  have z186 : S n182 = 0 := gr_zero g181 n182z
  have s187 : S183 this = 146 := gr_lab g185 s160 (by decide)
  have s188 : S183 n2 = 108 := gr_lab g185 s161 (by decide)
  have s189 : S183 n11 = 108 := gr_lab g185 s162 (by decide)
  have s190 : S183 n22 = 108 := gr_lab g185 s163 (by decide)
  have s191 : S183 n35 = 108 := gr_lab g185 s164 (by decide)
  have s192 : S183 n50 = 108 := gr_lab g185 s165 (by decide)
  have s193 : S183 n67 = 110 := gr_lab g185 s166 (by decide)
  have s194 : S183 n86 = 109 := gr_lab g185 s167 (by decide)
  have s195 : S183 n107 = 111 := gr_lab g185 s168 (by decide)
  have s196 : S183 n130 = 112 := gr_lab g185 s169 (by decide)
  have s197 : S183 n155 = 113 := gr_lab g185 n155l (by decide)
  have e198 : n2 = G184 146 this 5 := gr_val g185 e170 s160 (by decide) rfl
  have e199 : n11 = G184 146 this 6 := gr_val g185 e171 s160 (by decide) rfl
  have e200 : n22 = G184 146 this 7 := gr_val g185 e172 s160 (by decide) rfl
  have e201 : n35 = G184 146 this 8 := gr_val g185 e173 s160 (by decide) rfl
  have e202 : n50 = G184 146 this 9 := gr_val g185 e174 s160 (by decide) rfl
  have e203 : n67 = G184 146 this 10 := gr_val g185 e175 s160 (by decide) rfl
  have e204 : n86 = G184 146 this 11 := gr_val g185 e176 s160 (by decide) rfl
  have e205 : n107 = G184 146 this 13 := gr_val g185 e177 s160 (by decide) rfl
  have e206 : n130 = G184 146 this 14 := gr_val g185 e178 s160 (by decide) rfl
  have e207 : n155 = G184 146 this 15 := gr_val g185 h180 s160 (by decide) rfl
  have g208 : Gr [108, 109, 110, 111, 112, 113] [(146, 5), (146, 6), (146, 7), (146, 8), (146, 9), (146, 10), (146, 11), (146, 13), (146, 14), (146, 15), (146, 16)] S G S183 G184 := gr_call g181 g185 rfl rfl
  refine r_putFN hX hP rfl rfl fq_X7_44_146 s187 (by decide) (Or.inr n182l) (fun h209 => ?_)
  refine r_finA hX (L := 146) (ci := 8) (fs := fs_146) rfl s187 (by decide) (fun hr210 => ?_)
  have hf211 : Fnl E fs_132 146 S183 (up G184 146 this 16 n182) this := by
    intro j hj
    rcases (by have : j < 17 := hj; omega : j = 0 ∨ j = 1 ∨ j = 2 ∨ j = 3 ∨ j = 4 ∨ j = 5 ∨ j = 6 ∨ j = 7 ∨ j = 8 ∨ j = 9 ∨ j = 10 ∨ j = 11 ∨ j = 12 ∨ j = 13 ∨ j = 14 ∨ j = 15 ∨ j = 16) with rfl | rfl | rfl | rfl | rfl | rfl | rfl | rfl | rfl | rfl | rfl | rfl | rfl | rfl | rfl | rfl | rfl
    · exact hr210 0 (by decide)
    · exact hr210 1 (by decide)
    · exact hr210 2 (by decide)
    · exact hr210 3 (by decide)
    · exact hr210 4 (by decide)
    · exact ⟨lab_of e198 s188, by decide⟩
    · exact ⟨lab_of e199 s189, by decide⟩
    · exact ⟨lab_of e200 s190, by decide⟩
    · exact ⟨lab_of e201 s191, by decide⟩
    · exact ⟨lab_of e202 s192, by decide⟩
    · exact ⟨lab_of e203 s193, by decide⟩
    · exact ⟨lab_of e204 s194, by decide⟩
    · exact hr210 12 (by decide)
    · exact ⟨lab_of e205 s195, by decide⟩
    · exact ⟨lab_of e206 s196, by decide⟩
    · exact ⟨lab_of e207 s197, by decide⟩
    · exact ⟨lab_of h209 n182l, by decide⟩
  have g212 : Gr [108, 109, 110, 111, 112, 113] [(146, 5), (146, 6), (146, 7), (146, 8), (146, 9), (146, 10), (146, 11), (146, 13), (146, 14), (146, 15), (146, 16)] S G S183 (up G184 146 this 16 n182) := (gr_up g208 rfl)
  exact r_retV hX hP rfl rfl (by first | decide | omega) (by first | decide | omega) ⟨g212, rfl, hf211⟩
set_option maxRecDepth 100000 in
set_option maxHeartbeats 4000000 in
theorem c_X0_init (E : En) (S : Sg) (G : Gh) (this : Int) (hS : S this = 144) : Calls E mX0_init [(2, this)] S G 3 25 472 (fun r S' G' => Gr [93, 94, 95, 96, 97, 98] [(144, 1), (144, 2), (144, 3), (144, 4), (144, 5), (144, 6), (144, 7), (144, 8), (144, 9), (144, 10), (144, 11), (144, 12), (144, 13), (144, 14), (144, 15), (144, 16), (144, 17)] S G S' G' ∧ r = none ∧ Fnl E fs_130 144 S' G' this) := by
  refine calls_by [(0, (2, this))] rfl rfl (Nat.le_of_ble_eq_true rfl) (fun X hX => ?_)
  have hP := hPX0_init
  refine r_ex hX hP 1 (pc' := 1) (st' := [(2, this)]) (lo' := [(0, (2, this))]) rfl ?_
  refine r_nn hX hS (by decide) (fun p1 => ?_)
  refine r_objI hX hP rfl (tbg sg1 49 rfl rfl) (tbg sg1 33 rfl rfl) (tbg sg1 34 rfl rfl) p1 (by first | decide | omega) (Nat.le_of_ble_eq_true rfl) ?_
  refine r_ex hX hP 2 (pc' := 7) (st' := [(0, 20), (2, this)]) (lo' := [(0, (2, this))]) rfl ?_
  refine r_newarrA hX hP rfl (L := 93) (n := 20) al_93 (by decide) rfl rfl rfl (tbg sg1 124 rfl rfl) (by decide) (by first | decide | omega) (by first | decide | omega) (fun n2 S3 G4 n2z n2n n2l g5 n2v => ?_)
  have z6 : S n2 = 0 := gr_zero (gr_refl [93, 94, 95, 96, 97, 98] [(144, 1), (144, 2), (144, 3), (144, 4), (144, 5), (144, 6), (144, 7), (144, 8), (144, 9), (144, 10), (144, 11), (144, 12), (144, 13), (144, 14), (144, 15), (144, 16), (144, 17)] S G) n2z
  have s7 : S3 this = 144 := gr_lab g5 hS (by decide)
  have g8 : Gr [93, 94, 95, 96, 97, 98] [(144, 1), (144, 2), (144, 3), (144, 4), (144, 5), (144, 6), (144, 7), (144, 8), (144, 9), (144, 10), (144, 11), (144, 12), (144, 13), (144, 14), (144, 15), (144, 16), (144, 17)] S G S3 G4 := gr_call (gr_refl [93, 94, 95, 96, 97, 98] [(144, 1), (144, 2), (144, 3), (144, 4), (144, 5), (144, 6), (144, 7), (144, 8), (144, 9), (144, 10), (144, 11), (144, 12), (144, 13), (144, 14), (144, 15), (144, 16), (144, 17)] S G) g5 rfl rfl
  refine r_putFN hX hP rfl rfl fq_X0_9_144 s7 (by decide) (Or.inr n2l) (fun h9 => ?_)
  refine r_ex hX hP 2 (pc' := 15) (st' := [(0, 20), (2, this)]) (lo' := [(0, (2, this))]) rfl ?_
  have g10 : Gr [93, 94, 95, 96, 97, 98] [(144, 1), (144, 2), (144, 3), (144, 4), (144, 5), (144, 6), (144, 7), (144, 8), (144, 9), (144, 10), (144, 11), (144, 12), (144, 13), (144, 14), (144, 15), (144, 16), (144, 17)] S G S3 (up G4 144 this 1 n2) := (gr_up g8 rfl)
  refine r_newarrA hX hP rfl (L := 94) (n := 20) al_94 (by decide) rfl rfl rfl (tbg sg1 124 rfl rfl) (by decide) (by first | decide | omega) (by first | decide | omega) (fun n11 S12 G13 n11z n11n n11l g14 n11v => ?_)
  have z15 : S n11 = 0 := gr_zero g10 n11z
  have s16 : S12 this = 144 := gr_lab g14 s7 (by decide)
  have s17 : S12 n2 = 93 := gr_lab g14 n2l (by decide)
  have e18 : n2 = G13 144 this 1 := gr_val g14 h9 s7 (by decide) rfl
  have g19 : Gr [93, 94, 95, 96, 97, 98] [(144, 1), (144, 2), (144, 3), (144, 4), (144, 5), (144, 6), (144, 7), (144, 8), (144, 9), (144, 10), (144, 11), (144, 12), (144, 13), (144, 14), (144, 15), (144, 16), (144, 17)] S G S12 G13 := gr_call g10 g14 rfl rfl
  refine r_putFN hX hP rfl rfl fq_X0_15_144 s16 (by decide) (Or.inr n11l) (fun h20 => ?_)
  refine r_ex hX hP 2 (pc' := 23) (st' := [(0, 20), (2, this)]) (lo' := [(0, (2, this))]) rfl ?_
  have g21 : Gr [93, 94, 95, 96, 97, 98] [(144, 1), (144, 2), (144, 3), (144, 4), (144, 5), (144, 6), (144, 7), (144, 8), (144, 9), (144, 10), (144, 11), (144, 12), (144, 13), (144, 14), (144, 15), (144, 16), (144, 17)] S G S12 (up G13 144 this 2 n11) := (gr_up g19 rfl)
  refine r_newarrA hX hP rfl (L := 94) (n := 20) al_94 (by decide) rfl rfl rfl (tbg sg1 124 rfl rfl) (by decide) (by first | decide | omega) (by first | decide | omega) (fun n22 S23 G24 n22z n22n n22l g25 n22v => ?_)
  have z26 : S n22 = 0 := gr_zero g21 n22z
  have s27 : S23 this = 144 := gr_lab g25 s16 (by decide)
  have s28 : S23 n2 = 93 := gr_lab g25 s17 (by decide)
  have s29 : S23 n11 = 94 := gr_lab g25 n11l (by decide)
  have e30 : n2 = G24 144 this 1 := gr_val g25 e18 s16 (by decide) rfl
  have e31 : n11 = G24 144 this 2 := gr_val g25 h20 s16 (by decide) rfl
  have g32 : Gr [93, 94, 95, 96, 97, 98] [(144, 1), (144, 2), (144, 3), (144, 4), (144, 5), (144, 6), (144, 7), (144, 8), (144, 9), (144, 10), (144, 11), (144, 12), (144, 13), (144, 14), (144, 15), (144, 16), (144, 17)] S G S23 G24 := gr_call g21 g25 rfl rfl
  refine r_putFN hX hP rfl rfl fq_X0_18_144 s27 (by decide) (Or.inr n22l) (fun h33 => ?_)
  refine r_ex hX hP 2 (pc' := 31) (st' := [(0, 20), (2, this)]) (lo' := [(0, (2, this))]) rfl ?_
  have g34 : Gr [93, 94, 95, 96, 97, 98] [(144, 1), (144, 2), (144, 3), (144, 4), (144, 5), (144, 6), (144, 7), (144, 8), (144, 9), (144, 10), (144, 11), (144, 12), (144, 13), (144, 14), (144, 15), (144, 16), (144, 17)] S G S23 (up G24 144 this 3 n22) := (gr_up g32 rfl)
  refine r_newarrA hX hP rfl (L := 94) (n := 20) al_94 (by decide) rfl rfl rfl (tbg sg1 124 rfl rfl) (by decide) (by first | decide | omega) (by first | decide | omega) (fun n35 S36 G37 n35z n35n n35l g38 n35v => ?_)
  have z39 : S n35 = 0 := gr_zero g34 n35z
  have s40 : S36 this = 144 := gr_lab g38 s27 (by decide)
  have s41 : S36 n2 = 93 := gr_lab g38 s28 (by decide)
  have s42 : S36 n11 = 94 := gr_lab g38 s29 (by decide)
  have s43 : S36 n22 = 94 := gr_lab g38 n22l (by decide)
  have e44 : n2 = G37 144 this 1 := gr_val g38 e30 s27 (by decide) rfl
  have e45 : n11 = G37 144 this 2 := gr_val g38 e31 s27 (by decide) rfl
  have e46 : n22 = G37 144 this 3 := gr_val g38 h33 s27 (by decide) rfl
  have g47 : Gr [93, 94, 95, 96, 97, 98] [(144, 1), (144, 2), (144, 3), (144, 4), (144, 5), (144, 6), (144, 7), (144, 8), (144, 9), (144, 10), (144, 11), (144, 12), (144, 13), (144, 14), (144, 15), (144, 16), (144, 17)] S G S36 G37 := gr_call g34 g38 rfl rfl
  refine r_putFN hX hP rfl rfl fq_X0_21_144 s40 (by decide) (Or.inr n35l) (fun h48 => ?_)
  refine r_ex hX hP 2 (pc' := 39) (st' := [(0, 20), (2, this)]) (lo' := [(0, (2, this))]) rfl ?_
  have g49 : Gr [93, 94, 95, 96, 97, 98] [(144, 1), (144, 2), (144, 3), (144, 4), (144, 5), (144, 6), (144, 7), (144, 8), (144, 9), (144, 10), (144, 11), (144, 12), (144, 13), (144, 14), (144, 15), (144, 16), (144, 17)] S G S36 (up G37 144 this 4 n35) := (gr_up g47 rfl)
  refine r_newarrA hX hP rfl (L := 94) (n := 20) al_94 (by decide) rfl rfl rfl (tbg sg1 124 rfl rfl) (by decide) (by first | decide | omega) (by first | decide | omega) (fun n50 S51 G52 n50z n50n n50l g53 n50v => ?_)
  have z54 : S n50 = 0 := gr_zero g49 n50z
  have s55 : S51 this = 144 := gr_lab g53 s40 (by decide)
  have s56 : S51 n2 = 93 := gr_lab g53 s41 (by decide)
  have s57 : S51 n11 = 94 := gr_lab g53 s42 (by decide)
  have s58 : S51 n22 = 94 := gr_lab g53 s43 (by decide)
  have s59 : S51 n35 = 94 := gr_lab g53 n35l (by decide)
  have e60 : n2 = G52 144 this 1 := gr_val g53 e44 s40 (by decide) rfl
  have e61 : n11 = G52 144 this 2 := gr_val g53 e45 s40 (by decide) rfl
  have e62 : n22 = G52 144 this 3 := gr_val g53 e46 s40 (by decide) rfl
  have e63 : n35 = G52 144 this 4 := gr_val g53 h48 s40 (by decide) rfl
  have g64 : Gr [93, 94, 95, 96, 97, 98] [(144, 1), (144, 2), (144, 3), (144, 4), (144, 5), (144, 6), (144, 7), (144, 8), (144, 9), (144, 10), (144, 11), (144, 12), (144, 13), (144, 14), (144, 15), (144, 16), (144, 17)] S G S51 G52 := gr_call g49 g53 rfl rfl
  refine r_putFN hX hP rfl rfl fq_X0_24_144 s55 (by decide) (Or.inr n50l) (fun h65 => ?_)
  refine r_ex hX hP 2 (pc' := 47) (st' := [(0, 20), (2, this)]) (lo' := [(0, (2, this))]) rfl ?_
  have g66 : Gr [93, 94, 95, 96, 97, 98] [(144, 1), (144, 2), (144, 3), (144, 4), (144, 5), (144, 6), (144, 7), (144, 8), (144, 9), (144, 10), (144, 11), (144, 12), (144, 13), (144, 14), (144, 15), (144, 16), (144, 17)] S G S51 (up G52 144 this 5 n50) := (gr_up g64 rfl)
  refine r_newarrA hX hP rfl (L := 94) (n := 20) al_94 (by decide) rfl rfl rfl (tbg sg1 124 rfl rfl) (by decide) (by first | decide | omega) (by first | decide | omega) (fun n67 S68 G69 n67z n67n n67l g70 n67v => ?_)
  have z71 : S n67 = 0 := gr_zero g66 n67z
  have s72 : S68 this = 144 := gr_lab g70 s55 (by decide)
  have s73 : S68 n2 = 93 := gr_lab g70 s56 (by decide)
  have s74 : S68 n11 = 94 := gr_lab g70 s57 (by decide)
  have s75 : S68 n22 = 94 := gr_lab g70 s58 (by decide)
  have s76 : S68 n35 = 94 := gr_lab g70 s59 (by decide)
  have s77 : S68 n50 = 94 := gr_lab g70 n50l (by decide)
  have e78 : n2 = G69 144 this 1 := gr_val g70 e60 s55 (by decide) rfl
  have e79 : n11 = G69 144 this 2 := gr_val g70 e61 s55 (by decide) rfl
  have e80 : n22 = G69 144 this 3 := gr_val g70 e62 s55 (by decide) rfl
  have e81 : n35 = G69 144 this 4 := gr_val g70 e63 s55 (by decide) rfl
  have e82 : n50 = G69 144 this 5 := gr_val g70 h65 s55 (by decide) rfl
  have g83 : Gr [93, 94, 95, 96, 97, 98] [(144, 1), (144, 2), (144, 3), (144, 4), (144, 5), (144, 6), (144, 7), (144, 8), (144, 9), (144, 10), (144, 11), (144, 12), (144, 13), (144, 14), (144, 15), (144, 16), (144, 17)] S G S68 G69 := gr_call g66 g70 rfl rfl
  refine r_putFN hX hP rfl rfl fq_X0_27_144 s72 (by decide) (Or.inr n67l) (fun h84 => ?_)
  refine r_ex hX hP 2 (pc' := 55) (st' := [(0, 20), (2, this)]) (lo' := [(0, (2, this))]) rfl ?_
  have g85 : Gr [93, 94, 95, 96, 97, 98] [(144, 1), (144, 2), (144, 3), (144, 4), (144, 5), (144, 6), (144, 7), (144, 8), (144, 9), (144, 10), (144, 11), (144, 12), (144, 13), (144, 14), (144, 15), (144, 16), (144, 17)] S G S68 (up G69 144 this 6 n67) := (gr_up g83 rfl)
  refine r_newarrA hX hP rfl (L := 93) (n := 20) al_93 (by decide) rfl rfl rfl (tbg sg1 124 rfl rfl) (by decide) (by first | decide | omega) (by first | decide | omega) (fun n86 S87 G88 n86z n86n n86l g89 n86v => ?_)
  have z90 : S n86 = 0 := gr_zero g85 n86z
  have s91 : S87 this = 144 := gr_lab g89 s72 (by decide)
  have s92 : S87 n2 = 93 := gr_lab g89 s73 (by decide)
  have s93 : S87 n11 = 94 := gr_lab g89 s74 (by decide)
  have s94 : S87 n22 = 94 := gr_lab g89 s75 (by decide)
  have s95 : S87 n35 = 94 := gr_lab g89 s76 (by decide)
  have s96 : S87 n50 = 94 := gr_lab g89 s77 (by decide)
  have s97 : S87 n67 = 94 := gr_lab g89 n67l (by decide)
  have e98 : n2 = G88 144 this 1 := gr_val g89 e78 s72 (by decide) rfl
  have e99 : n11 = G88 144 this 2 := gr_val g89 e79 s72 (by decide) rfl
  have e100 : n22 = G88 144 this 3 := gr_val g89 e80 s72 (by decide) rfl
  have e101 : n35 = G88 144 this 4 := gr_val g89 e81 s72 (by decide) rfl
  have e102 : n50 = G88 144 this 5 := gr_val g89 e82 s72 (by decide) rfl
  have e103 : n67 = G88 144 this 6 := gr_val g89 h84 s72 (by decide) rfl
  have g104 : Gr [93, 94, 95, 96, 97, 98] [(144, 1), (144, 2), (144, 3), (144, 4), (144, 5), (144, 6), (144, 7), (144, 8), (144, 9), (144, 10), (144, 11), (144, 12), (144, 13), (144, 14), (144, 15), (144, 16), (144, 17)] S G S87 G88 := gr_call g85 g89 rfl rfl
  refine r_putFN hX hP rfl rfl fq_X0_30_144 s91 (by decide) (Or.inr n86l) (fun h105 => ?_)
  refine r_ex hX hP 2 (pc' := 63) (st' := [(0, 20), (2, this)]) (lo' := [(0, (2, this))]) rfl ?_
  have g106 : Gr [93, 94, 95, 96, 97, 98] [(144, 1), (144, 2), (144, 3), (144, 4), (144, 5), (144, 6), (144, 7), (144, 8), (144, 9), (144, 10), (144, 11), (144, 12), (144, 13), (144, 14), (144, 15), (144, 16), (144, 17)] S G S87 (up G88 144 this 7 n86) := (gr_up g104 rfl)
  refine r_newarrA hX hP rfl (L := 93) (n := 20) al_93 (by decide) rfl rfl rfl (tbg sg1 124 rfl rfl) (by decide) (by first | decide | omega) (by first | decide | omega) (fun n107 S108 G109 n107z n107n n107l g110 n107v => ?_)
  have z111 : S n107 = 0 := gr_zero g106 n107z
  have s112 : S108 this = 144 := gr_lab g110 s91 (by decide)
  have s113 : S108 n2 = 93 := gr_lab g110 s92 (by decide)
  have s114 : S108 n11 = 94 := gr_lab g110 s93 (by decide)
  have s115 : S108 n22 = 94 := gr_lab g110 s94 (by decide)
  have s116 : S108 n35 = 94 := gr_lab g110 s95 (by decide)
  have s117 : S108 n50 = 94 := gr_lab g110 s96 (by decide)
  have s118 : S108 n67 = 94 := gr_lab g110 s97 (by decide)
  have s119 : S108 n86 = 93 := gr_lab g110 n86l (by decide)
  have e120 : n2 = G109 144 this 1 := gr_val g110 e98 s91 (by decide) rfl
  have e121 : n11 = G109 144 this 2 := gr_val g110 e99 s91 (by decide) rfl
  have e122 : n22 = G109 144 this 3 := gr_val g110 e100 s91 (by decide) rfl
  have e123 : n35 = G109 144 this 4 := gr_val g110 e101 s91 (by decide) rfl
  have e124 : n50 = G109 144 this 5 := gr_val g110 e102 s91 (by decide) rfl
  have e125 : n67 = G109 144 this 6 := gr_val g110 e103 s91 (by decide) rfl
  have e126 : n86 = G109 144 this 7 := gr_val g110 h105 s91 (by decide) rfl
  have g127 : Gr [93, 94, 95, 96, 97, 98] [(144, 1), (144, 2), (144, 3), (144, 4), (144, 5), (144, 6), (144, 7), (144, 8), (144, 9), (144, 10), (144, 11), (144, 12), (144, 13), (144, 14), (144, 15), (144, 16), (144, 17)] S G S108 G109 := gr_call g106 g110 rfl rfl
  refine r_putFN hX hP rfl rfl fq_X0_33_144 s112 (by decide) (Or.inr n107l) (fun h128 => ?_)
  refine r_ex hX hP 2 (pc' := 71) (st' := [(0, 20), (2, this)]) (lo' := [(0, (2, this))]) rfl ?_
  have g129 : Gr [93, 94, 95, 96, 97, 98] [(144, 1), (144, 2), (144, 3), (144, 4), (144, 5), (144, 6), (144, 7), (144, 8), (144, 9), (144, 10), (144, 11), (144, 12), (144, 13), (144, 14), (144, 15), (144, 16), (144, 17)] S G S108 (up G109 144 this 8 n107) := (gr_up g127 rfl)
  refine r_newarrA hX hP rfl (L := 93) (n := 20) al_93 (by decide) rfl rfl rfl (tbg sg1 124 rfl rfl) (by decide) (by first | decide | omega) (by first | decide | omega) (fun n130 S131 G132 n130z n130n n130l g133 n130v => ?_)
  have z134 : S n130 = 0 := gr_zero g129 n130z
  have s135 : S131 this = 144 := gr_lab g133 s112 (by decide)
  have s136 : S131 n2 = 93 := gr_lab g133 s113 (by decide)
  have s137 : S131 n11 = 94 := gr_lab g133 s114 (by decide)
  have s138 : S131 n22 = 94 := gr_lab g133 s115 (by decide)
  have s139 : S131 n35 = 94 := gr_lab g133 s116 (by decide)
  have s140 : S131 n50 = 94 := gr_lab g133 s117 (by decide)
  have s141 : S131 n67 = 94 := gr_lab g133 s118 (by decide)
  have s142 : S131 n86 = 93 := gr_lab g133 s119 (by decide)
  have s143 : S131 n107 = 93 := gr_lab g133 n107l (by decide)
  have e144 : n2 = G132 144 this 1 := gr_val g133 e120 s112 (by decide) rfl
  have e145 : n11 = G132 144 this 2 := gr_val g133 e121 s112 (by decide) rfl
  have e146 : n22 = G132 144 this 3 := gr_val g133 e122 s112 (by decide) rfl
  have e147 : n35 = G132 144 this 4 := gr_val g133 e123 s112 (by decide) rfl
  have e148 : n50 = G132 144 this 5 := gr_val g133 e124 s112 (by decide) rfl
  have e149 : n67 = G132 144 this 6 := gr_val g133 e125 s112 (by decide) rfl
  have e150 : n86 = G132 144 this 7 := gr_val g133 e126 s112 (by decide) rfl
  have e151 : n107 = G132 144 this 8 := gr_val g133 h128 s112 (by decide) rfl
  have g152 : Gr [93, 94, 95, 96, 97, 98] [(144, 1), (144, 2), (144, 3), (144, 4), (144, 5), (144, 6), (144, 7), (144, 8), (144, 9), (144, 10), (144, 11), (144, 12), (144, 13), (144, 14), (144, 15), (144, 16), (144, 17)] S G S131 G132 := gr_call g129 g133 rfl rfl
  refine r_putFN hX hP rfl rfl fq_X0_36_144 s135 (by decide) (Or.inr n130l) (fun h153 => ?_)
  refine r_ex hX hP 3 (pc' := 80) (st' := [(0, 20), (0, 4), (2, this)]) (lo' := [(0, (2, this))]) rfl ?_
  have g154 : Gr [93, 94, 95, 96, 97, 98] [(144, 1), (144, 2), (144, 3), (144, 4), (144, 5), (144, 6), (144, 7), (144, 8), (144, 9), (144, 10), (144, 11), (144, 12), (144, 13), (144, 14), (144, 15), (144, 16), (144, 17)] S G S131 (up G132 144 this 9 n130) := (gr_up g152 rfl)
  refine r_multiA hX hP rfl (L := 98) (L2 := 95) (n := 4) (k := 20) al_98 al_95 (by decide) (by decide) (by decide) (tbg sg1 50 rfl rfl) (tbg sg1 123 rfl rfl) (by decide) (by decide) (by first | decide | omega) (by first | decide | omega) (fun n155 S156 G157 n155z n155n n155l g158 => ?_)
  have z159 : S n155 = 0 := gr_zero g154 n155z
  have s160 : S156 this = 144 := gr_lab g158 s135 (by decide)
  have s161 : S156 n2 = 93 := gr_lab g158 s136 (by decide)
  have s162 : S156 n11 = 94 := gr_lab g158 s137 (by decide)
  have s163 : S156 n22 = 94 := gr_lab g158 s138 (by decide)
  have s164 : S156 n35 = 94 := gr_lab g158 s139 (by decide)
  have s165 : S156 n50 = 94 := gr_lab g158 s140 (by decide)
  have s166 : S156 n67 = 94 := gr_lab g158 s141 (by decide)
  have s167 : S156 n86 = 93 := gr_lab g158 s142 (by decide)
  have s168 : S156 n107 = 93 := gr_lab g158 s143 (by decide)
  have s169 : S156 n130 = 93 := gr_lab g158 n130l (by decide)
  have e170 : n2 = G157 144 this 1 := gr_val g158 e144 s135 (by decide) rfl
  have e171 : n11 = G157 144 this 2 := gr_val g158 e145 s135 (by decide) rfl
  have e172 : n22 = G157 144 this 3 := gr_val g158 e146 s135 (by decide) rfl
  have e173 : n35 = G157 144 this 4 := gr_val g158 e147 s135 (by decide) rfl
  have e174 : n50 = G157 144 this 5 := gr_val g158 e148 s135 (by decide) rfl
  have e175 : n67 = G157 144 this 6 := gr_val g158 e149 s135 (by decide) rfl
  have e176 : n86 = G157 144 this 7 := gr_val g158 e150 s135 (by decide) rfl
  have e177 : n107 = G157 144 this 8 := gr_val g158 e151 s135 (by decide) rfl
  have e178 : n130 = G157 144 this 9 := gr_val g158 h153 s135 (by decide) rfl
  have g179 : Gr [93, 94, 95, 96, 97, 98] [(144, 1), (144, 2), (144, 3), (144, 4), (144, 5), (144, 6), (144, 7), (144, 8), (144, 9), (144, 10), (144, 11), (144, 12), (144, 13), (144, 14), (144, 15), (144, 16), (144, 17)] S G S156 G157 := gr_call g154 g158 rfl rfl
  refine r_putFN hX hP rfl rfl fq_X0_41_144 s160 (by decide) (Or.inr n155l) (fun h180 => ?_)
  refine r_ex hX hP 3 (pc' := 91) (st' := [(0, 20), (0, 4), (2, this)]) (lo' := [(0, (2, this))]) rfl ?_
  have g181 : Gr [93, 94, 95, 96, 97, 98] [(144, 1), (144, 2), (144, 3), (144, 4), (144, 5), (144, 6), (144, 7), (144, 8), (144, 9), (144, 10), (144, 11), (144, 12), (144, 13), (144, 14), (144, 15), (144, 16), (144, 17)] S G S156 (up G157 144 this 10 n155) := (gr_up g179 rfl)
  refine r_multiA hX hP rfl (L := 98) (L2 := 95) (n := 4) (k := 20) al_98 al_95 (by decide) (by decide) (by decide) (tbg sg1 50 rfl rfl) (tbg sg1 123 rfl rfl) (by decide) (by decide) (by first | decide | omega) (by first | decide | omega) (fun n182 S183 G184 n182z n182n n182l g185 => ?_)
  have z186 : S n182 = 0 := gr_zero g181 n182z
  have s187 : S183 this = 144 := gr_lab g185 s160 (by decide)
  have s188 : S183 n2 = 93 := gr_lab g185 s161 (by decide)
  have s189 : S183 n11 = 94 := gr_lab g185 s162 (by decide)
  have s190 : S183 n22 = 94 := gr_lab g185 s163 (by decide)
  have s191 : S183 n35 = 94 := gr_lab g185 s164 (by decide)
  have s192 : S183 n50 = 94 := gr_lab g185 s165 (by decide)
  have s193 : S183 n67 = 94 := gr_lab g185 s166 (by decide)
  have s194 : S183 n86 = 93 := gr_lab g185 s167 (by decide)
  have s195 : S183 n107 = 93 := gr_lab g185 s168 (by decide)
  have s196 : S183 n130 = 93 := gr_lab g185 s169 (by decide)
  have s197 : S183 n155 = 98 := gr_lab g185 n155l (by decide)
  have e198 : n2 = G184 144 this 1 := gr_val g185 e170 s160 (by decide) rfl
  have e199 : n11 = G184 144 this 2 := gr_val g185 e171 s160 (by decide) rfl
  have e200 : n22 = G184 144 this 3 := gr_val g185 e172 s160 (by decide) rfl
  have e201 : n35 = G184 144 this 4 := gr_val g185 e173 s160 (by decide) rfl
  have e202 : n50 = G184 144 this 5 := gr_val g185 e174 s160 (by decide) rfl
  have e203 : n67 = G184 144 this 6 := gr_val g185 e175 s160 (by decide) rfl
  have e204 : n86 = G184 144 this 7 := gr_val g185 e176 s160 (by decide) rfl
  have e205 : n107 = G184 144 this 8 := gr_val g185 e177 s160 (by decide) rfl
  have e206 : n130 = G184 144 this 9 := gr_val g185 e178 s160 (by decide) rfl
  have e207 : n155 = G184 144 this 10 := gr_val g185 h180 s160 (by decide) rfl
  have g208 : Gr [93, 94, 95, 96, 97, 98] [(144, 1), (144, 2), (144, 3), (144, 4), (144, 5), (144, 6), (144, 7), (144, 8), (144, 9), (144, 10), (144, 11), (144, 12), (144, 13), (144, 14), (144, 15), (144, 16), (144, 17)] S G S183 G184 := gr_call g181 g185 rfl rfl
  refine r_putFN hX hP rfl rfl fq_X0_44_144 s187 (by decide) (Or.inr n182l) (fun h209 => ?_)
  refine r_ex hX hP 2 (pc' := 101) (st' := [(0, 20), (2, this)]) (lo' := [(0, (2, this))]) rfl ?_
  have g210 : Gr [93, 94, 95, 96, 97, 98] [(144, 1), (144, 2), (144, 3), (144, 4), (144, 5), (144, 6), (144, 7), (144, 8), (144, 9), (144, 10), (144, 11), (144, 12), (144, 13), (144, 14), (144, 15), (144, 16), (144, 17)] S G S183 (up G184 144 this 11 n182) := (gr_up g208 rfl)
  refine r_newarrA hX hP rfl (L := 95) (n := 20) al_95 (by decide) rfl rfl rfl (tbg sg1 123 rfl rfl) (by decide) (by first | decide | omega) (by first | decide | omega) (fun n211 S212 G213 n211z n211n n211l g214 n211v => ?_)
  have z215 : S n211 = 0 := gr_zero g210 n211z
  have s216 : S212 this = 144 := gr_lab g214 s187 (by decide)
  have s217 : S212 n2 = 93 := gr_lab g214 s188 (by decide)
  have s218 : S212 n11 = 94 := gr_lab g214 s189 (by decide)
  have s219 : S212 n22 = 94 := gr_lab g214 s190 (by decide)
  have s220 : S212 n35 = 94 := gr_lab g214 s191 (by decide)
  have s221 : S212 n50 = 94 := gr_lab g214 s192 (by decide)
  have s222 : S212 n67 = 94 := gr_lab g214 s193 (by decide)
  have s223 : S212 n86 = 93 := gr_lab g214 s194 (by decide)
  have s224 : S212 n107 = 93 := gr_lab g214 s195 (by decide)
  have s225 : S212 n130 = 93 := gr_lab g214 s196 (by decide)
  have s226 : S212 n155 = 98 := gr_lab g214 s197 (by decide)
  have s227 : S212 n182 = 98 := gr_lab g214 n182l (by decide)
  have e228 : n2 = G213 144 this 1 := gr_val g214 e198 s187 (by decide) rfl
  have e229 : n11 = G213 144 this 2 := gr_val g214 e199 s187 (by decide) rfl
  have e230 : n22 = G213 144 this 3 := gr_val g214 e200 s187 (by decide) rfl
  have e231 : n35 = G213 144 this 4 := gr_val g214 e201 s187 (by decide) rfl
  have e232 : n50 = G213 144 this 5 := gr_val g214 e202 s187 (by decide) rfl
  have e233 : n67 = G213 144 this 6 := gr_val g214 e203 s187 (by decide) rfl
  have e234 : n86 = G213 144 this 7 := gr_val g214 e204 s187 (by decide) rfl
  have e235 : n107 = G213 144 this 8 := gr_val g214 e205 s187 (by decide) rfl
  have e236 : n130 = G213 144 this 9 := gr_val g214 e206 s187 (by decide) rfl
  have e237 : n155 = G213 144 this 10 := gr_val g214 e207 s187 (by decide) rfl
  have e238 : n182 = G213 144 this 11 := gr_val g214 h209 s187 (by decide) rfl
  have g239 : Gr [93, 94, 95, 96, 97, 98] [(144, 1), (144, 2), (144, 3), (144, 4), (144, 5), (144, 6), (144, 7), (144, 8), (144, 9), (144, 10), (144, 11), (144, 12), (144, 13), (144, 14), (144, 15), (144, 16), (144, 17)] S G S212 G213 := gr_call g210 g214 rfl rfl
  refine r_putFN hX hP rfl rfl fq_X0_47_144 s216 (by decide) (Or.inr n211l) (fun h240 => ?_)
  refine r_ex hX hP 2 (pc' := 109) (st' := [(0, 20), (2, this)]) (lo' := [(0, (2, this))]) rfl ?_
  have g241 : Gr [93, 94, 95, 96, 97, 98] [(144, 1), (144, 2), (144, 3), (144, 4), (144, 5), (144, 6), (144, 7), (144, 8), (144, 9), (144, 10), (144, 11), (144, 12), (144, 13), (144, 14), (144, 15), (144, 16), (144, 17)] S G S212 (up G213 144 this 12 n211) := (gr_up g239 rfl)
  refine r_newarrA hX hP rfl (L := 95) (n := 20) al_95 (by decide) rfl rfl rfl (tbg sg1 123 rfl rfl) (by decide) (by first | decide | omega) (by first | decide | omega) (fun n242 S243 G244 n242z n242n n242l g245 n242v => ?_)
  have z246 : S n242 = 0 := gr_zero g241 n242z
  have s247 : S243 this = 144 := gr_lab g245 s216 (by decide)
  have s248 : S243 n2 = 93 := gr_lab g245 s217 (by decide)
  have s249 : S243 n11 = 94 := gr_lab g245 s218 (by decide)
  have s250 : S243 n22 = 94 := gr_lab g245 s219 (by decide)
  have s251 : S243 n35 = 94 := gr_lab g245 s220 (by decide)
  have s252 : S243 n50 = 94 := gr_lab g245 s221 (by decide)
  have s253 : S243 n67 = 94 := gr_lab g245 s222 (by decide)
  have s254 : S243 n86 = 93 := gr_lab g245 s223 (by decide)
  have s255 : S243 n107 = 93 := gr_lab g245 s224 (by decide)
  have s256 : S243 n130 = 93 := gr_lab g245 s225 (by decide)
  have s257 : S243 n155 = 98 := gr_lab g245 s226 (by decide)
  have s258 : S243 n182 = 98 := gr_lab g245 s227 (by decide)
  have s259 : S243 n211 = 95 := gr_lab g245 n211l (by decide)
  have e260 : n2 = G244 144 this 1 := gr_val g245 e228 s216 (by decide) rfl
  have e261 : n11 = G244 144 this 2 := gr_val g245 e229 s216 (by decide) rfl
  have e262 : n22 = G244 144 this 3 := gr_val g245 e230 s216 (by decide) rfl
  have e263 : n35 = G244 144 this 4 := gr_val g245 e231 s216 (by decide) rfl
  have e264 : n50 = G244 144 this 5 := gr_val g245 e232 s216 (by decide) rfl
  have e265 : n67 = G244 144 this 6 := gr_val g245 e233 s216 (by decide) rfl
  have e266 : n86 = G244 144 this 7 := gr_val g245 e234 s216 (by decide) rfl
  have e267 : n107 = G244 144 this 8 := gr_val g245 e235 s216 (by decide) rfl
  have e268 : n130 = G244 144 this 9 := gr_val g245 e236 s216 (by decide) rfl
  have e269 : n155 = G244 144 this 10 := gr_val g245 e237 s216 (by decide) rfl
  have e270 : n182 = G244 144 this 11 := gr_val g245 e238 s216 (by decide) rfl
  have e271 : n211 = G244 144 this 12 := gr_val g245 h240 s216 (by decide) rfl
  have g272 : Gr [93, 94, 95, 96, 97, 98] [(144, 1), (144, 2), (144, 3), (144, 4), (144, 5), (144, 6), (144, 7), (144, 8), (144, 9), (144, 10), (144, 11), (144, 12), (144, 13), (144, 14), (144, 15), (144, 16), (144, 17)] S G S243 G244 := gr_call g241 g245 rfl rfl
  refine r_putFN hX hP rfl rfl fq_X0_51_144 s247 (by decide) (Or.inr n242l) (fun h273 => ?_)
  refine r_ex hX hP 2 (pc' := 117) (st' := [(0, 21), (2, this)]) (lo' := [(0, (2, this))]) rfl ?_
  have g274 : Gr [93, 94, 95, 96, 97, 98] [(144, 1), (144, 2), (144, 3), (144, 4), (144, 5), (144, 6), (144, 7), (144, 8), (144, 9), (144, 10), (144, 11), (144, 12), (144, 13), (144, 14), (144, 15), (144, 16), (144, 17)] S G S243 (up G244 144 this 13 n242) := (gr_up g272 rfl)
  refine r_newarrA hX hP rfl (L := 97) (n := 21) al_97 (by decide) rfl rfl rfl (tbg sg1 124 rfl rfl) (by decide) (by first | decide | omega) (by first | decide | omega) (fun n275 S276 G277 n275z n275n n275l g278 n275v => ?_)
  have z279 : S n275 = 0 := gr_zero g274 n275z
  have s280 : S276 this = 144 := gr_lab g278 s247 (by decide)
  have s281 : S276 n2 = 93 := gr_lab g278 s248 (by decide)
  have s282 : S276 n11 = 94 := gr_lab g278 s249 (by decide)
  have s283 : S276 n22 = 94 := gr_lab g278 s250 (by decide)
  have s284 : S276 n35 = 94 := gr_lab g278 s251 (by decide)
  have s285 : S276 n50 = 94 := gr_lab g278 s252 (by decide)
  have s286 : S276 n67 = 94 := gr_lab g278 s253 (by decide)
  have s287 : S276 n86 = 93 := gr_lab g278 s254 (by decide)
  have s288 : S276 n107 = 93 := gr_lab g278 s255 (by decide)
  have s289 : S276 n130 = 93 := gr_lab g278 s256 (by decide)
  have s290 : S276 n155 = 98 := gr_lab g278 s257 (by decide)
  have s291 : S276 n182 = 98 := gr_lab g278 s258 (by decide)
  have s292 : S276 n211 = 95 := gr_lab g278 s259 (by decide)
  have s293 : S276 n242 = 95 := gr_lab g278 n242l (by decide)
  have e294 : n2 = G277 144 this 1 := gr_val g278 e260 s247 (by decide) rfl
  have e295 : n11 = G277 144 this 2 := gr_val g278 e261 s247 (by decide) rfl
  have e296 : n22 = G277 144 this 3 := gr_val g278 e262 s247 (by decide) rfl
  have e297 : n35 = G277 144 this 4 := gr_val g278 e263 s247 (by decide) rfl
  have e298 : n50 = G277 144 this 5 := gr_val g278 e264 s247 (by decide) rfl
  have e299 : n67 = G277 144 this 6 := gr_val g278 e265 s247 (by decide) rfl
  have e300 : n86 = G277 144 this 7 := gr_val g278 e266 s247 (by decide) rfl
  have e301 : n107 = G277 144 this 8 := gr_val g278 e267 s247 (by decide) rfl
  have e302 : n130 = G277 144 this 9 := gr_val g278 e268 s247 (by decide) rfl
  have e303 : n155 = G277 144 this 10 := gr_val g278 e269 s247 (by decide) rfl
  have e304 : n182 = G277 144 this 11 := gr_val g278 e270 s247 (by decide) rfl
  have e305 : n211 = G277 144 this 12 := gr_val g278 e271 s247 (by decide) rfl
  have e306 : n242 = G277 144 this 13 := gr_val g278 h273 s247 (by decide) rfl
  have g307 : Gr [93, 94, 95, 96, 97, 98] [(144, 1), (144, 2), (144, 3), (144, 4), (144, 5), (144, 6), (144, 7), (144, 8), (144, 9), (144, 10), (144, 11), (144, 12), (144, 13), (144, 14), (144, 15), (144, 16), (144, 17)] S G S276 G277 := gr_call g274 g278 rfl rfl
  refine r_putFN hX hP rfl rfl fq_X0_54_144 s280 (by decide) (Or.inr n275l) (fun h308 => ?_)
  refine r_ex hX hP 2 (pc' := 125) (st' := [(0, 21), (2, this)]) (lo' := [(0, (2, this))]) rfl ?_
  have g309 : Gr [93, 94, 95, 96, 97, 98] [(144, 1), (144, 2), (144, 3), (144, 4), (144, 5), (144, 6), (144, 7), (144, 8), (144, 9), (144, 10), (144, 11), (144, 12), (144, 13), (144, 14), (144, 15), (144, 16), (144, 17)] S G S276 (up G277 144 this 14 n275) := (gr_up g307 rfl)
  refine r_newarrA hX hP rfl (L := 96) (n := 21) al_96 (by decide) rfl rfl rfl (tbg sg1 123 rfl rfl) (by decide) (by first | decide | omega) (by first | decide | omega) (fun n310 S311 G312 n310z n310n n310l g313 n310v => ?_)
  have z314 : S n310 = 0 := gr_zero g309 n310z
  have s315 : S311 this = 144 := gr_lab g313 s280 (by decide)
  have s316 : S311 n2 = 93 := gr_lab g313 s281 (by decide)
  have s317 : S311 n11 = 94 := gr_lab g313 s282 (by decide)
  have s318 : S311 n22 = 94 := gr_lab g313 s283 (by decide)
  have s319 : S311 n35 = 94 := gr_lab g313 s284 (by decide)
  have s320 : S311 n50 = 94 := gr_lab g313 s285 (by decide)
  have s321 : S311 n67 = 94 := gr_lab g313 s286 (by decide)
  have s322 : S311 n86 = 93 := gr_lab g313 s287 (by decide)
  have s323 : S311 n107 = 93 := gr_lab g313 s288 (by decide)
  have s324 : S311 n130 = 93 := gr_lab g313 s289 (by decide)
  have s325 : S311 n155 = 98 := gr_lab g313 s290 (by decide)
  have s326 : S311 n182 = 98 := gr_lab g313 s291 (by decide)
  have s327 : S311 n211 = 95 := gr_lab g313 s292 (by decide)
  have s328 : S311 n242 = 95 := gr_lab g313 s293 (by decide)
  have s329 : S311 n275 = 97 := gr_lab g313 n275l (by decide)
  have e330 : n2 = G312 144 this 1 := gr_val g313 e294 s280 (by decide) rfl
  have e331 : n11 = G312 144 this 2 := gr_val g313 e295 s280 (by decide) rfl
  have e332 : n22 = G312 144 this 3 := gr_val g313 e296 s280 (by decide) rfl
  have e333 : n35 = G312 144 this 4 := gr_val g313 e297 s280 (by decide) rfl
  have e334 : n50 = G312 144 this 5 := gr_val g313 e298 s280 (by decide) rfl
  have e335 : n67 = G312 144 this 6 := gr_val g313 e299 s280 (by decide) rfl
  have e336 : n86 = G312 144 this 7 := gr_val g313 e300 s280 (by decide) rfl
  have e337 : n107 = G312 144 this 8 := gr_val g313 e301 s280 (by decide) rfl
  have e338 : n130 = G312 144 this 9 := gr_val g313 e302 s280 (by decide) rfl
  have e339 : n155 = G312 144 this 10 := gr_val g313 e303 s280 (by decide) rfl
  have e340 : n182 = G312 144 this 11 := gr_val g313 e304 s280 (by decide) rfl
  have e341 : n211 = G312 144 this 12 := gr_val g313 e305 s280 (by decide) rfl
  have e342 : n242 = G312 144 this 13 := gr_val g313 e306 s280 (by decide) rfl
  have e343 : n275 = G312 144 this 14 := gr_val g313 h308 s280 (by decide) rfl
  have g344 : Gr [93, 94, 95, 96, 97, 98] [(144, 1), (144, 2), (144, 3), (144, 4), (144, 5), (144, 6), (144, 7), (144, 8), (144, 9), (144, 10), (144, 11), (144, 12), (144, 13), (144, 14), (144, 15), (144, 16), (144, 17)] S G S311 G312 := gr_call g309 g313 rfl rfl
  refine r_putFN hX hP rfl rfl fq_X0_57_144 s315 (by decide) (Or.inr n310l) (fun h345 => ?_)
  refine r_ex hX hP 2 (pc' := 133) (st' := [(0, 21), (2, this)]) (lo' := [(0, (2, this))]) rfl ?_
  have g346 : Gr [93, 94, 95, 96, 97, 98] [(144, 1), (144, 2), (144, 3), (144, 4), (144, 5), (144, 6), (144, 7), (144, 8), (144, 9), (144, 10), (144, 11), (144, 12), (144, 13), (144, 14), (144, 15), (144, 16), (144, 17)] S G S311 (up G312 144 this 15 n310) := (gr_up g344 rfl)
  refine r_newarrA hX hP rfl (L := 96) (n := 21) al_96 (by decide) rfl rfl rfl (tbg sg1 123 rfl rfl) (by decide) (by first | decide | omega) (by first | decide | omega) (fun n347 S348 G349 n347z n347n n347l g350 n347v => ?_)
  have z351 : S n347 = 0 := gr_zero g346 n347z
  have s352 : S348 this = 144 := gr_lab g350 s315 (by decide)
  have s353 : S348 n2 = 93 := gr_lab g350 s316 (by decide)
  have s354 : S348 n11 = 94 := gr_lab g350 s317 (by decide)
  have s355 : S348 n22 = 94 := gr_lab g350 s318 (by decide)
  have s356 : S348 n35 = 94 := gr_lab g350 s319 (by decide)
  have s357 : S348 n50 = 94 := gr_lab g350 s320 (by decide)
  have s358 : S348 n67 = 94 := gr_lab g350 s321 (by decide)
  have s359 : S348 n86 = 93 := gr_lab g350 s322 (by decide)
  have s360 : S348 n107 = 93 := gr_lab g350 s323 (by decide)
  have s361 : S348 n130 = 93 := gr_lab g350 s324 (by decide)
  have s362 : S348 n155 = 98 := gr_lab g350 s325 (by decide)
  have s363 : S348 n182 = 98 := gr_lab g350 s326 (by decide)
  have s364 : S348 n211 = 95 := gr_lab g350 s327 (by decide)
  have s365 : S348 n242 = 95 := gr_lab g350 s328 (by decide)
  have s366 : S348 n275 = 97 := gr_lab g350 s329 (by decide)
  have s367 : S348 n310 = 96 := gr_lab g350 n310l (by decide)
  have e368 : n2 = G349 144 this 1 := gr_val g350 e330 s315 (by decide) rfl
  have e369 : n11 = G349 144 this 2 := gr_val g350 e331 s315 (by decide) rfl
  have e370 : n22 = G349 144 this 3 := gr_val g350 e332 s315 (by decide) rfl
  have e371 : n35 = G349 144 this 4 := gr_val g350 e333 s315 (by decide) rfl
  have e372 : n50 = G349 144 this 5 := gr_val g350 e334 s315 (by decide) rfl
  have e373 : n67 = G349 144 this 6 := gr_val g350 e335 s315 (by decide) rfl
  have e374 : n86 = G349 144 this 7 := gr_val g350 e336 s315 (by decide) rfl
  have e375 : n107 = G349 144 this 8 := gr_val g350 e337 s315 (by decide) rfl
  have e376 : n130 = G349 144 this 9 := gr_val g350 e338 s315 (by decide) rfl
  have e377 : n155 = G349 144 this 10 := gr_val g350 e339 s315 (by decide) rfl
  have e378 : n182 = G349 144 this 11 := gr_val g350 e340 s315 (by decide) rfl
  have e379 : n211 = G349 144 this 12 := gr_val g350 e341 s315 (by decide) rfl
  have e380 : n242 = G349 144 this 13 := gr_val g350 e342 s315 (by decide) rfl
  have e381 : n275 = G349 144 this 14 := gr_val g350 e343 s315 (by decide) rfl
  have e382 : n310 = G349 144 this 15 := gr_val g350 h345 s315 (by decide) rfl
  have g383 : Gr [93, 94, 95, 96, 97, 98] [(144, 1), (144, 2), (144, 3), (144, 4), (144, 5), (144, 6), (144, 7), (144, 8), (144, 9), (144, 10), (144, 11), (144, 12), (144, 13), (144, 14), (144, 15), (144, 16), (144, 17)] S G S348 G349 := gr_call g346 g350 rfl rfl
  refine r_putFN hX hP rfl rfl fq_X0_60_144 s352 (by decide) (Or.inr n347l) (fun h384 => ?_)
  refine r_ex hX hP 2 (pc' := 141) (st' := [(0, 21), (2, this)]) (lo' := [(0, (2, this))]) rfl ?_
  have g385 : Gr [93, 94, 95, 96, 97, 98] [(144, 1), (144, 2), (144, 3), (144, 4), (144, 5), (144, 6), (144, 7), (144, 8), (144, 9), (144, 10), (144, 11), (144, 12), (144, 13), (144, 14), (144, 15), (144, 16), (144, 17)] S G S348 (up G349 144 this 16 n347) := (gr_up g383 rfl)
  refine r_newarrA hX hP rfl (L := 96) (n := 21) al_96 (by decide) rfl rfl rfl (tbg sg1 123 rfl rfl) (by decide) (by first | decide | omega) (by first | decide | omega) (fun n386 S387 G388 n386z n386n n386l g389 n386v => ?_)
  have z390 : S n386 = 0 := gr_zero g385 n386z
  have s391 : S387 this = 144 := gr_lab g389 s352 (by decide)
  have s392 : S387 n2 = 93 := gr_lab g389 s353 (by decide)
  have s393 : S387 n11 = 94 := gr_lab g389 s354 (by decide)
  have s394 : S387 n22 = 94 := gr_lab g389 s355 (by decide)
  have s395 : S387 n35 = 94 := gr_lab g389 s356 (by decide)
  have s396 : S387 n50 = 94 := gr_lab g389 s357 (by decide)
  have s397 : S387 n67 = 94 := gr_lab g389 s358 (by decide)
  have s398 : S387 n86 = 93 := gr_lab g389 s359 (by decide)
  have s399 : S387 n107 = 93 := gr_lab g389 s360 (by decide)
  have s400 : S387 n130 = 93 := gr_lab g389 s361 (by decide)
  have s401 : S387 n155 = 98 := gr_lab g389 s362 (by decide)
  have s402 : S387 n182 = 98 := gr_lab g389 s363 (by decide)
  have s403 : S387 n211 = 95 := gr_lab g389 s364 (by decide)
  have s404 : S387 n242 = 95 := gr_lab g389 s365 (by decide)
  have s405 : S387 n275 = 97 := gr_lab g389 s366 (by decide)
  have s406 : S387 n310 = 96 := gr_lab g389 s367 (by decide)
  have s407 : S387 n347 = 96 := gr_lab g389 n347l (by decide)
  have e408 : n2 = G388 144 this 1 := gr_val g389 e368 s352 (by decide) rfl
  have e409 : n11 = G388 144 this 2 := gr_val g389 e369 s352 (by decide) rfl
  have e410 : n22 = G388 144 this 3 := gr_val g389 e370 s352 (by decide) rfl
  have e411 : n35 = G388 144 this 4 := gr_val g389 e371 s352 (by decide) rfl
  have e412 : n50 = G388 144 this 5 := gr_val g389 e372 s352 (by decide) rfl
  have e413 : n67 = G388 144 this 6 := gr_val g389 e373 s352 (by decide) rfl
  have e414 : n86 = G388 144 this 7 := gr_val g389 e374 s352 (by decide) rfl
  have e415 : n107 = G388 144 this 8 := gr_val g389 e375 s352 (by decide) rfl
  have e416 : n130 = G388 144 this 9 := gr_val g389 e376 s352 (by decide) rfl
  have e417 : n155 = G388 144 this 10 := gr_val g389 e377 s352 (by decide) rfl
  have e418 : n182 = G388 144 this 11 := gr_val g389 e378 s352 (by decide) rfl
  have e419 : n211 = G388 144 this 12 := gr_val g389 e379 s352 (by decide) rfl
  have e420 : n242 = G388 144 this 13 := gr_val g389 e380 s352 (by decide) rfl
  have e421 : n275 = G388 144 this 14 := gr_val g389 e381 s352 (by decide) rfl
  have e422 : n310 = G388 144 this 15 := gr_val g389 e382 s352 (by decide) rfl
  have e423 : n347 = G388 144 this 16 := gr_val g389 h384 s352 (by decide) rfl
  have g424 : Gr [93, 94, 95, 96, 97, 98] [(144, 1), (144, 2), (144, 3), (144, 4), (144, 5), (144, 6), (144, 7), (144, 8), (144, 9), (144, 10), (144, 11), (144, 12), (144, 13), (144, 14), (144, 15), (144, 16), (144, 17)] S G S387 G388 := gr_call g385 g389 rfl rfl
  refine r_putFN hX hP rfl rfl fq_X0_63_144 s391 (by decide) (Or.inr n386l) (fun h425 => ?_)
  refine r_finA hX (L := 144) (ci := 1) (fs := fs_144) rfl s391 (by decide) (fun hr426 => ?_)
  have hf427 : Fnl E fs_130 144 S387 (up G388 144 this 17 n386) this := by
    intro j hj
    rcases (by have : j < 18 := hj; omega : j = 0 ∨ j = 1 ∨ j = 2 ∨ j = 3 ∨ j = 4 ∨ j = 5 ∨ j = 6 ∨ j = 7 ∨ j = 8 ∨ j = 9 ∨ j = 10 ∨ j = 11 ∨ j = 12 ∨ j = 13 ∨ j = 14 ∨ j = 15 ∨ j = 16 ∨ j = 17) with rfl | rfl | rfl | rfl | rfl | rfl | rfl | rfl | rfl | rfl | rfl | rfl | rfl | rfl | rfl | rfl | rfl | rfl
    · exact hr426 0 (by decide)
    · exact ⟨lab_of e408 s392, by decide⟩
    · exact ⟨lab_of e409 s393, by decide⟩
    · exact ⟨lab_of e410 s394, by decide⟩
    · exact ⟨lab_of e411 s395, by decide⟩
    · exact ⟨lab_of e412 s396, by decide⟩
    · exact ⟨lab_of e413 s397, by decide⟩
    · exact ⟨lab_of e414 s398, by decide⟩
    · exact ⟨lab_of e415 s399, by decide⟩
    · exact ⟨lab_of e416 s400, by decide⟩
    · exact ⟨lab_of e417 s401, by decide⟩
    · exact ⟨lab_of e418 s402, by decide⟩
    · exact ⟨lab_of e419 s403, by decide⟩
    · exact ⟨lab_of e420 s404, by decide⟩
    · exact ⟨lab_of e421 s405, by decide⟩
    · exact ⟨lab_of e422 s406, by decide⟩
    · exact ⟨lab_of e423 s407, by decide⟩
    · exact ⟨lab_of h425 n386l, by decide⟩
  have g428 : Gr [93, 94, 95, 96, 97, 98] [(144, 1), (144, 2), (144, 3), (144, 4), (144, 5), (144, 6), (144, 7), (144, 8), (144, 9), (144, 10), (144, 11), (144, 12), (144, 13), (144, 14), (144, 15), (144, 16), (144, 17)] S G S387 (up G388 144 this 17 n386) := (gr_up g424 rfl)
  exact r_retV hX hP rfl rfl (by first | decide | omega) (by first | decide | omega) ⟨g428, rfl, hf427⟩
set_option maxRecDepth 100000 in
set_option maxHeartbeats 4000000 in
theorem c_X3_init (E : En) (S : Sg) (G : Gh) (this : Int) (accounts : Int) (hS : S this = 147) (accounts_s : S accounts = 130) : Calls E mX3_init [(2, this), (2, accounts)] S G 3 703 6947 (fun r S' G' => Gr [95, 97, 99, 100, 101, 102, 103, 104] [(99, -1), (147, 0), (147, 1), (147, 2), (147, 3), (147, 4), (147, 5), (147, 6), (147, 7), (147, 8), (147, 9), (147, 10), (147, 11), (147, 12), (147, 13), (147, 14), (147, 15), (147, 16)] S G S' G' ∧ r = none ∧ Fnl E fs_133 147 S' G' this) := by
  refine calls_by [(0, (2, this)), (1, (2, accounts))] rfl rfl (Nat.le_of_ble_eq_true rfl) (fun X hX => ?_)
  have hP := hPX3_init
  refine r_ex hX hP 1 (pc' := 1) (st' := [(2, this)]) (lo' := [(0, (2, this)), (1, (2, accounts))]) rfl ?_
  refine r_nn hX hS (by decide) (fun p1 => ?_)
  refine r_objI hX hP rfl (tbg sg6 41 rfl rfl) (tbg sg1 33 rfl rfl) (tbg sg1 34 rfl rfl) p1 (by first | decide | omega) (Nat.le_of_ble_eq_true rfl) ?_
  refine r_ex hX hP 3 (pc' := 10) (st' := [(0, 9), (0, 400), (2, this)]) (lo' := [(0, (2, this)), (1, (2, accounts))]) rfl ?_
  refine r_multiA hX hP rfl (L := 100) (L2 := 99) (n := 400) (k := 9) al_100 al_99 (by decide) (by decide) (by decide) (tbg sg6 42 rfl rfl) (tbg sg1 123 rfl rfl) (by decide) (by decide) (by first | decide | omega) (by first | decide | omega) (fun n2 S3 G4 n2z n2n n2l g5 => ?_)
  have z6 : S n2 = 0 := gr_zero (gr_refl [95, 97, 99, 100, 101, 102, 103, 104] [(99, -1), (147, 0), (147, 1), (147, 2), (147, 3), (147, 4), (147, 5), (147, 6), (147, 7), (147, 8), (147, 9), (147, 10), (147, 11), (147, 12), (147, 13), (147, 14), (147, 15), (147, 16)] S G) n2z
  have s7 : S3 this = 147 := gr_lab g5 hS (by decide)
  have s8 : S3 accounts = 130 := gr_lab g5 accounts_s (by decide)
  have g9 : Gr [95, 97, 99, 100, 101, 102, 103, 104] [(99, -1), (147, 0), (147, 1), (147, 2), (147, 3), (147, 4), (147, 5), (147, 6), (147, 7), (147, 8), (147, 9), (147, 10), (147, 11), (147, 12), (147, 13), (147, 14), (147, 15), (147, 16)] S G S3 G4 := gr_call (gr_refl [95, 97, 99, 100, 101, 102, 103, 104] [(99, -1), (147, 0), (147, 1), (147, 2), (147, 3), (147, 4), (147, 5), (147, 6), (147, 7), (147, 8), (147, 9), (147, 10), (147, 11), (147, 12), (147, 13), (147, 14), (147, 15), (147, 16)] S G) g5 rfl rfl
  refine r_putFN hX hP rfl rfl fq_X3_11_147 s7 (by decide) (Or.inr n2l) (fun h10 => ?_)
  refine r_ex hX hP 3 (pc' := 22) (st' := [(0, 9), (0, 80), (2, this)]) (lo' := [(0, (2, this)), (1, (2, accounts))]) rfl ?_
  have g11 : Gr [95, 97, 99, 100, 101, 102, 103, 104] [(99, -1), (147, 0), (147, 1), (147, 2), (147, 3), (147, 4), (147, 5), (147, 6), (147, 7), (147, 8), (147, 9), (147, 10), (147, 11), (147, 12), (147, 13), (147, 14), (147, 15), (147, 16)] S G S3 (up G4 147 this 1 n2) := (gr_up g9 rfl)
  refine r_multiA hX hP rfl (L := 101) (L2 := 99) (n := 80) (k := 9) al_101 al_99 (by decide) (by decide) (by decide) (tbg sg6 42 rfl rfl) (tbg sg1 123 rfl rfl) (by decide) (by decide) (by first | decide | omega) (by first | decide | omega) (fun n12 S13 G14 n12z n12n n12l g15 => ?_)
  have z16 : S n12 = 0 := gr_zero g11 n12z
  have s17 : S13 this = 147 := gr_lab g15 s7 (by decide)
  have s18 : S13 accounts = 130 := gr_lab g15 s8 (by decide)
  have s19 : S13 n2 = 100 := gr_lab g15 n2l (by decide)
  have e20 : n2 = G14 147 this 1 := gr_val g15 h10 s7 (by decide) rfl
  have g21 : Gr [95, 97, 99, 100, 101, 102, 103, 104] [(99, -1), (147, 0), (147, 1), (147, 2), (147, 3), (147, 4), (147, 5), (147, 6), (147, 7), (147, 8), (147, 9), (147, 10), (147, 11), (147, 12), (147, 13), (147, 14), (147, 15), (147, 16)] S G S13 G14 := gr_call g11 g15 rfl rfl
  refine r_putFN hX hP rfl rfl fq_X3_16_147 s17 (by decide) (Or.inr n12l) (fun h22 => ?_)
  refine r_ex hX hP 3 (pc' := 34) (st' := [(0, 9), (0, 80), (2, this)]) (lo' := [(0, (2, this)), (1, (2, accounts))]) rfl ?_
  have g23 : Gr [95, 97, 99, 100, 101, 102, 103, 104] [(99, -1), (147, 0), (147, 1), (147, 2), (147, 3), (147, 4), (147, 5), (147, 6), (147, 7), (147, 8), (147, 9), (147, 10), (147, 11), (147, 12), (147, 13), (147, 14), (147, 15), (147, 16)] S G S13 (up G14 147 this 2 n12) := (gr_up g21 rfl)
  refine r_multiA hX hP rfl (L := 101) (L2 := 99) (n := 80) (k := 9) al_101 al_99 (by decide) (by decide) (by decide) (tbg sg6 42 rfl rfl) (tbg sg1 123 rfl rfl) (by decide) (by decide) (by first | decide | omega) (by first | decide | omega) (fun n24 S25 G26 n24z n24n n24l g27 => ?_)
  have z28 : S n24 = 0 := gr_zero g23 n24z
  have s29 : S25 this = 147 := gr_lab g27 s17 (by decide)
  have s30 : S25 accounts = 130 := gr_lab g27 s18 (by decide)
  have s31 : S25 n2 = 100 := gr_lab g27 s19 (by decide)
  have s32 : S25 n12 = 101 := gr_lab g27 n12l (by decide)
  have e33 : n2 = G26 147 this 1 := gr_val g27 e20 s17 (by decide) rfl
  have e34 : n12 = G26 147 this 2 := gr_val g27 h22 s17 (by decide) rfl
  have g35 : Gr [95, 97, 99, 100, 101, 102, 103, 104] [(99, -1), (147, 0), (147, 1), (147, 2), (147, 3), (147, 4), (147, 5), (147, 6), (147, 7), (147, 8), (147, 9), (147, 10), (147, 11), (147, 12), (147, 13), (147, 14), (147, 15), (147, 16)] S G S25 G26 := gr_call g23 g27 rfl rfl
  refine r_putFN hX hP rfl rfl fq_X3_19_147 s29 (by decide) (Or.inr n24l) (fun h36 => ?_)
  refine r_ex hX hP 3 (pc' := 46) (st' := [(0, 9), (0, 20), (2, this)]) (lo' := [(0, (2, this)), (1, (2, accounts))]) rfl ?_
  have g37 : Gr [95, 97, 99, 100, 101, 102, 103, 104] [(99, -1), (147, 0), (147, 1), (147, 2), (147, 3), (147, 4), (147, 5), (147, 6), (147, 7), (147, 8), (147, 9), (147, 10), (147, 11), (147, 12), (147, 13), (147, 14), (147, 15), (147, 16)] S G S25 (up G26 147 this 3 n24) := (gr_up g35 rfl)
  refine r_multiA hX hP rfl (L := 102) (L2 := 99) (n := 20) (k := 9) al_102 al_99 (by decide) (by decide) (by decide) (tbg sg6 42 rfl rfl) (tbg sg1 123 rfl rfl) (by decide) (by decide) (by first | decide | omega) (by first | decide | omega) (fun n38 S39 G40 n38z n38n n38l g41 => ?_)
  have z42 : S n38 = 0 := gr_zero g37 n38z
  have s43 : S39 this = 147 := gr_lab g41 s29 (by decide)
  have s44 : S39 accounts = 130 := gr_lab g41 s30 (by decide)
  have s45 : S39 n2 = 100 := gr_lab g41 s31 (by decide)
  have s46 : S39 n12 = 101 := gr_lab g41 s32 (by decide)
  have s47 : S39 n24 = 101 := gr_lab g41 n24l (by decide)
  have e48 : n2 = G40 147 this 1 := gr_val g41 e33 s29 (by decide) rfl
  have e49 : n12 = G40 147 this 2 := gr_val g41 e34 s29 (by decide) rfl
  have e50 : n24 = G40 147 this 3 := gr_val g41 h36 s29 (by decide) rfl
  have g51 : Gr [95, 97, 99, 100, 101, 102, 103, 104] [(99, -1), (147, 0), (147, 1), (147, 2), (147, 3), (147, 4), (147, 5), (147, 6), (147, 7), (147, 8), (147, 9), (147, 10), (147, 11), (147, 12), (147, 13), (147, 14), (147, 15), (147, 16)] S G S39 G40 := gr_call g37 g41 rfl rfl
  refine r_putFN hX hP rfl rfl fq_X3_22_147 s43 (by decide) (Or.inr n38l) (fun h52 => ?_)
  refine r_ex hX hP 3 (pc' := 58) (st' := [(0, 9), (0, 20), (2, this)]) (lo' := [(0, (2, this)), (1, (2, accounts))]) rfl ?_
  have g53 : Gr [95, 97, 99, 100, 101, 102, 103, 104] [(99, -1), (147, 0), (147, 1), (147, 2), (147, 3), (147, 4), (147, 5), (147, 6), (147, 7), (147, 8), (147, 9), (147, 10), (147, 11), (147, 12), (147, 13), (147, 14), (147, 15), (147, 16)] S G S39 (up G40 147 this 4 n38) := (gr_up g51 rfl)
  refine r_multiA hX hP rfl (L := 102) (L2 := 99) (n := 20) (k := 9) al_102 al_99 (by decide) (by decide) (by decide) (tbg sg6 42 rfl rfl) (tbg sg1 123 rfl rfl) (by decide) (by decide) (by first | decide | omega) (by first | decide | omega) (fun n54 S55 G56 n54z n54n n54l g57 => ?_)
  have z58 : S n54 = 0 := gr_zero g53 n54z
  have s59 : S55 this = 147 := gr_lab g57 s43 (by decide)
  have s60 : S55 accounts = 130 := gr_lab g57 s44 (by decide)
  have s61 : S55 n2 = 100 := gr_lab g57 s45 (by decide)
  have s62 : S55 n12 = 101 := gr_lab g57 s46 (by decide)
  have s63 : S55 n24 = 101 := gr_lab g57 s47 (by decide)
  have s64 : S55 n38 = 102 := gr_lab g57 n38l (by decide)
  have e65 : n2 = G56 147 this 1 := gr_val g57 e48 s43 (by decide) rfl
  have e66 : n12 = G56 147 this 2 := gr_val g57 e49 s43 (by decide) rfl
  have e67 : n24 = G56 147 this 3 := gr_val g57 e50 s43 (by decide) rfl
  have e68 : n38 = G56 147 this 4 := gr_val g57 h52 s43 (by decide) rfl
  have g69 : Gr [95, 97, 99, 100, 101, 102, 103, 104] [(99, -1), (147, 0), (147, 1), (147, 2), (147, 3), (147, 4), (147, 5), (147, 6), (147, 7), (147, 8), (147, 9), (147, 10), (147, 11), (147, 12), (147, 13), (147, 14), (147, 15), (147, 16)] S G S55 G56 := gr_call g53 g57 rfl rfl
  refine r_putFN hX hP rfl rfl fq_X3_25_147 s59 (by decide) (Or.inr n54l) (fun h70 => ?_)
  refine r_ex hX hP 3 (pc' := 70) (st' := [(0, 9), (0, 20), (2, this)]) (lo' := [(0, (2, this)), (1, (2, accounts))]) rfl ?_
  have g71 : Gr [95, 97, 99, 100, 101, 102, 103, 104] [(99, -1), (147, 0), (147, 1), (147, 2), (147, 3), (147, 4), (147, 5), (147, 6), (147, 7), (147, 8), (147, 9), (147, 10), (147, 11), (147, 12), (147, 13), (147, 14), (147, 15), (147, 16)] S G S55 (up G56 147 this 5 n54) := (gr_up g69 rfl)
  refine r_multiA hX hP rfl (L := 102) (L2 := 99) (n := 20) (k := 9) al_102 al_99 (by decide) (by decide) (by decide) (tbg sg6 42 rfl rfl) (tbg sg1 123 rfl rfl) (by decide) (by decide) (by first | decide | omega) (by first | decide | omega) (fun n72 S73 G74 n72z n72n n72l g75 => ?_)
  have z76 : S n72 = 0 := gr_zero g71 n72z
  have s77 : S73 this = 147 := gr_lab g75 s59 (by decide)
  have s78 : S73 accounts = 130 := gr_lab g75 s60 (by decide)
  have s79 : S73 n2 = 100 := gr_lab g75 s61 (by decide)
  have s80 : S73 n12 = 101 := gr_lab g75 s62 (by decide)
  have s81 : S73 n24 = 101 := gr_lab g75 s63 (by decide)
  have s82 : S73 n38 = 102 := gr_lab g75 s64 (by decide)
  have s83 : S73 n54 = 102 := gr_lab g75 n54l (by decide)
  have e84 : n2 = G74 147 this 1 := gr_val g75 e65 s59 (by decide) rfl
  have e85 : n12 = G74 147 this 2 := gr_val g75 e66 s59 (by decide) rfl
  have e86 : n24 = G74 147 this 3 := gr_val g75 e67 s59 (by decide) rfl
  have e87 : n38 = G74 147 this 4 := gr_val g75 e68 s59 (by decide) rfl
  have e88 : n54 = G74 147 this 5 := gr_val g75 h70 s59 (by decide) rfl
  have g89 : Gr [95, 97, 99, 100, 101, 102, 103, 104] [(99, -1), (147, 0), (147, 1), (147, 2), (147, 3), (147, 4), (147, 5), (147, 6), (147, 7), (147, 8), (147, 9), (147, 10), (147, 11), (147, 12), (147, 13), (147, 14), (147, 15), (147, 16)] S G S73 G74 := gr_call g71 g75 rfl rfl
  refine r_putFN hX hP rfl rfl fq_X3_28_147 s77 (by decide) (Or.inr n72l) (fun h90 => ?_)
  refine r_ex hX hP 2 (pc' := 80) (st' := [(0, 20), (2, this)]) (lo' := [(0, (2, this)), (1, (2, accounts))]) rfl ?_
  have g91 : Gr [95, 97, 99, 100, 101, 102, 103, 104] [(99, -1), (147, 0), (147, 1), (147, 2), (147, 3), (147, 4), (147, 5), (147, 6), (147, 7), (147, 8), (147, 9), (147, 10), (147, 11), (147, 12), (147, 13), (147, 14), (147, 15), (147, 16)] S G S73 (up G74 147 this 6 n72) := (gr_up g89 rfl)
  refine r_newarrA hX hP rfl (L := 95) (n := 20) al_95 (by decide) rfl rfl rfl (tbg sg1 123 rfl rfl) (by decide) (by first | decide | omega) (by first | decide | omega) (fun n92 S93 G94 n92z n92n n92l g95 n92v => ?_)
  have z96 : S n92 = 0 := gr_zero g91 n92z
  have s97 : S93 this = 147 := gr_lab g95 s77 (by decide)
  have s98 : S93 accounts = 130 := gr_lab g95 s78 (by decide)
  have s99 : S93 n2 = 100 := gr_lab g95 s79 (by decide)
  have s100 : S93 n12 = 101 := gr_lab g95 s80 (by decide)
  have s101 : S93 n24 = 101 := gr_lab g95 s81 (by decide)
  have s102 : S93 n38 = 102 := gr_lab g95 s82 (by decide)
  have s103 : S93 n54 = 102 := gr_lab g95 s83 (by decide)
  have s104 : S93 n72 = 102 := gr_lab g95 n72l (by decide)
  have e105 : n2 = G94 147 this 1 := gr_val g95 e84 s77 (by decide) rfl
  have e106 : n12 = G94 147 this 2 := gr_val g95 e85 s77 (by decide) rfl
  have e107 : n24 = G94 147 this 3 := gr_val g95 e86 s77 (by decide) rfl
  have e108 : n38 = G94 147 this 4 := gr_val g95 e87 s77 (by decide) rfl
  have e109 : n54 = G94 147 this 5 := gr_val g95 e88 s77 (by decide) rfl
  have e110 : n72 = G94 147 this 6 := gr_val g95 h90 s77 (by decide) rfl
  have g111 : Gr [95, 97, 99, 100, 101, 102, 103, 104] [(99, -1), (147, 0), (147, 1), (147, 2), (147, 3), (147, 4), (147, 5), (147, 6), (147, 7), (147, 8), (147, 9), (147, 10), (147, 11), (147, 12), (147, 13), (147, 14), (147, 15), (147, 16)] S G S93 G94 := gr_call g91 g95 rfl rfl
  refine r_putFN hX hP rfl rfl fq_X3_31_147 s97 (by decide) (Or.inr n92l) (fun h112 => ?_)
  refine r_ex hX hP 2 (pc' := 88) (st' := [(0, 21), (2, this)]) (lo' := [(0, (2, this)), (1, (2, accounts))]) rfl ?_
  have g113 : Gr [95, 97, 99, 100, 101, 102, 103, 104] [(99, -1), (147, 0), (147, 1), (147, 2), (147, 3), (147, 4), (147, 5), (147, 6), (147, 7), (147, 8), (147, 9), (147, 10), (147, 11), (147, 12), (147, 13), (147, 14), (147, 15), (147, 16)] S G S93 (up G94 147 this 7 n92) := (gr_up g111 rfl)
  refine r_newarrA hX hP rfl (L := 97) (n := 21) al_97 (by decide) rfl rfl rfl (tbg sg1 124 rfl rfl) (by decide) (by first | decide | omega) (by first | decide | omega) (fun n114 S115 G116 n114z n114n n114l g117 n114v => ?_)
  have z118 : S n114 = 0 := gr_zero g113 n114z
  have s119 : S115 this = 147 := gr_lab g117 s97 (by decide)
  have s120 : S115 accounts = 130 := gr_lab g117 s98 (by decide)
  have s121 : S115 n2 = 100 := gr_lab g117 s99 (by decide)
  have s122 : S115 n12 = 101 := gr_lab g117 s100 (by decide)
  have s123 : S115 n24 = 101 := gr_lab g117 s101 (by decide)
  have s124 : S115 n38 = 102 := gr_lab g117 s102 (by decide)
  have s125 : S115 n54 = 102 := gr_lab g117 s103 (by decide)
  have s126 : S115 n72 = 102 := gr_lab g117 s104 (by decide)
  have s127 : S115 n92 = 95 := gr_lab g117 n92l (by decide)
  have e128 : n2 = G116 147 this 1 := gr_val g117 e105 s97 (by decide) rfl
  have e129 : n12 = G116 147 this 2 := gr_val g117 e106 s97 (by decide) rfl
  have e130 : n24 = G116 147 this 3 := gr_val g117 e107 s97 (by decide) rfl
  have e131 : n38 = G116 147 this 4 := gr_val g117 e108 s97 (by decide) rfl
  have e132 : n54 = G116 147 this 5 := gr_val g117 e109 s97 (by decide) rfl
  have e133 : n72 = G116 147 this 6 := gr_val g117 e110 s97 (by decide) rfl
  have e134 : n92 = G116 147 this 7 := gr_val g117 h112 s97 (by decide) rfl
  have g135 : Gr [95, 97, 99, 100, 101, 102, 103, 104] [(99, -1), (147, 0), (147, 1), (147, 2), (147, 3), (147, 4), (147, 5), (147, 6), (147, 7), (147, 8), (147, 9), (147, 10), (147, 11), (147, 12), (147, 13), (147, 14), (147, 15), (147, 16)] S G S115 G116 := gr_call g113 g117 rfl rfl
  refine r_putFN hX hP rfl rfl fq_X3_35_147 s119 (by decide) (Or.inr n114l) (fun h136 => ?_)
  refine r_ex hX hP 3 (pc' := 98) (st' := [(0, 9), (0, 21), (2, this)]) (lo' := [(0, (2, this)), (1, (2, accounts))]) rfl ?_
  have g137 : Gr [95, 97, 99, 100, 101, 102, 103, 104] [(99, -1), (147, 0), (147, 1), (147, 2), (147, 3), (147, 4), (147, 5), (147, 6), (147, 7), (147, 8), (147, 9), (147, 10), (147, 11), (147, 12), (147, 13), (147, 14), (147, 15), (147, 16)] S G S115 (up G116 147 this 8 n114) := (gr_up g135 rfl)
  refine r_multiA hX hP rfl (L := 103) (L2 := 99) (n := 21) (k := 9) al_103 al_99 (by decide) (by decide) (by decide) (tbg sg6 42 rfl rfl) (tbg sg1 123 rfl rfl) (by decide) (by decide) (by first | decide | omega) (by first | decide | omega) (fun n138 S139 G140 n138z n138n n138l g141 => ?_)
  have z142 : S n138 = 0 := gr_zero g137 n138z
  have s143 : S139 this = 147 := gr_lab g141 s119 (by decide)
  have s144 : S139 accounts = 130 := gr_lab g141 s120 (by decide)
  have s145 : S139 n2 = 100 := gr_lab g141 s121 (by decide)
  have s146 : S139 n12 = 101 := gr_lab g141 s122 (by decide)
  have s147 : S139 n24 = 101 := gr_lab g141 s123 (by decide)
  have s148 : S139 n38 = 102 := gr_lab g141 s124 (by decide)
  have s149 : S139 n54 = 102 := gr_lab g141 s125 (by decide)
  have s150 : S139 n72 = 102 := gr_lab g141 s126 (by decide)
  have s151 : S139 n92 = 95 := gr_lab g141 s127 (by decide)
  have s152 : S139 n114 = 97 := gr_lab g141 n114l (by decide)
  have e153 : n2 = G140 147 this 1 := gr_val g141 e128 s119 (by decide) rfl
  have e154 : n12 = G140 147 this 2 := gr_val g141 e129 s119 (by decide) rfl
  have e155 : n24 = G140 147 this 3 := gr_val g141 e130 s119 (by decide) rfl
  have e156 : n38 = G140 147 this 4 := gr_val g141 e131 s119 (by decide) rfl
  have e157 : n54 = G140 147 this 5 := gr_val g141 e132 s119 (by decide) rfl
  have e158 : n72 = G140 147 this 6 := gr_val g141 e133 s119 (by decide) rfl
  have e159 : n92 = G140 147 this 7 := gr_val g141 e134 s119 (by decide) rfl
  have e160 : n114 = G140 147 this 8 := gr_val g141 h136 s119 (by decide) rfl
  have g161 : Gr [95, 97, 99, 100, 101, 102, 103, 104] [(99, -1), (147, 0), (147, 1), (147, 2), (147, 3), (147, 4), (147, 5), (147, 6), (147, 7), (147, 8), (147, 9), (147, 10), (147, 11), (147, 12), (147, 13), (147, 14), (147, 15), (147, 16)] S G S139 G140 := gr_call g137 g141 rfl rfl
  refine r_putFN hX hP rfl rfl fq_X3_39_147 s143 (by decide) (Or.inr n138l) (fun h162 => ?_)
  refine r_ex hX hP 3 (pc' := 110) (st' := [(0, 9), (0, 21), (2, this)]) (lo' := [(0, (2, this)), (1, (2, accounts))]) rfl ?_
  have g163 : Gr [95, 97, 99, 100, 101, 102, 103, 104] [(99, -1), (147, 0), (147, 1), (147, 2), (147, 3), (147, 4), (147, 5), (147, 6), (147, 7), (147, 8), (147, 9), (147, 10), (147, 11), (147, 12), (147, 13), (147, 14), (147, 15), (147, 16)] S G S139 (up G140 147 this 9 n138) := (gr_up g161 rfl)
  refine r_multiA hX hP rfl (L := 103) (L2 := 99) (n := 21) (k := 9) al_103 al_99 (by decide) (by decide) (by decide) (tbg sg6 42 rfl rfl) (tbg sg1 123 rfl rfl) (by decide) (by decide) (by first | decide | omega) (by first | decide | omega) (fun n164 S165 G166 n164z n164n n164l g167 => ?_)
  have z168 : S n164 = 0 := gr_zero g163 n164z
  have s169 : S165 this = 147 := gr_lab g167 s143 (by decide)
  have s170 : S165 accounts = 130 := gr_lab g167 s144 (by decide)
  have s171 : S165 n2 = 100 := gr_lab g167 s145 (by decide)
  have s172 : S165 n12 = 101 := gr_lab g167 s146 (by decide)
  have s173 : S165 n24 = 101 := gr_lab g167 s147 (by decide)
  have s174 : S165 n38 = 102 := gr_lab g167 s148 (by decide)
  have s175 : S165 n54 = 102 := gr_lab g167 s149 (by decide)
  have s176 : S165 n72 = 102 := gr_lab g167 s150 (by decide)
  have s177 : S165 n92 = 95 := gr_lab g167 s151 (by decide)
  have s178 : S165 n114 = 97 := gr_lab g167 s152 (by decide)
  have s179 : S165 n138 = 103 := gr_lab g167 n138l (by decide)
  have e180 : n2 = G166 147 this 1 := gr_val g167 e153 s143 (by decide) rfl
  have e181 : n12 = G166 147 this 2 := gr_val g167 e154 s143 (by decide) rfl
  have e182 : n24 = G166 147 this 3 := gr_val g167 e155 s143 (by decide) rfl
  have e183 : n38 = G166 147 this 4 := gr_val g167 e156 s143 (by decide) rfl
  have e184 : n54 = G166 147 this 5 := gr_val g167 e157 s143 (by decide) rfl
  have e185 : n72 = G166 147 this 6 := gr_val g167 e158 s143 (by decide) rfl
  have e186 : n92 = G166 147 this 7 := gr_val g167 e159 s143 (by decide) rfl
  have e187 : n114 = G166 147 this 8 := gr_val g167 e160 s143 (by decide) rfl
  have e188 : n138 = G166 147 this 9 := gr_val g167 h162 s143 (by decide) rfl
  have g189 : Gr [95, 97, 99, 100, 101, 102, 103, 104] [(99, -1), (147, 0), (147, 1), (147, 2), (147, 3), (147, 4), (147, 5), (147, 6), (147, 7), (147, 8), (147, 9), (147, 10), (147, 11), (147, 12), (147, 13), (147, 14), (147, 15), (147, 16)] S G S165 G166 := gr_call g163 g167 rfl rfl
  refine r_putFN hX hP rfl rfl fq_X3_42_147 s169 (by decide) (Or.inr n164l) (fun h190 => ?_)
  refine r_ex hX hP 3 (pc' := 122) (st' := [(0, 9), (0, 21), (2, this)]) (lo' := [(0, (2, this)), (1, (2, accounts))]) rfl ?_
  have g191 : Gr [95, 97, 99, 100, 101, 102, 103, 104] [(99, -1), (147, 0), (147, 1), (147, 2), (147, 3), (147, 4), (147, 5), (147, 6), (147, 7), (147, 8), (147, 9), (147, 10), (147, 11), (147, 12), (147, 13), (147, 14), (147, 15), (147, 16)] S G S165 (up G166 147 this 10 n164) := (gr_up g189 rfl)
  refine r_multiA hX hP rfl (L := 103) (L2 := 99) (n := 21) (k := 9) al_103 al_99 (by decide) (by decide) (by decide) (tbg sg6 42 rfl rfl) (tbg sg1 123 rfl rfl) (by decide) (by decide) (by first | decide | omega) (by first | decide | omega) (fun n192 S193 G194 n192z n192n n192l g195 => ?_)
  have z196 : S n192 = 0 := gr_zero g191 n192z
  have s197 : S193 this = 147 := gr_lab g195 s169 (by decide)
  have s198 : S193 accounts = 130 := gr_lab g195 s170 (by decide)
  have s199 : S193 n2 = 100 := gr_lab g195 s171 (by decide)
  have s200 : S193 n12 = 101 := gr_lab g195 s172 (by decide)
  have s201 : S193 n24 = 101 := gr_lab g195 s173 (by decide)
  have s202 : S193 n38 = 102 := gr_lab g195 s174 (by decide)
  have s203 : S193 n54 = 102 := gr_lab g195 s175 (by decide)
  have s204 : S193 n72 = 102 := gr_lab g195 s176 (by decide)
  have s205 : S193 n92 = 95 := gr_lab g195 s177 (by decide)
  have s206 : S193 n114 = 97 := gr_lab g195 s178 (by decide)
  have s207 : S193 n138 = 103 := gr_lab g195 s179 (by decide)
  have s208 : S193 n164 = 103 := gr_lab g195 n164l (by decide)
  have e209 : n2 = G194 147 this 1 := gr_val g195 e180 s169 (by decide) rfl
  have e210 : n12 = G194 147 this 2 := gr_val g195 e181 s169 (by decide) rfl
  have e211 : n24 = G194 147 this 3 := gr_val g195 e182 s169 (by decide) rfl
  have e212 : n38 = G194 147 this 4 := gr_val g195 e183 s169 (by decide) rfl
  have e213 : n54 = G194 147 this 5 := gr_val g195 e184 s169 (by decide) rfl
  have e214 : n72 = G194 147 this 6 := gr_val g195 e185 s169 (by decide) rfl
  have e215 : n92 = G194 147 this 7 := gr_val g195 e186 s169 (by decide) rfl
  have e216 : n114 = G194 147 this 8 := gr_val g195 e187 s169 (by decide) rfl
  have e217 : n138 = G194 147 this 9 := gr_val g195 e188 s169 (by decide) rfl
  have e218 : n164 = G194 147 this 10 := gr_val g195 h190 s169 (by decide) rfl
  have g219 : Gr [95, 97, 99, 100, 101, 102, 103, 104] [(99, -1), (147, 0), (147, 1), (147, 2), (147, 3), (147, 4), (147, 5), (147, 6), (147, 7), (147, 8), (147, 9), (147, 10), (147, 11), (147, 12), (147, 13), (147, 14), (147, 15), (147, 16)] S G S193 G194 := gr_call g191 g195 rfl rfl
  refine r_putFN hX hP rfl rfl fq_X3_45_147 s197 (by decide) (Or.inr n192l) (fun h220 => ?_)
  refine r_ex hX hP 3 (pc' := 133) (st' := [(0, 9), (0, 4), (2, this)]) (lo' := [(0, (2, this)), (1, (2, accounts))]) rfl ?_
  have g221 : Gr [95, 97, 99, 100, 101, 102, 103, 104] [(99, -1), (147, 0), (147, 1), (147, 2), (147, 3), (147, 4), (147, 5), (147, 6), (147, 7), (147, 8), (147, 9), (147, 10), (147, 11), (147, 12), (147, 13), (147, 14), (147, 15), (147, 16)] S G S193 (up G194 147 this 11 n192) := (gr_up g219 rfl)
  refine r_multiA hX hP rfl (L := 104) (L2 := 99) (n := 4) (k := 9) al_104 al_99 (by decide) (by decide) (by decide) (tbg sg6 42 rfl rfl) (tbg sg1 123 rfl rfl) (by decide) (by decide) (by first | decide | omega) (by first | decide | omega) (fun n222 S223 G224 n222z n222n n222l g225 => ?_)
  have z226 : S n222 = 0 := gr_zero g221 n222z
  have s227 : S223 this = 147 := gr_lab g225 s197 (by decide)
  have s228 : S223 accounts = 130 := gr_lab g225 s198 (by decide)
  have s229 : S223 n2 = 100 := gr_lab g225 s199 (by decide)
  have s230 : S223 n12 = 101 := gr_lab g225 s200 (by decide)
  have s231 : S223 n24 = 101 := gr_lab g225 s201 (by decide)
  have s232 : S223 n38 = 102 := gr_lab g225 s202 (by decide)
  have s233 : S223 n54 = 102 := gr_lab g225 s203 (by decide)
  have s234 : S223 n72 = 102 := gr_lab g225 s204 (by decide)
  have s235 : S223 n92 = 95 := gr_lab g225 s205 (by decide)
  have s236 : S223 n114 = 97 := gr_lab g225 s206 (by decide)
  have s237 : S223 n138 = 103 := gr_lab g225 s207 (by decide)
  have s238 : S223 n164 = 103 := gr_lab g225 s208 (by decide)
  have s239 : S223 n192 = 103 := gr_lab g225 n192l (by decide)
  have e240 : n2 = G224 147 this 1 := gr_val g225 e209 s197 (by decide) rfl
  have e241 : n12 = G224 147 this 2 := gr_val g225 e210 s197 (by decide) rfl
  have e242 : n24 = G224 147 this 3 := gr_val g225 e211 s197 (by decide) rfl
  have e243 : n38 = G224 147 this 4 := gr_val g225 e212 s197 (by decide) rfl
  have e244 : n54 = G224 147 this 5 := gr_val g225 e213 s197 (by decide) rfl
  have e245 : n72 = G224 147 this 6 := gr_val g225 e214 s197 (by decide) rfl
  have e246 : n92 = G224 147 this 7 := gr_val g225 e215 s197 (by decide) rfl
  have e247 : n114 = G224 147 this 8 := gr_val g225 e216 s197 (by decide) rfl
  have e248 : n138 = G224 147 this 9 := gr_val g225 e217 s197 (by decide) rfl
  have e249 : n164 = G224 147 this 10 := gr_val g225 e218 s197 (by decide) rfl
  have e250 : n192 = G224 147 this 11 := gr_val g225 h220 s197 (by decide) rfl
  have g251 : Gr [95, 97, 99, 100, 101, 102, 103, 104] [(99, -1), (147, 0), (147, 1), (147, 2), (147, 3), (147, 4), (147, 5), (147, 6), (147, 7), (147, 8), (147, 9), (147, 10), (147, 11), (147, 12), (147, 13), (147, 14), (147, 15), (147, 16)] S G S223 G224 := gr_call g221 g225 rfl rfl
  refine r_putFN hX hP rfl rfl fq_X3_48_147 s227 (by decide) (Or.inr n222l) (fun h252 => ?_)
  refine r_ex hX hP 2 (pc' := 143) (st' := [(0, 9), (2, this)]) (lo' := [(0, (2, this)), (1, (2, accounts))]) rfl ?_
  have g253 : Gr [95, 97, 99, 100, 101, 102, 103, 104] [(99, -1), (147, 0), (147, 1), (147, 2), (147, 3), (147, 4), (147, 5), (147, 6), (147, 7), (147, 8), (147, 9), (147, 10), (147, 11), (147, 12), (147, 13), (147, 14), (147, 15), (147, 16)] S G S223 (up G224 147 this 12 n222) := (gr_up g251 rfl)
  refine r_newarrA hX hP rfl (L := 99) (n := 9) al_99 (by decide) rfl rfl rfl (tbg sg1 123 rfl rfl) (by decide) (by first | decide | omega) (by first | decide | omega) (fun n254 S255 G256 n254z n254n n254l g257 n254v => ?_)
  have z258 : S n254 = 0 := gr_zero g253 n254z
  have s259 : S255 this = 147 := gr_lab g257 s227 (by decide)
  have s260 : S255 accounts = 130 := gr_lab g257 s228 (by decide)
  have s261 : S255 n2 = 100 := gr_lab g257 s229 (by decide)
  have s262 : S255 n12 = 101 := gr_lab g257 s230 (by decide)
  have s263 : S255 n24 = 101 := gr_lab g257 s231 (by decide)
  have s264 : S255 n38 = 102 := gr_lab g257 s232 (by decide)
  have s265 : S255 n54 = 102 := gr_lab g257 s233 (by decide)
  have s266 : S255 n72 = 102 := gr_lab g257 s234 (by decide)
  have s267 : S255 n92 = 95 := gr_lab g257 s235 (by decide)
  have s268 : S255 n114 = 97 := gr_lab g257 s236 (by decide)
  have s269 : S255 n138 = 103 := gr_lab g257 s237 (by decide)
  have s270 : S255 n164 = 103 := gr_lab g257 s238 (by decide)
  have s271 : S255 n192 = 103 := gr_lab g257 s239 (by decide)
  have s272 : S255 n222 = 104 := gr_lab g257 n222l (by decide)
  have e273 : n2 = G256 147 this 1 := gr_val g257 e240 s227 (by decide) rfl
  have e274 : n12 = G256 147 this 2 := gr_val g257 e241 s227 (by decide) rfl
  have e275 : n24 = G256 147 this 3 := gr_val g257 e242 s227 (by decide) rfl
  have e276 : n38 = G256 147 this 4 := gr_val g257 e243 s227 (by decide) rfl
  have e277 : n54 = G256 147 this 5 := gr_val g257 e244 s227 (by decide) rfl
  have e278 : n72 = G256 147 this 6 := gr_val g257 e245 s227 (by decide) rfl
  have e279 : n92 = G256 147 this 7 := gr_val g257 e246 s227 (by decide) rfl
  have e280 : n114 = G256 147 this 8 := gr_val g257 e247 s227 (by decide) rfl
  have e281 : n138 = G256 147 this 9 := gr_val g257 e248 s227 (by decide) rfl
  have e282 : n164 = G256 147 this 10 := gr_val g257 e249 s227 (by decide) rfl
  have e283 : n192 = G256 147 this 11 := gr_val g257 e250 s227 (by decide) rfl
  have e284 : n222 = G256 147 this 12 := gr_val g257 h252 s227 (by decide) rfl
  have g285 : Gr [95, 97, 99, 100, 101, 102, 103, 104] [(99, -1), (147, 0), (147, 1), (147, 2), (147, 3), (147, 4), (147, 5), (147, 6), (147, 7), (147, 8), (147, 9), (147, 10), (147, 11), (147, 12), (147, 13), (147, 14), (147, 15), (147, 16)] S G S255 G256 := gr_call g253 g257 rfl rfl
  refine r_putFN hX hP rfl rfl fq_X3_51_147 s259 (by decide) (Or.inr n254l) (fun h286 => ?_)
  refine r_ex hX hP 2 (pc' := 151) (st' := [(0, 9), (2, this)]) (lo' := [(0, (2, this)), (1, (2, accounts))]) rfl ?_
  have g287 : Gr [95, 97, 99, 100, 101, 102, 103, 104] [(99, -1), (147, 0), (147, 1), (147, 2), (147, 3), (147, 4), (147, 5), (147, 6), (147, 7), (147, 8), (147, 9), (147, 10), (147, 11), (147, 12), (147, 13), (147, 14), (147, 15), (147, 16)] S G S255 (up G256 147 this 13 n254) := (gr_up g285 rfl)
  refine r_newarrA hX hP rfl (L := 99) (n := 9) al_99 (by decide) rfl rfl rfl (tbg sg1 123 rfl rfl) (by decide) (by first | decide | omega) (by first | decide | omega) (fun n288 S289 G290 n288z n288n n288l g291 n288v => ?_)
  have z292 : S n288 = 0 := gr_zero g287 n288z
  have s293 : S289 this = 147 := gr_lab g291 s259 (by decide)
  have s294 : S289 accounts = 130 := gr_lab g291 s260 (by decide)
  have s295 : S289 n2 = 100 := gr_lab g291 s261 (by decide)
  have s296 : S289 n12 = 101 := gr_lab g291 s262 (by decide)
  have s297 : S289 n24 = 101 := gr_lab g291 s263 (by decide)
  have s298 : S289 n38 = 102 := gr_lab g291 s264 (by decide)
  have s299 : S289 n54 = 102 := gr_lab g291 s265 (by decide)
  have s300 : S289 n72 = 102 := gr_lab g291 s266 (by decide)
  have s301 : S289 n92 = 95 := gr_lab g291 s267 (by decide)
  have s302 : S289 n114 = 97 := gr_lab g291 s268 (by decide)
  have s303 : S289 n138 = 103 := gr_lab g291 s269 (by decide)
  have s304 : S289 n164 = 103 := gr_lab g291 s270 (by decide)
  have s305 : S289 n192 = 103 := gr_lab g291 s271 (by decide)
  have s306 : S289 n222 = 104 := gr_lab g291 s272 (by decide)
  have s307 : S289 n254 = 99 := gr_lab g291 n254l (by decide)
  have e308 : n2 = G290 147 this 1 := gr_val g291 e273 s259 (by decide) rfl
  have e309 : n12 = G290 147 this 2 := gr_val g291 e274 s259 (by decide) rfl
  have e310 : n24 = G290 147 this 3 := gr_val g291 e275 s259 (by decide) rfl
  have e311 : n38 = G290 147 this 4 := gr_val g291 e276 s259 (by decide) rfl
  have e312 : n54 = G290 147 this 5 := gr_val g291 e277 s259 (by decide) rfl
  have e313 : n72 = G290 147 this 6 := gr_val g291 e278 s259 (by decide) rfl
  have e314 : n92 = G290 147 this 7 := gr_val g291 e279 s259 (by decide) rfl
  have e315 : n114 = G290 147 this 8 := gr_val g291 e280 s259 (by decide) rfl
  have e316 : n138 = G290 147 this 9 := gr_val g291 e281 s259 (by decide) rfl
  have e317 : n164 = G290 147 this 10 := gr_val g291 e282 s259 (by decide) rfl
  have e318 : n192 = G290 147 this 11 := gr_val g291 e283 s259 (by decide) rfl
  have e319 : n222 = G290 147 this 12 := gr_val g291 e284 s259 (by decide) rfl
  have e320 : n254 = G290 147 this 13 := gr_val g291 h286 s259 (by decide) rfl
  have g321 : Gr [95, 97, 99, 100, 101, 102, 103, 104] [(99, -1), (147, 0), (147, 1), (147, 2), (147, 3), (147, 4), (147, 5), (147, 6), (147, 7), (147, 8), (147, 9), (147, 10), (147, 11), (147, 12), (147, 13), (147, 14), (147, 15), (147, 16)] S G S289 G290 := gr_call g287 g291 rfl rfl
  refine r_putFN hX hP rfl rfl fq_X3_54_147 s293 (by decide) (Or.inr n288l) (fun h322 => ?_)
  refine r_ex hX hP 2 (pc' := 159) (st' := [(0, 9), (2, this)]) (lo' := [(0, (2, this)), (1, (2, accounts))]) rfl ?_
  have g323 : Gr [95, 97, 99, 100, 101, 102, 103, 104] [(99, -1), (147, 0), (147, 1), (147, 2), (147, 3), (147, 4), (147, 5), (147, 6), (147, 7), (147, 8), (147, 9), (147, 10), (147, 11), (147, 12), (147, 13), (147, 14), (147, 15), (147, 16)] S G S289 (up G290 147 this 14 n288) := (gr_up g321 rfl)
  refine r_newarrA hX hP rfl (L := 99) (n := 9) al_99 (by decide) rfl rfl rfl (tbg sg1 123 rfl rfl) (by decide) (by first | decide | omega) (by first | decide | omega) (fun n324 S325 G326 n324z n324n n324l g327 n324v => ?_)
  have z328 : S n324 = 0 := gr_zero g323 n324z
  have s329 : S325 this = 147 := gr_lab g327 s293 (by decide)
  have s330 : S325 accounts = 130 := gr_lab g327 s294 (by decide)
  have s331 : S325 n2 = 100 := gr_lab g327 s295 (by decide)
  have s332 : S325 n12 = 101 := gr_lab g327 s296 (by decide)
  have s333 : S325 n24 = 101 := gr_lab g327 s297 (by decide)
  have s334 : S325 n38 = 102 := gr_lab g327 s298 (by decide)
  have s335 : S325 n54 = 102 := gr_lab g327 s299 (by decide)
  have s336 : S325 n72 = 102 := gr_lab g327 s300 (by decide)
  have s337 : S325 n92 = 95 := gr_lab g327 s301 (by decide)
  have s338 : S325 n114 = 97 := gr_lab g327 s302 (by decide)
  have s339 : S325 n138 = 103 := gr_lab g327 s303 (by decide)
  have s340 : S325 n164 = 103 := gr_lab g327 s304 (by decide)
  have s341 : S325 n192 = 103 := gr_lab g327 s305 (by decide)
  have s342 : S325 n222 = 104 := gr_lab g327 s306 (by decide)
  have s343 : S325 n254 = 99 := gr_lab g327 s307 (by decide)
  have s344 : S325 n288 = 99 := gr_lab g327 n288l (by decide)
  have e345 : n2 = G326 147 this 1 := gr_val g327 e308 s293 (by decide) rfl
  have e346 : n12 = G326 147 this 2 := gr_val g327 e309 s293 (by decide) rfl
  have e347 : n24 = G326 147 this 3 := gr_val g327 e310 s293 (by decide) rfl
  have e348 : n38 = G326 147 this 4 := gr_val g327 e311 s293 (by decide) rfl
  have e349 : n54 = G326 147 this 5 := gr_val g327 e312 s293 (by decide) rfl
  have e350 : n72 = G326 147 this 6 := gr_val g327 e313 s293 (by decide) rfl
  have e351 : n92 = G326 147 this 7 := gr_val g327 e314 s293 (by decide) rfl
  have e352 : n114 = G326 147 this 8 := gr_val g327 e315 s293 (by decide) rfl
  have e353 : n138 = G326 147 this 9 := gr_val g327 e316 s293 (by decide) rfl
  have e354 : n164 = G326 147 this 10 := gr_val g327 e317 s293 (by decide) rfl
  have e355 : n192 = G326 147 this 11 := gr_val g327 e318 s293 (by decide) rfl
  have e356 : n222 = G326 147 this 12 := gr_val g327 e319 s293 (by decide) rfl
  have e357 : n254 = G326 147 this 13 := gr_val g327 e320 s293 (by decide) rfl
  have e358 : n288 = G326 147 this 14 := gr_val g327 h322 s293 (by decide) rfl
  have g359 : Gr [95, 97, 99, 100, 101, 102, 103, 104] [(99, -1), (147, 0), (147, 1), (147, 2), (147, 3), (147, 4), (147, 5), (147, 6), (147, 7), (147, 8), (147, 9), (147, 10), (147, 11), (147, 12), (147, 13), (147, 14), (147, 15), (147, 16)] S G S325 G326 := gr_call g323 g327 rfl rfl
  refine r_putFN hX hP rfl rfl fq_X3_57_147 s329 (by decide) (Or.inr n324l) (fun h360 => ?_)
  refine r_ex hX hP 2 (pc' := 167) (st' := [(0, 9), (2, this)]) (lo' := [(0, (2, this)), (1, (2, accounts))]) rfl ?_
  have g361 : Gr [95, 97, 99, 100, 101, 102, 103, 104] [(99, -1), (147, 0), (147, 1), (147, 2), (147, 3), (147, 4), (147, 5), (147, 6), (147, 7), (147, 8), (147, 9), (147, 10), (147, 11), (147, 12), (147, 13), (147, 14), (147, 15), (147, 16)] S G S325 (up G326 147 this 15 n324) := (gr_up g359 rfl)
  refine r_newarrA hX hP rfl (L := 99) (n := 9) al_99 (by decide) rfl rfl rfl (tbg sg1 123 rfl rfl) (by decide) (by first | decide | omega) (by first | decide | omega) (fun n362 S363 G364 n362z n362n n362l g365 n362v => ?_)
  have z366 : S n362 = 0 := gr_zero g361 n362z
  have s367 : S363 this = 147 := gr_lab g365 s329 (by decide)
  have s368 : S363 accounts = 130 := gr_lab g365 s330 (by decide)
  have s369 : S363 n2 = 100 := gr_lab g365 s331 (by decide)
  have s370 : S363 n12 = 101 := gr_lab g365 s332 (by decide)
  have s371 : S363 n24 = 101 := gr_lab g365 s333 (by decide)
  have s372 : S363 n38 = 102 := gr_lab g365 s334 (by decide)
  have s373 : S363 n54 = 102 := gr_lab g365 s335 (by decide)
  have s374 : S363 n72 = 102 := gr_lab g365 s336 (by decide)
  have s375 : S363 n92 = 95 := gr_lab g365 s337 (by decide)
  have s376 : S363 n114 = 97 := gr_lab g365 s338 (by decide)
  have s377 : S363 n138 = 103 := gr_lab g365 s339 (by decide)
  have s378 : S363 n164 = 103 := gr_lab g365 s340 (by decide)
  have s379 : S363 n192 = 103 := gr_lab g365 s341 (by decide)
  have s380 : S363 n222 = 104 := gr_lab g365 s342 (by decide)
  have s381 : S363 n254 = 99 := gr_lab g365 s343 (by decide)
  have s382 : S363 n288 = 99 := gr_lab g365 s344 (by decide)
  have s383 : S363 n324 = 99 := gr_lab g365 n324l (by decide)
  have e384 : n2 = G364 147 this 1 := gr_val g365 e345 s329 (by decide) rfl
  have e385 : n12 = G364 147 this 2 := gr_val g365 e346 s329 (by decide) rfl
  have e386 : n24 = G364 147 this 3 := gr_val g365 e347 s329 (by decide) rfl
  have e387 : n38 = G364 147 this 4 := gr_val g365 e348 s329 (by decide) rfl
  have e388 : n54 = G364 147 this 5 := gr_val g365 e349 s329 (by decide) rfl
  have e389 : n72 = G364 147 this 6 := gr_val g365 e350 s329 (by decide) rfl
  have e390 : n92 = G364 147 this 7 := gr_val g365 e351 s329 (by decide) rfl
  have e391 : n114 = G364 147 this 8 := gr_val g365 e352 s329 (by decide) rfl
  have e392 : n138 = G364 147 this 9 := gr_val g365 e353 s329 (by decide) rfl
  have e393 : n164 = G364 147 this 10 := gr_val g365 e354 s329 (by decide) rfl
  have e394 : n192 = G364 147 this 11 := gr_val g365 e355 s329 (by decide) rfl
  have e395 : n222 = G364 147 this 12 := gr_val g365 e356 s329 (by decide) rfl
  have e396 : n254 = G364 147 this 13 := gr_val g365 e357 s329 (by decide) rfl
  have e397 : n288 = G364 147 this 14 := gr_val g365 e358 s329 (by decide) rfl
  have e398 : n324 = G364 147 this 15 := gr_val g365 h360 s329 (by decide) rfl
  have g399 : Gr [95, 97, 99, 100, 101, 102, 103, 104] [(99, -1), (147, 0), (147, 1), (147, 2), (147, 3), (147, 4), (147, 5), (147, 6), (147, 7), (147, 8), (147, 9), (147, 10), (147, 11), (147, 12), (147, 13), (147, 14), (147, 15), (147, 16)] S G S363 G364 := gr_call g361 g365 rfl rfl
  refine r_putFN hX hP rfl rfl fq_X3_60_147 s367 (by decide) (Or.inr n362l) (fun h400 => ?_)
  refine r_ex hX hP 2 (pc' := 174) (st' := [(2, accounts), (2, this)]) (lo' := [(0, (2, this)), (1, (2, accounts))]) rfl ?_
  refine r_putFN hX hP rfl rfl fq_X3_63_147 s367 (by decide) (Or.inr s368) (fun h401 => ?_)
  refine r_ex hX hP 1 (pc' := 178) (st' := [(2, this)]) (lo' := [(0, (2, this)), (1, (2, accounts))]) rfl ?_
  refine r_getKN hX hP rfl fl_X3_60_147 s367 (x := n362) h400 ?_
  refine r_ex hX hP 1 (pc' := 182) (st' := [(1, 1), (2, n362)]) (lo' := [(0, (2, this)), (1, (2, accounts))]) rfl ?_
  refine r_callS gd hX hP rfl cs_X3_67 (d' := 0) (mc' := 0) (ms' := 0) (as' := [(2, n362), (1, 1)]) (st := []) (by first | decide | omega) (by first | decide | omega) (by first | decide | omega) rfl rfl (Nat.le_of_ble_eq_true rfl) (c_X3_put E S363 (up (up G364 147 this 16 n362) 147 this 0 accounts) n362 1 n362l (by first | decide | omega) (by first | decide | omega)) ?_
  rintro _ _ _ ⟨rfl, ⟨G402, rfl⟩, rfl, -⟩
  refine r_finA hX (L := 147) (ci := 4) (fs := fs_147) rfl s367 (by decide) (fun hr403 => ?_)
  have hf404 : Fnl E fs_133 147 S363 (hw [(99, -1)] (up (up G364 147 this 16 n362) 147 this 0 accounts) G402) this := by
    intro j hj
    rcases (by have : j < 17 := hj; omega : j = 0 ∨ j = 1 ∨ j = 2 ∨ j = 3 ∨ j = 4 ∨ j = 5 ∨ j = 6 ∨ j = 7 ∨ j = 8 ∨ j = 9 ∨ j = 10 ∨ j = 11 ∨ j = 12 ∨ j = 13 ∨ j = 14 ∨ j = 15 ∨ j = 16) with rfl | rfl | rfl | rfl | rfl | rfl | rfl | rfl | rfl | rfl | rfl | rfl | rfl | rfl | rfl | rfl | rfl
    · exact ⟨lab_of h401 s368, by decide⟩
    · exact ⟨lab_of e384 s369, by decide⟩
    · exact ⟨lab_of e385 s370, by decide⟩
    · exact ⟨lab_of e386 s371, by decide⟩
    · exact ⟨lab_of e387 s372, by decide⟩
    · exact ⟨lab_of e388 s373, by decide⟩
    · exact ⟨lab_of e389 s374, by decide⟩
    · exact ⟨lab_of e390 s375, by decide⟩
    · exact ⟨lab_of e391 s376, by decide⟩
    · exact ⟨lab_of e392 s377, by decide⟩
    · exact ⟨lab_of e393 s378, by decide⟩
    · exact ⟨lab_of e394 s379, by decide⟩
    · exact ⟨lab_of e395 s380, by decide⟩
    · exact ⟨lab_of e396 s381, by decide⟩
    · exact ⟨lab_of e397 s382, by decide⟩
    · exact ⟨lab_of e398 s383, by decide⟩
    · exact ⟨lab_of h400 n362l, by decide⟩
  have g405 : Gr [95, 97, 99, 100, 101, 102, 103, 104] [(99, -1), (147, 0), (147, 1), (147, 2), (147, 3), (147, 4), (147, 5), (147, 6), (147, 7), (147, 8), (147, 9), (147, 10), (147, 11), (147, 12), (147, 13), (147, 14), (147, 15), (147, 16)] S G S363 (hw [(99, -1)] (up (up G364 147 this 16 n362) 147 this 0 accounts) G402) := (gr_hw (gr_up (gr_up g399 rfl) rfl) rfl)
  exact r_retV hX hP rfl rfl (by first | decide | omega) (by first | decide | omega) ⟨g405, rfl, hf404⟩
