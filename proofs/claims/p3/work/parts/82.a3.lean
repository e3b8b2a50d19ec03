theorem fl_X8_10_143 : Fl RX8 10 143 0 (0, 0, 40000) := ⟨9, 20, fs_143, RX8, TX8, rfl, rfl, by decide, rfl, by decide, rfl, cf_X8, (tbg sg1 151 rfl rfl)⟩
theorem fp_X8_10_143 : Fp RX8 10 143 0 (0, 0, 40000) := ⟨fl_X8_10_143, 9, 20, fs_143, RX8, TX8, .int, rfl, rfl, rfl, by decide +kernel, fun E S x h => ⟨rfl, rfl⟩⟩
theorem fl_X8_16_143 : Fl RX8 16 143 1 (0, 0, 1) := ⟨9, 20, fs_143, RX8, TX8, rfl, rfl, by decide, rfl, by decide, rfl, cf_X8, (tbg sg1 153 rfl rfl)⟩
theorem fp_X8_16_143 : Fp RX8 16 143 1 (0, 0, 1) := ⟨fl_X8_16_143, 9, 20, fs_143, RX8, TX8, .boolean, rfl, rfl, rfl, by decide +kernel, fun E S x h => zfit h⟩
theorem fl_X8_22_143 : Fl RX8 22 143 3 (3, 114, 0) := ⟨9, 20, fs_143, RX8, TX8, rfl, rfl, by decide, rfl, by decide, rfl, cf_X8, (tbg sg1 157 rfl rfl)⟩
theorem fq_X8_22_143 : Fpf RX8 22 143 3 (3, 114, 0) := ⟨fl_X8_22_143, 9, 20, fs_143, RX8, TX8, (.array (.array (.long))), rfl, rfl, rfl, rfl, by decide +kernel, fun E S x h => reffit (fun _ => rfl) ⟨rfl, fun _ => rfl⟩ (by decide) x⟩
theorem fl_X8_25_143 : Fl RX8 25 143 4 (3, 114, 0) := ⟨9, 20, fs_143, RX8, TX8, rfl, rfl, by decide, rfl, by decide, rfl, cf_X8, (tbg sg1 160 rfl rfl)⟩
theorem fq_X8_25_143 : Fpf RX8 25 143 4 (3, 114, 0) := ⟨fl_X8_25_143, 9, 20, fs_143, RX8, TX8, (.array (.array (.long))), rfl, rfl, rfl, rfl, by decide +kernel, fun E S x h => reffit (fun _ => rfl) ⟨rfl, fun _ => rfl⟩ (by decide) x⟩
theorem fl_X8_28_143 : Fl RX8 28 143 5 (3, 95, 0) := ⟨9, 20, fs_143, RX8, TX8, rfl, rfl, by decide, rfl, by decide, rfl, cf_X8, (tbg sg1 162 rfl rfl)⟩
theorem fq_X8_28_143 : Fpf RX8 28 143 5 (3, 95, 0) := ⟨fl_X8_28_143, 9, 20, fs_143, RX8, TX8, (.array (.long)), rfl, rfl, rfl, rfl, by decide +kernel, fun E S x h => reffit (fun _ => rfl) ⟨rfl, fun _ => rfl⟩ (by decide) x⟩
theorem fl_X8_32_143 : Fl RX8 32 143 6 (3, 95, 0) := ⟨9, 20, fs_143, RX8, TX8, rfl, rfl, by decide, rfl, by decide, rfl, cf_X8, (tbg sg1 164 rfl rfl)⟩
theorem fq_X8_32_143 : Fpf RX8 32 143 6 (3, 95, 0) := ⟨fl_X8_32_143, 9, 20, fs_143, RX8, TX8, (.array (.long)), rfl, rfl, rfl, rfl, by decide +kernel, fun E S x h => reffit (fun _ => rfl) ⟨rfl, fun _ => rfl⟩ (by decide) x⟩
theorem fl_X8_35_143 : Fl RX8 35 143 7 (3, 115, 0) := ⟨9, 20, fs_143, RX8, TX8, rfl, rfl, by decide, rfl, by decide, rfl, cf_X8, (tbg sg1 166 rfl rfl)⟩
theorem fq_X8_35_143 : Fpf RX8 35 143 7 (3, 115, 0) := ⟨fl_X8_35_143, 9, 20, fs_143, RX8, TX8, (.array (.int)), rfl, rfl, rfl, rfl, by decide +kernel, fun E S x h => reffit (fun _ => rfl) ⟨rfl, fun _ => rfl⟩ (by decide) x⟩
theorem fl_X8_39_143 : Fl RX8 39 143 8 (3, 117, 0) := ⟨9, 20, fs_143, RX8, TX8, rfl, rfl, by decide, rfl, by decide, rfl, cf_X8, (tbg sg1 169 rfl rfl)⟩
theorem fq_X8_39_143 : Fpf RX8 39 143 8 (3, 117, 0) := ⟨fl_X8_39_143, 9, 20, fs_143, RX8, TX8, (.array (.array (.long))), rfl, rfl, rfl, rfl, by decide +kernel, fun E S x h => reffit (fun _ => rfl) ⟨rfl, fun _ => rfl⟩ (by decide) x⟩
theorem nw_X8_42_144 : Nw RX8 42 144 18 := ⟨1, fs_144, RX0, TX0, tyX0, rfl, rfl, by decide, rfl, tbs [232, 234, 236, 238, 240, 242, 244, 246, 248, 250, 252, 254, 256, 258, 260, 262, 264, 266] (by decide +kernel), tyX0_ok, (tbg sg1 44 rfl rfl), (tbg sg1 45 rfl rfl), (tbg sg1 3 rfl rfl), by decide⟩
theorem co_X0_init : Co mX0_init 0 := ⟨(tbg sg1 48 rfl rfl), (tbg sg1 3 rfl rfl), by decide, by decide, by decide +kernel, by decide⟩
theorem ci_X8_44 : Ci RX8 44 mX0_init 0 := ⟨co_X0_init, (tbg sg1 46 rfl rfl), rfl, (tbg sg1 47 rfl rfl), rfl⟩
theorem nf_144 : norf 144 = true := by decide +kernel
theorem fl_X8_45_143 : Fl RX8 45 143 9 (3, 130, 0) := ⟨9, 20, fs_143, RX8, TX8, rfl, rfl, by decide, rfl, by decide, rfl, cf_X8, (tbg sg1 172 rfl rfl)⟩
theorem fq_X8_45_143 : Fpf RX8 45 143 9 (3, 130, 0) := ⟨fl_X8_45_143, 9, 20, fs_143, RX8, TX8, (.object "ShareLife$Accounts"), rfl, rfl, rfl, rfl, by decide +kernel, fun E S x h => reffit (fun _ => rfl) ⟨rfl, fun _ => rfl⟩ (by decide) x⟩
theorem nw_X8_49_153 : Nw RX8 49 153 3 := ⟨0, fs_153, RJx4a65c, TJx4a65c, tyJx4a65c, rfl, rfl, by decide, rfl, tbs [294, 290, 292] (by decide +kernel), tyJx4a65c_ok, (tbg sg1 125 rfl rfl), (tbg sg1 126 rfl rfl), (tbg sg1 6 rfl rfl), by decide⟩
theorem co_Jx4a65c_init_da8c8 : Co mJx4a65c_init_da8c8 0 := ⟨(tbg sg1 129 rfl rfl), (tbg sg1 6 rfl rfl), by decide, by decide, by decide +kernel, by decide⟩
theorem ci_X8_51 : Ci RX8 51 mJx4a65c_init_da8c8 0 := ⟨co_Jx4a65c_init_da8c8, (tbg sg1 127 rfl rfl), rfl, (tbg sg1 128 rfl rfl), rfl⟩
theorem tl_153 (j : Nat) {t : Ty} (h : fs_153.getD j (0, 0, 0) = t) (hj : j < fs_153.length) : Tl 153 j t := ⟨0, fs_153, rfl, hj, h, by decide⟩
theorem nf_153 : norf 153 = true := by decide +kernel
theorem fl_X8_52_143 : Fl RX8 52 143 10 (3, 154, 0) := ⟨9, 20, fs_143, RX8, TX8, rfl, rfl, by decide, rfl, by decide, rfl, cf_X8, (tbg sg1 174 rfl rfl)⟩
theorem fq_X8_52_143 : Fpf RX8 52 143 10 (3, 154, 0) := ⟨fl_X8_52_143, 9, 20, fs_143, RX8, TX8, (.object "java/util/ArrayList"), rfl, rfl, rfl, rfl, by decide +kernel, fun E S x h => reffit (fun _ => rfl) ⟨rfl, fun _ => rfl⟩ (by decide) x⟩
theorem fl_X8_56_143 : Fl RX8 56 143 11 (3, 155, 0) := ⟨9, 20, fs_143, RX8, TX8, rfl, rfl, by decide, rfl, by decide, rfl, cf_X8, (tbg sg1 177 rfl rfl)⟩
theorem fq_X8_56_143 : Fpf RX8 56 143 11 (3, 155, 0) := ⟨fl_X8_56_143, 9, 20, fs_143, RX8, TX8, (.object "java/util/ArrayList"), rfl, rfl, rfl, rfl, by decide +kernel, fun E S x h => reffit (fun _ => rfl) ⟨rfl, fun _ => rfl⟩ (by decide) x⟩
theorem fl_X8_59_143 : Fl RX8 59 143 12 (3, 156, 0) := ⟨9, 20, fs_143, RX8, TX8, rfl, rfl, by decide, rfl, by decide, rfl, cf_X8, (tbg sg1 180 rfl rfl)⟩
theorem fq_X8_59_143 : Fpf RX8 59 143 12 (3, 156, 0) := ⟨fl_X8_59_143, 9, 20, fs_143, RX8, TX8, (.object "java/util/ArrayList"), rfl, rfl, rfl, rfl, by decide +kernel, fun E S x h => reffit (fun _ => rfl) ⟨rfl, fun _ => rfl⟩ (by decide) x⟩
theorem fl_X8_62_143 : Fl RX8 62 143 13 (3, 157, 0) := ⟨9, 20, fs_143, RX8, TX8, rfl, rfl, by decide, rfl, by decide, rfl, cf_X8, (tbg sg1 183 rfl rfl)⟩
theorem fq_X8_62_143 : Fpf RX8 62 143 13 (3, 157, 0) := ⟨fl_X8_62_143, 9, 20, fs_143, RX8, TX8, (.object "java/util/ArrayList"), rfl, rfl, rfl, rfl, by decide +kernel, fun E S x h => reffit (fun _ => rfl) ⟨rfl, fun _ => rfl⟩ (by decide) x⟩
theorem fl_X8_65_143 : Fl RX8 65 143 14 (3, 118, 0) := ⟨9, 20, fs_143, RX8, TX8, rfl, rfl, by decide, rfl, by decide, rfl, cf_X8, (tbg sg1 184 rfl rfl)⟩
theorem fq_X8_65_143 : Fpf RX8 65 143 14 (3, 118, 0) := ⟨fl_X8_65_143, 9, 20, fs_143, RX8, TX8, (.array (.int)), rfl, rfl, rfl, rfl, by decide +kernel, fun E S x h => reffit (fun _ => rfl) ⟨rfl, fun _ => rfl⟩ (by decide) x⟩
theorem fl_X8_68_143 : Fl RX8 68 143 17 (3, 95, 0) := ⟨9, 20, fs_143, RX8, TX8, rfl, rfl, by decide, rfl, by decide, rfl, cf_X8, (tbg sg1 190 rfl rfl)⟩
theorem fq_X8_68_143 : Fpf RX8 68 143 17 (3, 95, 0) := ⟨fl_X8_68_143, 9, 20, fs_143, RX8, TX8, (.array (.long)), rfl, rfl, rfl, rfl, by decide +kernel, fun E S x h => reffit (fun _ => rfl) ⟨rfl, fun _ => rfl⟩ (by decide) x⟩
theorem fl_X8_71_143 : Fl RX8 71 143 18 (3, 95, 0) := ⟨9, 20, fs_143, RX8, TX8, rfl, rfl, by decide, rfl, by decide, rfl, cf_X8, (tbg sg1 191 rfl rfl)⟩
theorem fq_X8_71_143 : Fpf RX8 71 143 18 (3, 95, 0) := ⟨fl_X8_71_143, 9, 20, fs_143, RX8, TX8, (.array (.long)), rfl, rfl, rfl, rfl, by decide +kernel, fun E S x h => reffit (fun _ => rfl) ⟨rfl, fun _ => rfl⟩ (by decide) x⟩
theorem fl_X8_74_143 : Fl RX8 74 143 19 (3, 93, 0) := ⟨9, 20, fs_143, RX8, TX8, rfl, rfl, by decide, rfl, by decide, rfl, cf_X8, (tbg sg1 192 rfl rfl)⟩
theorem fq_X8_74_143 : Fpf RX8 74 143 19 (3, 93, 0) := ⟨fl_X8_74_143, 9, 20, fs_143, RX8, TX8, (.array (.int)), rfl, rfl, rfl, rfl, by decide +kernel, fun E S x h => reffit (fun _ => rfl) ⟨rfl, fun _ => rfl⟩ (by decide) x⟩
theorem fl_X11_9_142 : Fl RX11 9 142 4 (1, (-9223372036854775808), 9223372036854775807) := ⟨11, 20, fs_142, RX11, TX11, rfl, rfl, by decide, rfl, by decide, rfl, cf_X11, (tbg sg2 152 rfl rfl)⟩
theorem fp_X11_9_142 : Fp RX11 9 142 4 (1, (-9223372036854775808), 9223372036854775807) := ⟨fl_X11_9_142, 11, 20, fs_142, RX11, TX11, .long, rfl, rfl, rfl, by decide +kernel, fun E S x h => ⟨rfl, rfl⟩⟩
theorem nw_X11_13_143 : Nw RX11 13 143 20 := ⟨9, fs_143, RX8, TX8, tyX8, rfl, rfl, by decide, rfl, tbs [339, 341, 343, 345, 347, 349, 351, 353, 355, 357, 359, 361, 363, 365, 367, 369, 371, 373, 375, 377] (by decide +kernel), tyX8_ok, (tbg sg1 35 rfl rfl), (tbg sg1 36 rfl rfl), (tbg sg1 2 rfl rfl), by decide⟩
theorem co_X8_init : Co mX8_init 0 := ⟨(tbg sg1 39 rfl rfl), (tbg sg1 2 rfl rfl), by decide, by decide, by decide +kernel, by decide⟩
theorem ci_X11_15 : Ci RX11 15 mX8_init 0 := ⟨co_X8_init, (tbg sg1 37 rfl rfl), rfl, (tbg sg1 38 rfl rfl), rfl⟩
theorem nf_143 : norf 143 = true := by decide +kernel
theorem fl_X11_16_142 : Fl RX11 16 142 17 (3, 129, 0) := ⟨11, 20, fs_142, RX11, TX11, rfl, rfl, by decide, rfl, by decide, rfl, cf_X11, (tbg sg2 165 rfl rfl)⟩
theorem fq_X11_16_142 : Fpf RX11 16 142 17 (3, 129, 0) := ⟨fl_X11_16_142, 11, 20, fs_142, RX11, TX11, (.object "ShareLife$Run"), rfl, rfl, rfl, rfl, by decide +kernel, fun E S x h => reffit (fun _ => rfl) ⟨rfl, fun _ => rfl⟩ (by decide) x⟩
theorem fl_X11_20_129 : Fl RX11 20 129 9 (2, 130, 0) := ⟨9, 20, fs_129, RX8, TX8, rfl, rfl, by decide, rfl, by decide, rfl, cf_X8, (tbg sg1 171 rfl rfl)⟩
theorem fl_X11_24_142 : Fl RX11 24 142 5 (3, 130, 0) := ⟨11, 20, fs_142, RX11, TX11, rfl, rfl, by decide, rfl, by decide, rfl, cf_X11, (tbg sg2 153 rfl rfl)⟩
theorem fq_X11_24_142 : Fpf RX11 24 142 5 (3, 130, 0) := ⟨fl_X11_24_142, 11, 20, fs_142, RX11, TX11, (.object "ShareLife$Accounts"), rfl, rfl, rfl, rfl, by decide +kernel, fun E S x h => reffit (fun _ => rfl) ⟨rfl, fun _ => rfl⟩ (by decide) x⟩
theorem fl_X11_25_129 : Fl RX11 25 129 10 (2, 154, 0) := ⟨9, 20, fs_129, RX8, TX8, rfl, rfl, by decide, rfl, by decide, rfl, cf_X8, (tbg sg1 173 rfl rfl)⟩
theorem fl_X11_29_142 : Fl RX11 29 142 6 (3, 154, 0) := ⟨11, 20, fs_142, RX11, TX11, rfl, rfl, by decide, rfl, by decide, rfl, cf_X11, (tbg sg2 154 rfl rfl)⟩
theorem fq_X11_29_142 : Fpf RX11 29 142 6 (3, 154, 0) := ⟨fl_X11_29_142, 11, 20, fs_142, RX11, TX11, (.object "java/util/ArrayList"), rfl, rfl, rfl, rfl, by decide +kernel, fun E S x h => reffit (fun _ => rfl) ⟨rfl, fun _ => rfl⟩ (by decide) x⟩
theorem fl_X11_30_129 : Fl RX11 30 129 11 (2, 155, 0) := ⟨9, 20, fs_129, RX8, TX8, rfl, rfl, by decide, rfl, by decide, rfl, cf_X8, (tbg sg1 176 rfl rfl)⟩
theorem fl_X11_33_142 : Fl RX11 33 142 7 (3, 155, 0) := ⟨11, 20, fs_142, RX11, TX11, rfl, rfl, by decide, rfl, by decide, rfl, cf_X11, (tbg sg2 155 rfl rfl)⟩
theorem fq_X11_33_142 : Fpf RX11 33 142 7 (3, 155, 0) := ⟨fl_X11_33_142, 11, 20, fs_142, RX11, TX11, (.object "java/util/ArrayList"), rfl, rfl, rfl, rfl, by decide +kernel, fun E S x h => reffit (fun _ => rfl) ⟨rfl, fun _ => rfl⟩ (by decide) x⟩
theorem fl_X11_34_129 : Fl RX11 34 129 12 (2, 156, 0) := ⟨9, 20, fs_129, RX8, TX8, rfl, rfl, by decide, rfl, by decide, rfl, cf_X8, (tbg sg1 179 rfl rfl)⟩
theorem fl_X11_37_142 : Fl RX11 37 142 8 (3, 156, 0) := ⟨11, 20, fs_142, RX11, TX11, rfl, rfl, by decide, rfl, by decide, rfl, cf_X11, (tbg sg2 156 rfl rfl)⟩
theorem fq_X11_37_142 : Fpf RX11 37 142 8 (3, 156, 0) := ⟨fl_X11_37_142, 11, 20, fs_142, RX11, TX11, (.object "java/util/ArrayList"), rfl, rfl, rfl, rfl, by decide +kernel, fun E S x h => reffit (fun _ => rfl) ⟨rfl, fun _ => rfl⟩ (by decide) x⟩
theorem fl_X11_38_129 : Fl RX11 38 129 13 (2, 157, 0) := ⟨9, 20, fs_129, RX8, TX8, rfl, rfl, by decide, rfl, by decide, rfl, cf_X8, (tbg sg1 182 rfl rfl)⟩
theorem fl_X11_41_142 : Fl RX11 41 142 9 (3, 157, 0) := ⟨11, 20, fs_142, RX11, TX11, rfl, rfl, by decide, rfl, by decide, rfl, cf_X11, (tbg sg2 157 rfl rfl)⟩
theorem fq_X11_41_142 : Fpf RX11 41 142 9 (3, 157, 0) := ⟨fl_X11_41_142, 11, 20, fs_142, RX11, TX11, (.object "java/util/ArrayList"), rfl, rfl, rfl, rfl, by decide +kernel, fun E S x h => reffit (fun _ => rfl) ⟨rfl, fun _ => rfl⟩ (by decide) x⟩
theorem nw_X11_42_153 : Nw RX11 42 153 3 := ⟨0, fs_153, RJx4a65c, TJx4a65c, tyJx4a65c, rfl, rfl, by decide, rfl, tbs [294, 290, 292] (by decide +kernel), tyJx4a65c_ok, (tbg sg1 234 rfl rfl), (tbg sg1 126 rfl rfl), (tbg sg1 6 rfl rfl), by decide⟩
theorem ci_X11_44 : Ci RX11 44 mJx4a65c_init_da8c8 0 := ⟨co_Jx4a65c_init_da8c8, (tbg sg1 235 rfl rfl), rfl, (tbg sg1 128 rfl rfl), rfl⟩
theorem fl_X11_45_142 : Fl RX11 45 142 10 (3, 158, 0) := ⟨11, 20, fs_142, RX11, TX11, rfl, rfl, by decide, rfl, by decide, rfl, cf_X11, (tbg sg2 158 rfl rfl)⟩
theorem fq_X11_45_142 : Fpf RX11 45 142 10 (3, 158, 0) := ⟨fl_X11_45_142, 11, 20, fs_142, RX11, TX11, (.object "java/util/ArrayList"), rfl, rfl, rfl, rfl, by decide +kernel, fun E S x h => reffit (fun _ => rfl) ⟨rfl, fun _ => rfl⟩ (by decide) x⟩
theorem fl_X11_48_142 : Fl RX11 48 142 11 (3, 159, 0) := ⟨11, 20, fs_142, RX11, TX11, rfl, rfl, by decide, rfl, by decide, rfl, cf_X11, (tbg sg2 159 rfl rfl)⟩
theorem fq_X11_48_142 : Fpf RX11 48 142 11 (3, 159, 0) := ⟨fl_X11_48_142, 11, 20, fs_142, RX11, TX11, (.object "java/util/ArrayList"), rfl, rfl, rfl, rfl, by decide +kernel, fun E S x h => reffit (fun _ => rfl) ⟨rfl, fun _ => rfl⟩ (by decide) x⟩
theorem fl_X11_51_142 : Fl RX11 51 142 12 (3, 94, 0) := ⟨11, 20, fs_142, RX11, TX11, rfl, rfl, by decide, rfl, by decide, rfl, cf_X11, (tbg sg2 160 rfl rfl)⟩
theorem fq_X11_51_142 : Fpf RX11 51 142 12 (3, 94, 0) := ⟨fl_X11_51_142, 11, 20, fs_142, RX11, TX11, (.array (.int)), rfl, rfl, rfl, rfl, by decide +kernel, fun E S x h => reffit (fun _ => rfl) ⟨rfl, fun _ => rfl⟩ (by decide) x⟩
theorem nw_X11_55_148 : Nw RX11 55 148 6 := ⟨5, fs_148, RX4, TX4, tyX4, rfl, rfl, by decide, rfl, tbs [397, 399, 401, 403, 405, 407] (by decide +kernel), tyX4_ok, (tbg sg1 236 rfl rfl), (tbg sg1 237 rfl rfl), (tbg sg1 7 rfl rfl), by decide⟩
theorem co_X4_init : Co mX4_init 0 := ⟨(tbg sg2 0 rfl rfl), (tbg sg1 7 rfl rfl), by decide, by decide, by decide +kernel, by decide⟩
theorem ci_X11_57 : Ci RX11 57 mX4_init 0 := ⟨co_X4_init, (tbg sg1 238 rfl rfl), rfl, (tbg sg1 239 rfl rfl), rfl⟩
theorem nf_148 : norf 148 = true := by decide +kernel
theorem fl_X11_58_142 : Fl RX11 58 142 13 (3, 134, 0) := ⟨11, 20, fs_142, RX11, TX11, rfl, rfl, by decide, rfl, by decide, rfl, cf_X11, (tbg sg2 161 rfl rfl)⟩
theorem fq_X11_58_142 : Fpf RX11 58 142 13 (3, 134, 0) := ⟨fl_X11_58_142, 11, 20, fs_142, RX11, TX11, (.object "ShareLife$Fraction"), rfl, rfl, rfl, rfl, by decide +kernel, fun E S x h => reffit (fun _ => rfl) ⟨rfl, fun _ => rfl⟩ (by decide) x⟩
theorem fl_X11_62_142 : Fl RX11 62 142 14 (3, 134, 0) := ⟨11, 20, fs_142, RX11, TX11, rfl, rfl, by decide, rfl, by decide, rfl, cf_X11, (tbg sg2 162 rfl rfl)⟩
theorem fq_X11_62_142 : Fpf RX11 62 142 14 (3, 134, 0) := ⟨fl_X11_62_142, 11, 20, fs_142, RX11, TX11, (.object "ShareLife$Fraction"), rfl, rfl, rfl, rfl, by decide +kernel, fun E S x h => reffit (fun _ => rfl) ⟨rfl, fun _ => rfl⟩ (by decide) x⟩
theorem fl_X11_65_142 : Fl RX11 65 142 15 (3, 134, 0) := ⟨11, 20, fs_142, RX11, TX11, rfl, rfl, by decide, rfl, by decide, rfl, cf_X11, (tbg sg2 163 rfl rfl)⟩
theorem fq_X11_65_142 : Fpf RX11 65 142 15 (3, 134, 0) := ⟨fl_X11_65_142, 11, 20, fs_142, RX11, TX11, (.object "ShareLife$Fraction"), rfl, rfl, rfl, rfl, by decide +kernel, fun E S x h => reffit (fun _ => rfl) ⟨rfl, fun _ => rfl⟩ (by decide) x⟩
theorem nw_X11_68_145 : Nw RX11 68 145 17 := ⟨7, fs_145, RX6, TX6, tyX6, rfl, rfl, by decide, rfl, tbs [436, 438, 440, 442, 444, 446, 448, 450, 452, 454, 456, 458, 460, 462, 464, 466, 468] (by decide +kernel), tyX6_ok, (tbg sg2 24 rfl rfl), (tbg sg2 25 rfl rfl), (tbg sg1 8 rfl rfl), by decide⟩
theorem co_X6_init : Co mX6_init 0 := ⟨(tbg sg2 28 rfl rfl), (tbg sg1 8 rfl rfl), by decide, by decide, by decide +kernel, by decide⟩
theorem ci_X11_70 : Ci RX11 70 mX6_init 0 := ⟨co_X6_init, (tbg sg2 26 rfl rfl), rfl, (tbg sg2 27 rfl rfl), rfl⟩
theorem nf_145 : norf 145 = true := by decide +kernel
theorem fl_X11_71_142 : Fl RX11 71 142 16 (3, 131, 0) := ⟨11, 20, fs_142, RX11, TX11, rfl, rfl, by decide, rfl, by decide, rfl, cf_X11, (tbg sg2 164 rfl rfl)⟩
theorem fq_X11_71_142 : Fpf RX11 71 142 16 (3, 131, 0) := ⟨fl_X11_71_142, 11, 20, fs_142, RX11, TX11, (.object "ShareLife$Reader"), rfl, rfl, rfl, rfl, by decide +kernel, fun E S x h => reffit (fun _ => rfl) ⟨rfl, fun _ => rfl⟩ (by decide) x⟩
theorem nw_X11_75_146 : Nw RX11 75 146 17 := ⟨8, fs_146, RX7, TX7, tyX7, rfl, rfl, by decide, rfl, tbs [498, 500, 502, 504, 506, 508, 510, 512, 514, 516, 518, 520, 522, 524, 526, 528, 530] (by decide +kernel), tyX7_ok, (tbg sg2 85 rfl rfl), (tbg sg2 86 rfl rfl), (tbg sg1 9 rfl rfl), by decide⟩
theorem co_X7_init : Co mX7_init 0 := ⟨(tbg sg2 89 rfl rfl), (tbg sg1 9 rfl rfl), by decide, by decide, by decide +kernel, by decide⟩
theorem ci_X11_77 : Ci RX11 77 mX7_init 0 := ⟨co_X7_init, (tbg sg2 87 rfl rfl), rfl, (tbg sg2 88 rfl rfl), rfl⟩
theorem nf_146 : norf 146 = true := by decide +kernel
theorem fl_X11_78_142 : Fl RX11 78 142 18 (3, 132, 0) := ⟨11, 20, fs_142, RX11, TX11, rfl, rfl, by decide, rfl, by decide, rfl, cf_X11, (tbg sg2 166 rfl rfl)⟩
theorem fq_X11_78_142 : Fpf RX11 78 142 18 (3, 132, 0) := ⟨fl_X11_78_142, 11, 20, fs_142, RX11, TX11, (.object "ShareLife$Riddle"), rfl, rfl, rfl, rfl, by decide +kernel, fun E S x h => reffit (fun _ => rfl) ⟨rfl, fun _ => rfl⟩ (by decide) x⟩
set_option maxRecDepth 100000 in
set_option maxHeartbeats 4000000 in
theorem c_X8_init (E : En) (S : Sg) (G : Gh) (this : Int) (hS : S this = 143) (uno : No [130, 154, 155, 156, 157] S) : Calls E mX8_init [(2, this)] S G 6 96 2554 (fun r S' G' => Gr [93, 94, 95, 96, 97, 98, 114, 115, 116, 117, 118, 130, 144, 153, 154, 155, 156, 157] [(143, 0), (143, 1), (143, 3), (143, 4), (143, 5), (143, 6), (143, 7), (143, 8), (143, 9), (143, 10), (143, 11), (143, 12), (143, 13), (143, 14), (143, 17), (143, 18), (143, 19), (144, 1), (144, 2), (144, 3), (144, 4), (144, 5), (144, 6), (144, 7), (144, 8), (144, 9), (144, 10), (144, 11), (144, 12), (144, 13), (144, 14), (144, 15), (144, 16), (144, 17), (153, 0), (153, 1)] S G S' G' ∧ r = none ∧ UqL [157, 156, 155, 154, 130] S' ∧ EmL E [157, 156, 155, 154] S' G' ∧ Fnl E fs_129 143 S' G' this) := by
  refine calls_by [(0, (2, this))] rfl rfl (Nat.le_of_ble_eq_true rfl) (fun X hX => ?_)
  have hP := hPX8_init
  refine r_ex hX hP 1 (pc' := 1) (st' := [(2, this)]) (lo' := [(0, (2, this))]) rfl ?_
  refine r_nn hX hS (by decide) (fun p1 => ?_)
  refine r_objI hX hP rfl (tbg sg1 40 rfl rfl) (tbg sg1 33 rfl rfl) (tbg sg1 34 rfl rfl) p1 (by omega) (Nat.le_of_ble_eq_true rfl) ?_
  refine r_ex hX hP 1 (pc' := 5) (st' := [(2, this)]) (lo' := [(0, (2, this))]) rfl ?_
  refine r_ldc hX hP rfl (v := 40000) (tbg sg1 41 rfl rfl) ?_
  refine r_putIK hX hP rfl fp_X8_10_143 hS (by omega) (by omega) (fun h2 => ?_)
  refine r_ex hX hP 2 (pc' := 12) (st' := [(0, 1), (2, this)]) (lo' := [(0, (2, this))]) rfl ?_
  refine r_putIK hX hP rfl fp_X8_16_143 hS (by omega) (by omega) (fun h3 => ?_)
  refine r_ex hX hP 3 (pc' := 20) (st' := [(0, 20), (0, 20), (2, this)]) (lo' := [(0, (2, this))]) rfl ?_
  have u4 : EmL E [] S (up (up G 143 this 0 40000) 143 this 1 1) := (em_up (em_up (em_nil E S G) rfl) rfl)
  have g5 : Gr [93, 94, 95, 96, 97, 98, 114, 115, 116, 117, 118, 130, 144, 153, 154, 155, 156, 157] [(143, 0), (143, 1), (143, 3), (143, 4), (143, 5), (143, 6), (143, 7), (143, 8), (143, 9), (143, 10), (143, 11), (143, 12), (143, 13), (143, 14), (143, 17), (143, 18), (143, 19), (144, 1), (144, 2), (144, 3), (144, 4), (144, 5), (144, 6), (144, 7), (144, 8), (144, 9), (144, 10), (144, 11), (144, 12), (144, 13), (144, 14), (144, 15), (144, 16), (144, 17), (153, 0), (153, 1)] S G S (up (up G 143 this 0 40000) 143 this 1 1) := (gr_up (gr_up (gr_refl [93, 94, 95, 96, 97, 98, 114, 115, 116, 117, 118, 130, 144, 153, 154, 155, 156, 157] [(143, 0), (143, 1), (143, 3), (143, 4), (143, 5), (143, 6), (143, 7), (143, 8), (143, 9), (143, 10), (143, 11), (143, 12), (143, 13), (143, 14), (143, 17), (143, 18), (143, 19), (144, 1), (144, 2), (144, 3), (144, 4), (144, 5), (144, 6), (144, 7), (144, 8), (144, 9), (144, 10), (144, 11), (144, 12), (144, 13), (144, 14), (144, 15), (144, 16), (144, 17), (153, 0), (153, 1)] S G) rfl) rfl)
  refine r_multiA hX hP rfl (L := 114) (L2 := 95) (n := 20) (k := 20) al_114 al_95 (by decide) (by decide) (by decide) (tbg sg1 42 rfl rfl) (tbg sg1 123 rfl rfl) (by decide) (by decide) (by omega) (by omega) (fun n6 S7 G8 n6z n6n n6l g9 => ?_)
  have z10 : S n6 = 0 := gr_zero g5 n6z
  have s11 : S7 this = 143 := gr_lab g9 hS (by decide)
  have e12 : 40000 = G8 143 this 0 := gr_val g9 h2 hS (by decide) rfl
  have e13 : 1 = G8 143 this 1 := gr_val g9 h3 hS (by decide) rfl
  have g14 : Gr [93, 94, 95, 96, 97, 98, 114, 115, 116, 117, 118, 130, 144, 153, 154, 155, 156, 157] [(143, 0), (143, 1), (143, 3), (143, 4), (143, 5), (143, 6), (143, 7), (143, 8), (143, 9), (143, 10), (143, 11), (143, 12), (143, 13), (143, 14), (143, 17), (143, 18), (143, 19), (144, 1), (144, 2), (144, 3), (144, 4), (144, 5), (144, 6), (144, 7), (144, 8), (144, 9), (144, 10), (144, 11), (144, 12), (144, 13), (144, 14), (144, 15), (144, 16), (144, 17), (153, 0), (153, 1)] S G S7 G8 := gr_call g5 g9 rfl rfl
  have u15 : UqL [] S7 := uq_gr (uq_nil S) g9 rfl
  have u16 : No [130, 154, 155, 156, 157] S7 := no_gr (no_sub uno rfl) g9 rfl
  have u17 : EmL E [] S7 G8 := em_gr u4 g9 rfl
  refine r_putFN hX hP rfl rfl fq_X8_22_143 s11 (by decide) (Or.inr n6l) (fun h18 => ?_)
  refine r_ex hX hP 3 (pc' := 32) (st' := [(0, 20), (0, 20), (2, this)]) (lo' := [(0, (2, this))]) rfl ?_
  have u19 : EmL E [] S7 (up G8 143 this 3 n6) := (em_up u17 rfl)
  have g20 : Gr [93, 94, 95, 96, 97, 98, 114, 115, 116, 117, 118, 130, 144, 153, 154, 155, 156, 157] [(143, 0), (143, 1), (143, 3), (143, 4), (143, 5), (143, 6), (143, 7), (143, 8), (143, 9), (143, 10), (143, 11), (143, 12), (143, 13), (143, 14), (143, 17), (143, 18), (143, 19), (144, 1), (144, 2), (144, 3), (144, 4), (144, 5), (144, 6), (144, 7), (144, 8), (144, 9), (144, 10), (144, 11), (144, 12), (144, 13), (144, 14), (144, 15), (144, 16), (144, 17), (153, 0), (153, 1)] S G S7 (up G8 143 this 3 n6) := (gr_up g14 rfl)
  refine r_multiA hX hP rfl (L := 114) (L2 := 95) (n := 20) (k := 20) al_114 al_95 (by decide) (by decide) (by decide) (tbg sg1 42 rfl rfl) (tbg sg1 123 rfl rfl) (by decide) (by decide) (by omega) (by omega) (fun n21 S22 G23 n21z n21n n21l g24 => ?_)
  have z25 : S n21 = 0 := gr_zero g20 n21z
  have s26 : S22 this = 143 := gr_lab g24 s11 (by decide)
  have s27 : S22 n6 = 114 := gr_lab g24 n6l (by decide)
  have e28 : 40000 = G23 143 this 0 := gr_val g24 e12 s11 (by decide) rfl
  have e29 : 1 = G23 143 this 1 := gr_val g24 e13 s11 (by decide) rfl
  have e30 : n6 = G23 143 this 3 := gr_val g24 h18 s11 (by decide) rfl
  have g31 : Gr [93, 94, 95, 96, 97, 98, 114, 115, 116, 117, 118, 130, 144, 153, 154, 155, 156, 157] [(143, 0), (143, 1), (143, 3), (143, 4), (143, 5), (143, 6), (143, 7), (143, 8), (143, 9), (143, 10), (143, 11), (143, 12), (143, 13), (143, 14), (143, 17), (143, 18), (143, 19), (144, 1), (144, 2), (144, 3), (144, 4), (144, 5), (144, 6), (144, 7), (144, 8), (144, 9), (144, 10), (144, 11), (144, 12), (144, 13), (144, 14), (144, 15), (144, 16), (144, 17), (153, 0), (153, 1)] S G S22 G23 := gr_call g20 g24 rfl rfl
  have u32 : UqL [] S22 := uq_gr u15 g24 rfl
  have u33 : No [130, 154, 155, 156, 157] S22 := no_gr (no_sub u16 rfl) g24 rfl
  have u34 : EmL E [] S22 G23 := em_gr u19 g24 rfl
  refine r_putFN hX hP rfl rfl fq_X8_25_143 s26 (by decide) (Or.inr n21l) (fun h35 => ?_)
  refine r_ex hX hP 2 (pc' := 42) (st' := [(0, 20), (2, this)]) (lo' := [(0, (2, this))]) rfl ?_
  have u36 : EmL E [] S22 (up G23 143 this 4 n21) := (em_up u34 rfl)
  have g37 : Gr [93, 94, 95, 96, 97, 98, 114, 115, 116, 117, 118, 130, 144, 153, 154, 155, 156, 157] [(143, 0), (143, 1), (143, 3), (143, 4), (143, 5), (143, 6), (143, 7), (143, 8), (143, 9), (143, 10), (143, 11), (143, 12), (143, 13), (143, 14), (143, 17), (143, 18), (143, 19), (144, 1), (144, 2), (144, 3), (144, 4), (144, 5), (144, 6), (144, 7), (144, 8), (144, 9), (144, 10), (144, 11), (144, 12), (144, 13), (144, 14), (144, 15), (144, 16), (144, 17), (153, 0), (153, 1)] S G S22 (up G23 143 this 4 n21) := (gr_up g31 rfl)
  refine r_newarrA hX hP rfl (L := 95) (n := 20) al_95 (by decide) rfl rfl rfl (tbg sg1 123 rfl rfl) (by decide) (by omega) (by omega) (fun n38 S39 G40 n38z n38n n38l g41 n38v => ?_)
  have z42 : S n38 = 0 := gr_zero g37 n38z
  have s43 : S39 this = 143 := gr_lab g41 s26 (by decide)
  have s44 : S39 n6 = 114 := gr_lab g41 s27 (by decide)
  have s45 : S39 n21 = 114 := gr_lab g41 n21l (by decide)
  have e46 : 40000 = G40 143 this 0 := gr_val g41 e28 s26 (by decide) rfl
  have e47 : 1 = G40 143 this 1 := gr_val g41 e29 s26 (by decide) rfl
  have e48 : n6 = G40 143 this 3 := gr_val g41 e30 s26 (by decide) rfl
  have e49 : n21 = G40 143 this 4 := gr_val g41 h35 s26 (by decide) rfl
  have g50 : Gr [93, 94, 95, 96, 97, 98, 114, 115, 116, 117, 118, 130, 144, 153, 154, 155, 156, 157] [(143, 0), (143, 1), (143, 3), (143, 4), (143, 5), (143, 6), (143, 7), (143, 8), (143, 9), (143, 10), (143, 11), (143, 12), (143, 13), (143, 14), (143, 17), (143, 18), (143, 19), (144, 1), (144, 2), (144, 3), (144, 4), (144, 5), (144, 6), (144, 7), (144, 8), (144, 9), (144, 10), (144, 11), (144, 12), (144, 13), (144, 14), (144, 15), (144, 16), (144, 17), (153, 0), (153, 1)] S G S39 G40 := gr_call g37 g41 rfl rfl
  have u51 : UqL [] S39 := uq_gr u32 g41 rfl
  have u52 : No [130, 154, 155, 156, 157] S39 := no_gr (no_sub u33 rfl) g41 rfl
  have u53 : EmL E [] S39 G40 := em_gr u36 g41 rfl
  refine r_putFN hX hP rfl rfl fq_X8_28_143 s43 (by decide) (Or.inr n38l) (fun h54 => ?_)
  refine r_ex hX hP 2 (pc' := 50) (st' := [(0, 20), (2, this)]) (lo' := [(0, (2, this))]) rfl ?_
  have u55 : EmL E [] S39 (up G40 143 this 5 n38) := (em_up u53 rfl)
  have g56 : Gr [93, 94, 95, 96, 97, 98, 114, 115, 116, 117, 118, 130, 144, 153, 154, 155, 156, 157] [(143, 0), (143, 1), (143, 3), (143, 4), (143, 5), (143, 6), (143, 7), (143, 8), (143, 9), (143, 10), (143, 11), (143, 12), (143, 13), (143, 14), (143, 17), (143, 18), (143, 19), (144, 1), (144, 2), (144, 3), (144, 4), (144, 5), (144, 6), (144, 7), (144, 8), (144, 9), (144, 10), (144, 11), (144, 12), (144, 13), (144, 14), (144, 15), (144, 16), (144, 17), (153, 0), (153, 1)] S G S39 (up G40 143 this 5 n38) := (gr_up g50 rfl)
  refine r_newarrA hX hP rfl (L := 95) (n := 20) al_95 (by decide) rfl rfl rfl (tbg sg1 123 rfl rfl) (by decide) (by omega) (by omega) (fun n57 S58 G59 n57z n57n n57l g60 n57v => ?_)
  have z61 : S n57 = 0 := gr_zero g56 n57z
  have s62 : S58 this = 143 := gr_lab g60 s43 (by decide)
  have s63 : S58 n6 = 114 := gr_lab g60 s44 (by decide)
  have s64 : S58 n21 = 114 := gr_lab g60 s45 (by decide)
  have s65 : S58 n38 = 95 := gr_lab g60 n38l (by decide)
  have e66 : 40000 = G59 143 this 0 := gr_val g60 e46 s43 (by decide) rfl
  have e67 : 1 = G59 143 this 1 := gr_val g60 e47 s43 (by decide) rfl
  have e68 : n6 = G59 143 this 3 := gr_val g60 e48 s43 (by decide) rfl
  have e69 : n21 = G59 143 this 4 := gr_val g60 e49 s43 (by decide) rfl
  have e70 : n38 = G59 143 this 5 := gr_val g60 h54 s43 (by decide) rfl
  have g71 : Gr [93, 94, 95, 96, 97, 98, 114, 115, 116, 117, 118, 130, 144, 153, 154, 155, 156, 157] [(143, 0), (143, 1), (143, 3), (143, 4), (143, 5), (143, 6), (143, 7), (143, 8), (143, 9), (143, 10), (143, 11), (143, 12), (143, 13), (143, 14), (143, 17), (143, 18), (143, 19), (144, 1), (144, 2), (144, 3), (144, 4), (144, 5), (144, 6), (144, 7), (144, 8), (144, 9), (144, 10), (144, 11), (144, 12), (144, 13), (144, 14), (144, 15), (144, 16), (144, 17), (153, 0), (153, 1)] S G S58 G59 := gr_call g56 g60 rfl rfl
  have u72 : UqL [] S58 := uq_gr u51 g60 rfl
  have u73 : No [130, 154, 155, 156, 157] S58 := no_gr (no_sub u52 rfl) g60 rfl
  have u74 : EmL E [] S58 G59 := em_gr u55 g60 rfl
  refine r_putFN hX hP rfl rfl fq_X8_32_143 s62 (by decide) (Or.inr n57l) (fun h75 => ?_)
  refine r_ex hX hP 2 (pc' := 58) (st' := [(0, 40), (2, this)]) (lo' := [(0, (2, this))]) rfl ?_
  have u76 : EmL E [] S58 (up G59 143 this 6 n57) := (em_up u74 rfl)
  have g77 : Gr [93, 94, 95, 96, 97, 98, 114, 115, 116, 117, 118, 130, 144, 153, 154, 155, 156, 157] [(143, 0), (143, 1), (143, 3), (143, 4), (143, 5), (143, 6), (143, 7), (143, 8), (143, 9), (143, 10), (143, 11), (143, 12), (143, 13), (143, 14), (143, 17), (143, 18), (143, 19), (144, 1), (144, 2), (144, 3), (144, 4), (144, 5), (144, 6), (144, 7), (144, 8), (144, 9), (144, 10), (144, 11), (144, 12), (144, 13), (144, 14), (144, 15), (144, 16), (144, 17), (153, 0), (153, 1)] S G S58 (up G59 143 this 6 n57) := (gr_up g71 rfl)
  refine r_newarrA hX hP rfl (L := 115) (n := 40) al_115 (by decide) rfl rfl rfl (tbg sg1 124 rfl rfl) (by decide) (by omega) (by omega) (fun n78 S79 G80 n78z n78n n78l g81 n78v => ?_)
  have z82 : S n78 = 0 := gr_zero g77 n78z
  have s83 : S79 this = 143 := gr_lab g81 s62 (by decide)
  have s84 : S79 n6 = 114 := gr_lab g81 s63 (by decide)
  have s85 : S79 n21 = 114 := gr_lab g81 s64 (by decide)
  have s86 : S79 n38 = 95 := gr_lab g81 s65 (by decide)
  have s87 : S79 n57 = 95 := gr_lab g81 n57l (by decide)
  have e88 : 40000 = G80 143 this 0 := gr_val g81 e66 s62 (by decide) rfl
  have e89 : 1 = G80 143 this 1 := gr_val g81 e67 s62 (by decide) rfl
  have e90 : n6 = G80 143 this 3 := gr_val g81 e68 s62 (by decide) rfl
  have e91 : n21 = G80 143 this 4 := gr_val g81 e69 s62 (by decide) rfl
  have e92 : n38 = G80 143 this 5 := gr_val g81 e70 s62 (by decide) rfl
  have e93 : n57 = G80 143 this 6 := gr_val g81 h75 s62 (by decide) rfl
  have g94 : Gr [93, 94, 95, 96, 97, 98, 114, 115, 116, 117, 118, 130, 144, 153, 154, 155, 156, 157] [(143, 0), (143, 1), (143, 3), (143, 4), (143, 5), (143, 6), (143, 7), (143, 8), (143, 9), (143, 10), (143, 11), (143, 12), (143, 13), (143, 14), (143, 17), (143, 18), (143, 19), (144, 1), (144, 2), (144, 3), (144, 4), (144, 5), (144, 6), (144, 7), (144, 8), (144, 9), (144, 10), (144, 11), (144, 12), (144, 13), (144, 14), (144, 15), (144, 16), (144, 17), (153, 0), (153, 1)] S G S79 G80 := gr_call g77 g81 rfl rfl
  have u95 : UqL [] S79 := uq_gr u72 g81 rfl
  have u96 : No [130, 154, 155, 156, 157] S79 := no_gr (no_sub u73 rfl) g81 rfl
  have u97 : EmL E [] S79 G80 := em_gr u76 g81 rfl
  refine r_putFN hX hP rfl rfl fq_X8_35_143 s83 (by decide) (Or.inr n78l) (fun h98 => ?_)
  refine r_ex hX hP 3 (pc' := 68) (st' := [(0, 60), (0, 16), (2, this)]) (lo' := [(0, (2, this))]) rfl ?_
  have u99 : EmL E [] S79 (up G80 143 this 7 n78) := (em_up u97 rfl)
  have g100 : Gr [93, 94, 95, 96, 97, 98, 114, 115, 116, 117, 118, 130, 144, 153, 154, 155, 156, 157] [(143, 0), (143, 1), (143, 3), (143, 4), (143, 5), (143, 6), (143, 7), (143, 8), (143, 9), (143, 10), (143, 11), (143, 12), (143, 13), (143, 14), (143, 17), (143, 18), (143, 19), (144, 1), (144, 2), (144, 3), (144, 4), (144, 5), (144, 6), (144, 7), (144, 8), (144, 9), (144, 10), (144, 11), (144, 12), (144, 13), (144, 14), (144, 15), (144, 16), (144, 17), (153, 0), (153, 1)] S G S79 (up G80 143 this 7 n78) := (gr_up g94 rfl)
  refine r_multiA hX hP rfl (L := 117) (L2 := 116) (n := 16) (k := 60) al_117 al_116 (by decide) (by decide) (by decide) (tbg sg1 42 rfl rfl) (tbg sg1 123 rfl rfl) (by decide) (by decide) (by omega) (by omega) (fun n101 S102 G103 n101z n101n n101l g104 => ?_)
  have z105 : S n101 = 0 := gr_zero g100 n101z
  have s106 : S102 this = 143 := gr_lab g104 s83 (by decide)
  have s107 : S102 n6 = 114 := gr_lab g104 s84 (by decide)
  have s108 : S102 n21 = 114 := gr_lab g104 s85 (by decide)
  have s109 : S102 n38 = 95 := gr_lab g104 s86 (by decide)
  have s110 : S102 n57 = 95 := gr_lab g104 s87 (by decide)
  have s111 : S102 n78 = 115 := gr_lab g104 n78l (by decide)
  have e112 : 40000 = G103 143 this 0 := gr_val g104 e88 s83 (by decide) rfl
  have e113 : 1 = G103 143 this 1 := gr_val g104 e89 s83 (by decide) rfl
  have e114 : n6 = G103 143 this 3 := gr_val g104 e90 s83 (by decide) rfl
  have e115 : n21 = G103 143 this 4 := gr_val g104 e91 s83 (by decide) rfl
  have e116 : n38 = G103 143 this 5 := gr_val g104 e92 s83 (by decide) rfl
  have e117 : n57 = G103 143 this 6 := gr_val g104 e93 s83 (by decide) rfl
  have e118 : n78 = G103 143 this 7 := gr_val g104 h98 s83 (by decide) rfl
  have g119 : Gr [93, 94, 95, 96, 97, 98, 114, 115, 116, 117, 118, 130, 144, 153, 154, 155, 156, 157] [(143, 0), (143, 1), (143, 3), (143, 4), (143, 5), (143, 6), (143, 7), (143, 8), (143, 9), (143, 10), (143, 11), (143, 12), (143, 13), (143, 14), (143, 17), (143, 18), (143, 19), (144, 1), (144, 2), (144, 3), (144, 4), (144, 5), (144, 6), (144, 7), (144, 8), (144, 9), (144, 10), (144, 11), (144, 12), (144, 13), (144, 14), (144, 15), (144, 16), (144, 17), (153, 0), (153, 1)] S G S102 G103 := gr_call g100 g104 rfl rfl
  have u120 : UqL [] S102 := uq_gr u95 g104 rfl
  have u121 : No [130, 154, 155, 156, 157] S102 := no_gr (no_sub u96 rfl) g104 rfl
  have u122 : EmL E [] S102 G103 := em_gr u99 g104 rfl
  refine r_putFN hX hP rfl rfl fq_X8_39_143 s106 (by decide) (Or.inr n101l) (fun h123 => ?_)
  refine r_ex hX hP 1 (pc' := 76) (st' := [(2, this)]) (lo' := [(0, (2, this))]) rfl ?_
  have u124 : EmL E [] S102 (up G103 143 this 8 n101) := (em_up u122 rfl)
  have g125 : Gr [93, 94, 95, 96, 97, 98, 114, 115, 116, 117, 118, 130, 144, 153, 154, 155, 156, 157] [(143, 0), (143, 1), (143, 3), (143, 4), (143, 5), (143, 6), (143, 7), (143, 8), (143, 9), (143, 10), (143, 11), (143, 12), (143, 13), (143, 14), (143, 17), (143, 18), (143, 19), (144, 1), (144, 2), (144, 3), (144, 4), (144, 5), (144, 6), (144, 7), (144, 8), (144, 9), (144, 10), (144, 11), (144, 12), (144, 13), (144, 14), (144, 15), (144, 16), (144, 17), (153, 0), (153, 1)] S G S102 (up G103 143 this 8 n101) := (gr_up g119 rfl)
  refine r_newA hX hP rfl (L := 144) (N := 18) nw_X8_42_144 (by omega) (by omega) (fun n126 S127 G128 n126z n126n n126l g129 n126v => ?_)
  have z130 : S n126 = 0 := gr_zero g125 n126z
  have s131 : S127 this = 143 := gr_lab g129 s106 (by decide)
  have s132 : S127 n6 = 114 := gr_lab g129 s107 (by decide)
  have s133 : S127 n21 = 114 := gr_lab g129 s108 (by decide)
  have s134 : S127 n38 = 95 := gr_lab g129 s109 (by decide)
  have s135 : S127 n57 = 95 := gr_lab g129 s110 (by decide)
  have s136 : S127 n78 = 115 := gr_lab g129 s111 (by decide)
  have s137 : S127 n101 = 117 := gr_lab g129 n101l (by decide)
  have e138 : 40000 = G128 143 this 0 := gr_val g129 e112 s106 (by decide) rfl
  have e139 : 1 = G128 143 this 1 := gr_val g129 e113 s106 (by decide) rfl
  have e140 : n6 = G128 143 this 3 := gr_val g129 e114 s106 (by decide) rfl
  have e141 : n21 = G128 143 this 4 := gr_val g129 e115 s106 (by decide) rfl
  have e142 : n38 = G128 143 this 5 := gr_val g129 e116 s106 (by decide) rfl
  have e143 : n57 = G128 143 this 6 := gr_val g129 e117 s106 (by decide) rfl
  have e144 : n78 = G128 143 this 7 := gr_val g129 e118 s106 (by decide) rfl
  have e145 : n101 = G128 143 this 8 := gr_val g129 h123 s106 (by decide) rfl
  have g146 : Gr [93, 94, 95, 96, 97, 98, 114, 115, 116, 117, 118, 130, 144, 153, 154, 155, 156, 157] [(143, 0), (143, 1), (143, 3), (143, 4), (143, 5), (143, 6), (143, 7), (143, 8), (143, 9), (143, 10), (143, 11), (143, 12), (143, 13), (143, 14), (143, 17), (143, 18), (143, 19), (144, 1), (144, 2), (144, 3), (144, 4), (144, 5), (144, 6), (144, 7), (144, 8), (144, 9), (144, 10), (144, 11), (144, 12), (144, 13), (144, 14), (144, 15), (144, 16), (144, 17), (153, 0), (153, 1)] S G S127 G128 := gr_call g125 g129 rfl rfl
  have u147 : UqL [] S127 := uq_gr u120 g129 rfl
  have u148 : No [130, 154, 155, 156, 157] S127 := no_gr (no_sub u121 rfl) g129 rfl
  have u149 : EmL E [] S127 G128 := em_gr u124 g129 rfl
  refine r_ex hX hP 1 (pc' := 80) (st' := [(2, n126), (2, n126), (2, this)]) (lo' := [(0, (2, this))]) rfl ?_
  refine r_callI gd hX hP rfl ci_X8_44 n126n (d' := 3) (mc' := 25) (ms' := 472) (as' := []) (st := [(2, n126), (2, this)]) (by omega) (by omega) (by omega) rfl rfl (Nat.le_of_ble_eq_true rfl) (c_X0_init E S127 G128 n126  n126l) ?_
  rintro _ S150 G151 ⟨g152, rfl, hf153⟩
  have s154 : S150 this = 143 := gr_lab g152 s131 (by decide)
  have s155 : S150 n6 = 114 := gr_lab g152 s132 (by decide)
  have s156 : S150 n21 = 114 := gr_lab g152 s133 (by decide)
  have s157 : S150 n38 = 95 := gr_lab g152 s134 (by decide)
  have s158 : S150 n57 = 95 := gr_lab g152 s135 (by decide)
  have s159 : S150 n78 = 115 := gr_lab g152 s136 (by decide)
  have s160 : S150 n101 = 117 := gr_lab g152 s137 (by decide)
  have s161 : S150 n126 = 144 := gr_lab g152 n126l (by decide)
  have e162 : 40000 = G151 143 this 0 := gr_val g152 e138 s131 (by decide) rfl
  have e163 : 1 = G151 143 this 1 := gr_val g152 e139 s131 (by decide) rfl
  have e164 : n6 = G151 143 this 3 := gr_val g152 e140 s131 (by decide) rfl
  have e165 : n21 = G151 143 this 4 := gr_val g152 e141 s131 (by decide) rfl
  have e166 : n38 = G151 143 this 5 := gr_val g152 e142 s131 (by decide) rfl
  have e167 : n57 = G151 143 this 6 := gr_val g152 e143 s131 (by decide) rfl
  have e168 : n78 = G151 143 this 7 := gr_val g152 e144 s131 (by decide) rfl
  have e169 : n101 = G151 143 this 8 := gr_val g152 e145 s131 (by decide) rfl
  have g170 : Gr [93, 94, 95, 96, 97, 98, 114, 115, 116, 117, 118, 130, 144, 153, 154, 155, 156, 157] [(143, 0), (143, 1), (143, 3), (143, 4), (143, 5), (143, 6), (143, 7), (143, 8), (143, 9), (143, 10), (143, 11), (143, 12), (143, 13), (143, 14), (143, 17), (143, 18), (143, 19), (144, 1), (144, 2), (144, 3), (144, 4), (144, 5), (144, 6), (144, 7), (144, 8), (144, 9), (144, 10), (144, 11), (144, 12), (144, 13), (144, 14), (144, 15), (144, 16), (144, 17), (153, 0), (153, 1)] S G S150 G151 := gr_call g146 g152 rfl rfl
  have u171 : UqL [] S150 := uq_gr u147 g152 rfl
  have u172 : No [130, 154, 155, 156, 157] S150 := no_gr (no_sub u148 rfl) g152 rfl
  have u173 : EmL E [] S150 G151 := em_gr u149 g152 rfl
  refine r_finA hX (L := 144) (ci := 1) (fs := fs_144) rfl s161 (by decide) (fun hr174 => ?_)
  refine r_relabF hX (L := 144) (L' := 130) (ci := 1) (fs := fs_144) (fs' := fs_130) rfl rfl rfl (by decide) (by decide) nf_144 (by decide) s161 hf153 (fun S177 G178 r176 => ?_)
  have s180 : S177 this = 143 := r176.lab s161 s154 (by decide)
  have s181 : S177 n6 = 114 := r176.lab s161 s155 (by decide)
  have s182 : S177 n21 = 114 := r176.lab s161 s156 (by decide)
  have s183 : S177 n38 = 95 := r176.lab s161 s157 (by decide)
  have s184 : S177 n57 = 95 := r176.lab s161 s158 (by decide)
  have s185 : S177 n78 = 115 := r176.lab s161 s159 (by decide)
  have s186 : S177 n101 = 117 := r176.lab s161 s160 (by decide)
  have e187 : 40000 = G178 143 this 0 := rs_val r176 s161 e162 s154 (by decide)
  have e188 : 1 = G178 143 this 1 := rs_val r176 s161 e163 s154 (by decide)
  have e189 : n6 = G178 143 this 3 := rs_val r176 s161 e164 s154 (by decide)
  have e190 : n21 = G178 143 this 4 := rs_val r176 s161 e165 s154 (by decide)
  have e191 : n38 = G178 143 this 5 := rs_val r176 s161 e166 s154 (by decide)
  have e192 : n57 = G178 143 this 6 := rs_val r176 s161 e167 s154 (by decide)
  have e193 : n78 = G178 143 this 7 := rs_val r176 s161 e168 s154 (by decide)
  have e194 : n101 = G178 143 this 8 := rs_val r176 s161 e169 s154 (by decide)
  have g195 : Gr [93, 94, 95, 96, 97, 98, 114, 115, 116, 117, 118, 130, 144, 153, 154, 155, 156, 157] [(143, 0), (143, 1), (143, 3), (143, 4), (143, 5), (143, 6), (143, 7), (143, 8), (143, 9), (143, 10), (143, 11), (143, 12), (143, 13), (143, 14), (143, 17), (143, 18), (143, 19), (144, 1), (144, 2), (144, 3), (144, 4), (144, 5), (144, 6), (144, 7), (144, 8), (144, 9), (144, 10), (144, 11), (144, 12), (144, 13), (144, 14), (144, 15), (144, 16), (144, 17), (153, 0), (153, 1)] S G S177 G178 := gr_rs g170 r176 z130 rfl
  have u196 : UqL [130] S177 := uq_rs u171 (no_sub u172 rfl) r176 rfl
  have u197 : EmL E [] S177 G178 := em_rsN u173 r176 rfl
  have u198 : No [154, 155, 156, 157] S177 := no_rs u172 r176 rfl
  refine r_putFN hX hP rfl rfl fq_X8_45_143 s180 (by decide) (Or.inr r176.1) (fun h199 => ?_)
  refine r_ex hX hP 1 (pc' := 87) (st' := [(2, this)]) (lo' := [(0, (2, this))]) rfl ?_
  have u200 : EmL E [] S177 (up G178 143 this 9 n126) := (em_up u197 rfl)
  have g201 : Gr [93, 94, 95, 96, 97, 98, 114, 115, 116, 117, 118, 130, 144, 153, 154, 155, 156, 157] [(143, 0), (143, 1), (143, 3), (143, 4), (143, 5), (143, 6), (143, 7), (143, 8), (143, 9), (143, 10), (143, 11), (143, 12), (143, 13), (143, 14), (143, 17), (143, 18), (143, 19), (144, 1), (144, 2), (144, 3), (144, 4), (144, 5), (144, 6), (144, 7), (144, 8), (144, 9), (144, 10), (144, 11), (144, 12), (144, 13), (144, 14), (144, 15), (144, 16), (144, 17), (153, 0), (153, 1)] S G S177 (up G178 143 this 9 n126) := (gr_up g195 rfl)
  refine r_newA hX hP rfl (L := 153) (N := 3) nw_X8_49_153 (by omega) (by omega) (fun n202 S203 G204 n202z n202n n202l g205 n202v => ?_)
  have z206 : S n202 = 0 := gr_zero g201 n202z
  have s207 : S203 this = 143 := gr_lab g205 s180 (by decide)
  have s208 : S203 n6 = 114 := gr_lab g205 s181 (by decide)
  have s209 : S203 n21 = 114 := gr_lab g205 s182 (by decide)
  have s210 : S203 n38 = 95 := gr_lab g205 s183 (by decide)
  have s211 : S203 n57 = 95 := gr_lab g205 s184 (by decide)
  have s212 : S203 n78 = 115 := gr_lab g205 s185 (by decide)
  have s213 : S203 n101 = 117 := gr_lab g205 s186 (by decide)
  have s214 : S203 n126 = 130 := gr_lab g205 r176.1 (by decide)
  have e215 : 40000 = G204 143 this 0 := gr_val g205 e187 s180 (by decide) rfl
  have e216 : 1 = G204 143 this 1 := gr_val g205 e188 s180 (by decide) rfl
  have e217 : n6 = G204 143 this 3 := gr_val g205 e189 s180 (by decide) rfl
  have e218 : n21 = G204 143 this 4 := gr_val g205 e190 s180 (by decide) rfl
  have e219 : n38 = G204 143 this 5 := gr_val g205 e191 s180 (by decide) rfl
  have e220 : n57 = G204 143 this 6 := gr_val g205 e192 s180 (by decide) rfl
  have e221 : n78 = G204 143 this 7 := gr_val g205 e193 s180 (by decide) rfl
  have e222 : n101 = G204 143 this 8 := gr_val g205 e194 s180 (by decide) rfl
  have e223 : n126 = G204 143 this 9 := gr_val g205 h199 s180 (by decide) rfl
  have g224 : Gr [93, 94, 95, 96, 97, 98, 114, 115, 116, 117, 118, 130, 144, 153, 154, 155, 156, 157] [(143, 0), (143, 1), (143, 3), (143, 4), (143, 5), (143, 6), (143, 7), (143, 8), (143, 9), (143, 10), (143, 11), (143, 12), (143, 13), (143, 14), (143, 17), (143, 18), (143, 19), (144, 1), (144, 2), (144, 3), (144, 4), (144, 5), (144, 6), (144, 7), (144, 8), (144, 9), (144, 10), (144, 11), (144, 12), (144, 13), (144, 14), (144, 15), (144, 16), (144, 17), (153, 0), (153, 1)] S G S203 G204 := gr_call g201 g205 rfl rfl
  have u225 : UqL [130] S203 := uq_gr u196 g205 rfl
  have u226 : No [154, 155, 156, 157] S203 := no_gr (no_sub u198 rfl) g205 rfl
  have u227 : EmL E [] S203 G204 := em_gr u200 g205 rfl
  refine r_ex hX hP 1 (pc' := 91) (st' := [(2, n202), (2, n202), (2, this)]) (lo' := [(0, (2, this))]) rfl ?_
  refine r_callI gd hX hP rfl ci_X8_51 n202n (d' := 5) (mc' := 0) (ms' := 0) (as' := []) (st := [(2, n202), (2, this)]) (by omega) (by omega) (by omega) rfl rfl (Nat.le_of_ble_eq_true rfl) (c_Jx4a65c_init_da8c8 E S203 G204 n202  n202l) ?_
  rintro _ _ _ ⟨rfl, ⟨G228, rfl⟩, rfl, elh229, elh229e, f230⟩
  have e232 : Ad E 0 = (hw [(153, 0), (153, 1)] G204 G228) 153 n202 1 := by rw [← f230]; exact elh229e
  have u233 : EmL E [] S203 (hw [(153, 0), (153, 1)] G204 G228) := (em_hw u227 rfl)
  have g234 : Gr [93, 94, 95, 96, 97, 98, 114, 115, 116, 117, 118, 130, 144, 153, 154, 155, 156, 157] [(143, 0), (143, 1), (143, 3), (143, 4), (143, 5), (143, 6), (143, 7), (143, 8), (143, 9), (143, 10), (143, 11), (143, 12), (143, 13), (143, 14), (143, 17), (143, 18), (143, 19), (144, 1), (144, 2), (144, 3), (144, 4), (144, 5), (144, 6), (144, 7), (144, 8), (144, 9), (144, 10), (144, 11), (144, 12), (144, 13), (144, 14), (144, 15), (144, 16), (144, 17), (153, 0), (153, 1)] S G S203 (hw [(153, 0), (153, 1)] G204 G228) := (gr_hw g224 rfl)
  refine r_peekI hX (tl_153 2 rfl (by decide)) n202l (fun sip235 sip235e sip235a sip235b => ?_)
  refine r_finA hX (L := 153) (ci := 0) (fs := fs_153) rfl n202l (by decide) (fun hr236 => ?_)
  have hf237 : Fnl E fs_154 153 S203 (hw [(153, 0), (153, 1)] G204 G228) n202 := by
    intro j hj
    rcases (by have : j < 3 := hj; omega : j = 0 ∨ j = 1 ∨ j = 2) with rfl | rfl | rfl
    · exact hr236 0 (by decide)
    · exact Or.inl e232.symm
    · have e := sip235e; show (0 : Int) ≤ (hw [(153, 0), (153, 1)] G204 G228) 153 n202 2 ∧ (hw [(153, 0), (153, 1)] G204 G228) 153 n202 2 ≤ 40; omega
  refine r_relabF hX (L := 153) (L' := 154) (ci := 0) (fs := fs_153) (fs' := fs_154) rfl rfl rfl (by decide) (by decide) nf_153 (by decide) n202l hf237 (fun S239 G240 r238 => ?_)
  have s242 : S239 this = 143 := r238.lab n202l s207 (by decide)
  have s243 : S239 n6 = 114 := r238.lab n202l s208 (by decide)
  have s244 : S239 n21 = 114 := r238.lab n202l s209 (by decide)
  have s245 : S239 n38 = 95 := r238.lab n202l s210 (by decide)
  have s246 : S239 n57 = 95 := r238.lab n202l s211 (by decide)
  have s247 : S239 n78 = 115 := r238.lab n202l s212 (by decide)
  have s248 : S239 n101 = 117 := r238.lab n202l s213 (by decide)
  have s249 : S239 n126 = 130 := r238.lab n202l s214 (by decide)
  have e250 : 40000 = G240 143 this 0 := rs_val r238 n202l e215 s207 (by decide)
  have e251 : 1 = G240 143 this 1 := rs_val r238 n202l e216 s207 (by decide)
  have e252 : n6 = G240 143 this 3 := rs_val r238 n202l e217 s207 (by decide)
  have e253 : n21 = G240 143 this 4 := rs_val r238 n202l e218 s207 (by decide)
  have e254 : n38 = G240 143 this 5 := rs_val r238 n202l e219 s207 (by decide)
  have e255 : n57 = G240 143 this 6 := rs_val r238 n202l e220 s207 (by decide)
  have e256 : n78 = G240 143 this 7 := rs_val r238 n202l e221 s207 (by decide)
  have e257 : n101 = G240 143 this 8 := rs_val r238 n202l e222 s207 (by decide)
  have e258 : n126 = G240 143 this 9 := rs_val r238 n202l e223 s207 (by decide)
  have e259 : (Ad E 0) = G240 154 n202 1 := e232.trans (r238.2.2.1 1).symm
  have e260 : sip235 = G240 154 n202 2 := sip235e.trans (r238.2.2.1 2).symm
  have g261 : Gr [93, 94, 95, 96, 97, 98, 114, 115, 116, 117, 118, 130, 144, 153, 154, 155, 156, 157] [(143, 0), (143, 1), (143, 3), (143, 4), (143, 5), (143, 6), (143, 7), (143, 8), (143, 9), (143, 10), (143, 11), (143, 12), (143, 13), (143, 14), (143, 17), (143, 18), (143, 19), (144, 1), (144, 2), (144, 3), (144, 4), (144, 5), (144, 6), (144, 7), (144, 8), (144, 9), (144, 10), (144, 11), (144, 12), (144, 13), (144, 14), (144, 15), (144, 16), (144, 17), (153, 0), (153, 1)] S G S239 G240 := gr_rs g234 r238 z206 rfl
  have u262 : UqL [154, 130] S239 := uq_rs u225 (no_sub u226 rfl) r238 rfl
  have u263 : EmL E [154] S239 G240 := em_rs u233 (no_sub u226 rfl) r238 e232 (by have e := sip235e; omega) rfl
  have u264 : No [155, 156, 157] S239 := no_rs u226 r238 rfl
  refine r_putFN hX hP rfl rfl fq_X8_52_143 s242 (by decide) (Or.inr r238.1) (fun h265 => ?_)
  refine r_ex hX hP 1 (pc' := 98) (st' := [(2, this)]) (lo' := [(0, (2, this))]) rfl ?_
  have u266 : EmL E [154] S239 (up G240 143 this 10 n202) := (em_up u263 rfl)
  have g267 : Gr [93, 94, 95, 96, 97, 98, 114, 115, 116, 117, 118, 130, 144, 153, 154, 155, 156, 157] [(143, 0), (143, 1), (143, 3), (143, 4), (143, 5), (143, 6), (143, 7), (143, 8), (143, 9), (143, 10), (143, 11), (143, 12), (143, 13), (143, 14), (143, 17), (143, 18), (143, 19), (144, 1), (144, 2), (144, 3), (144, 4), (144, 5), (144, 6), (144, 7), (144, 8), (144, 9), (144, 10), (144, 11), (144, 12), (144, 13), (144, 14), (144, 15), (144, 16), (144, 17), (153, 0), (153, 1)] S G S239 (up G240 143 this 10 n202) := (gr_up g261 rfl)
  refine r_newA hX hP rfl (L := 153) (N := 3) nw_X8_49_153 (by omega) (by omega) (fun n268 S269 G270 n268z n268n n268l g271 n268v => ?_)
  have z272 : S n268 = 0 := gr_zero g267 n268z
  have s273 : S269 this = 143 := gr_lab g271 s242 (by decide)
  have s274 : S269 n6 = 114 := gr_lab g271 s243 (by decide)
  have s275 : S269 n21 = 114 := gr_lab g271 s244 (by decide)
  have s276 : S269 n38 = 95 := gr_lab g271 s245 (by decide)
  have s277 : S269 n57 = 95 := gr_lab g271 s246 (by decide)
  have s278 : S269 n78 = 115 := gr_lab g271 s247 (by decide)
  have s279 : S269 n101 = 117 := gr_lab g271 s248 (by decide)
  have s280 : S269 n126 = 130 := gr_lab g271 s249 (by decide)
  have s281 : S269 n202 = 154 := gr_lab g271 r238.1 (by decide)
  have e282 : 40000 = G270 143 this 0 := gr_val g271 e250 s242 (by decide) rfl
  have e283 : 1 = G270 143 this 1 := gr_val g271 e251 s242 (by decide) rfl
  have e284 : n6 = G270 143 this 3 := gr_val g271 e252 s242 (by decide) rfl
  have e285 : n21 = G270 143 this 4 := gr_val g271 e253 s242 (by decide) rfl
  have e286 : n38 = G270 143 this 5 := gr_val g271 e254 s242 (by decide) rfl
  have e287 : n57 = G270 143 this 6 := gr_val g271 e255 s242 (by decide) rfl
  have e288 : n78 = G270 143 this 7 := gr_val g271 e256 s242 (by decide) rfl
  have e289 : n101 = G270 143 this 8 := gr_val g271 e257 s242 (by decide) rfl
  have e290 : n126 = G270 143 this 9 := gr_val g271 e258 s242 (by decide) rfl
  have e291 : (Ad E 0) = G270 154 n202 1 := gr_val g271 e259 r238.1 (by decide) rfl
  have e292 : sip235 = G270 154 n202 2 := gr_val g271 e260 r238.1 (by decide) rfl
  have e293 : n202 = G270 143 this 10 := gr_val g271 h265 s242 (by decide) rfl
  have g294 : Gr [93, 94, 95, 96, 97, 98, 114, 115, 116, 117, 118, 130, 144, 153, 154, 155, 156, 157] [(143, 0), (143, 1), (143, 3), (143, 4), (143, 5), (143, 6), (143, 7), (143, 8), (143, 9), (143, 10), (143, 11), (143, 12), (143, 13), (143, 14), (143, 17), (143, 18), (143, 19), (144, 1), (144, 2), (144, 3), (144, 4), (144, 5), (144, 6), (144, 7), (144, 8), (144, 9), (144, 10), (144, 11), (144, 12), (144, 13), (144, 14), (144, 15), (144, 16), (144, 17), (153, 0), (153, 1)] S G S269 G270 := gr_call g267 g271 rfl rfl
  have u295 : UqL [154, 130] S269 := uq_gr u262 g271 rfl
  have u296 : No [155, 156, 157] S269 := no_gr (no_sub u264 rfl) g271 rfl
  have u297 : EmL E [154] S269 G270 := em_gr u266 g271 rfl
  refine r_ex hX hP 1 (pc' := 102) (st' := [(2, n268), (2, n268), (2, this)]) (lo' := [(0, (2, this))]) rfl ?_
  refine r_callI gd hX hP rfl ci_X8_51 n268n (d' := 5) (mc' := 0) (ms' := 0) (as' := []) (st := [(2, n268), (2, this)]) (by omega) (by omega) (by omega) rfl rfl (Nat.le_of_ble_eq_true rfl) (c_Jx4a65c_init_da8c8 E S269 G270 n268  n268l) ?_
  rintro _ _ _ ⟨rfl, ⟨G298, rfl⟩, rfl, elh299, elh299e, f300⟩
  have e302 : Ad E 0 = (hw [(153, 0), (153, 1)] G270 G298) 153 n268 1 := by rw [← f300]; exact elh299e
  have u303 : EmL E [154] S269 (hw [(153, 0), (153, 1)] G270 G298) := (em_hw u297 rfl)
  have g304 : Gr [93, 94, 95, 96, 97, 98, 114, 115, 116, 117, 118, 130, 144, 153, 154, 155, 156, 157] [(143, 0), (143, 1), (143, 3), (143, 4), (143, 5), (143, 6), (143, 7), (143, 8), (143, 9), (143, 10), (143, 11), (143, 12), (143, 13), (143, 14), (143, 17), (143, 18), (143, 19), (144, 1), (144, 2), (144, 3), (144, 4), (144, 5), (144, 6), (144, 7), (144, 8), (144, 9), (144, 10), (144, 11), (144, 12), (144, 13), (144, 14), (144, 15), (144, 16), (144, 17), (153, 0), (153, 1)] S G S269 (hw [(153, 0), (153, 1)] G270 G298) := (gr_hw g294 rfl)
  refine r_peekI hX (tl_153 2 rfl (by decide)) n268l (fun sip305 sip305e sip305a sip305b => ?_)
  refine r_finA hX (L := 153) (ci := 0) (fs := fs_153) rfl n268l (by decide) (fun hr306 => ?_)
  have hf307 : Fnl E fs_155 153 S269 (hw [(153, 0), (153, 1)] G270 G298) n268 := by
    intro j hj
    rcases (by have : j < 3 := hj; omega : j = 0 ∨ j = 1 ∨ j = 2) with rfl | rfl | rfl
    · exact hr306 0 (by decide)
    · exact Or.inl e302.symm
    · have e := sip305e; show (0 : Int) ≤ (hw [(153, 0), (153, 1)] G270 G298) 153 n268 2 ∧ (hw [(153, 0), (153, 1)] G270 G298) 153 n268 2 ≤ 40; omega
  refine r_relabF hX (L := 153) (L' := 155) (ci := 0) (fs := fs_153) (fs' := fs_155) rfl rfl rfl (by decide) (by decide) nf_153 (by decide) n268l hf307 (fun S309 G310 r308 => ?_)
  have s312 : S309 this = 143 := r308.lab n268l s273 (by decide)
  have s313 : S309 n6 = 114 := r308.lab n268l s274 (by decide)
  have s314 : S309 n21 = 114 := r308.lab n268l s275 (by decide)
  have s315 : S309 n38 = 95 := r308.lab n268l s276 (by decide)
  have s316 : S309 n57 = 95 := r308.lab n268l s277 (by decide)
  have s317 : S309 n78 = 115 := r308.lab n268l s278 (by decide)
  have s318 : S309 n101 = 117 := r308.lab n268l s279 (by decide)
  have s319 : S309 n126 = 130 := r308.lab n268l s280 (by decide)
  have s320 : S309 n202 = 154 := r308.lab n268l s281 (by decide)
  have e321 : 40000 = G310 143 this 0 := rs_val r308 n268l e282 s273 (by decide)
  have e322 : 1 = G310 143 this 1 := rs_val r308 n268l e283 s273 (by decide)
  have e323 : n6 = G310 143 this 3 := rs_val r308 n268l e284 s273 (by decide)
  have e324 : n21 = G310 143 this 4 := rs_val r308 n268l e285 s273 (by decide)
  have e325 : n38 = G310 143 this 5 := rs_val r308 n268l e286 s273 (by decide)
  have e326 : n57 = G310 143 this 6 := rs_val r308 n268l e287 s273 (by decide)
  have e327 : n78 = G310 143 this 7 := rs_val r308 n268l e288 s273 (by decide)
  have e328 : n101 = G310 143 this 8 := rs_val r308 n268l e289 s273 (by decide)
  have e329 : n126 = G310 143 this 9 := rs_val r308 n268l e290 s273 (by decide)
  have e330 : (Ad E 0) = G310 154 n202 1 := rs_val r308 n268l e291 s281 (by decide)
  have e331 : sip235 = G310 154 n202 2 := rs_val r308 n268l e292 s281 (by decide)
  have e332 : n202 = G310 143 this 10 := rs_val r308 n268l e293 s273 (by decide)
  have e333 : (Ad E 0) = G310 155 n268 1 := e302.trans (r308.2.2.1 1).symm
  have e334 : sip305 = G310 155 n268 2 := sip305e.trans (r308.2.2.1 2).symm
  have g335 : Gr [93, 94, 95, 96, 97, 98, 114, 115, 116, 117, 118, 130, 144, 153, 154, 155, 156, 157] [(143, 0), (143, 1), (143, 3), (143, 4), (143, 5), (143, 6), (143, 7), (143, 8), (143, 9), (143, 10), (143, 11), (143, 12), (143, 13), (143, 14), (143, 17), (143, 18), (143, 19), (144, 1), (144, 2), (144, 3), (144, 4), (144, 5), (144, 6), (144, 7), (144, 8), (144, 9), (144, 10), (144, 11), (144, 12), (144, 13), (144, 14), (144, 15), (144, 16), (144, 17), (153, 0), (153, 1)] S G S309 G310 := gr_rs g304 r308 z272 rfl
  have u336 : UqL [155, 154, 130] S309 := uq_rs u295 (no_sub u296 rfl) r308 rfl
  have u337 : EmL E [155, 154] S309 G310 := em_rs u303 (no_sub u296 rfl) r308 e302 (by have e := sip305e; omega) rfl
  have u338 : No [156, 157] S309 := no_rs u296 r308 rfl
  refine r_putFN hX hP rfl rfl fq_X8_56_143 s312 (by decide) (Or.inr r308.1) (fun h339 => ?_)
  refine r_ex hX hP 1 (pc' := 109) (st' := [(2, this)]) (lo' := [(0, (2, this))]) rfl ?_
  have u340 : EmL E [155, 154] S309 (up G310 143 this 11 n268) := (em_up u337 rfl)
  have g341 : Gr [93, 94, 95, 96, 97, 98, 114, 115, 116, 117, 118, 130, 144, 153, 154, 155, 156, 157] [(143, 0), (143, 1), (143, 3), (143, 4), (143, 5), (143, 6), (143, 7), (143, 8), (143, 9), (143, 10), (143, 11), (143, 12), (143, 13), (143, 14), (143, 17), (143, 18), (143, 19), (144, 1), (144, 2), (144, 3), (144, 4), (144, 5), (144, 6), (144, 7), (144, 8), (144, 9), (144, 10), (144, 11), (144, 12), (144, 13), (144, 14), (144, 15), (144, 16), (144, 17), (153, 0), (153, 1)] S G S309 (up G310 143 this 11 n268) := (gr_up g335 rfl)
  refine r_newA hX hP rfl (L := 153) (N := 3) nw_X8_49_153 (by omega) (by omega) (fun n342 S343 G344 n342z n342n n342l g345 n342v => ?_)
  have z346 : S n342 = 0 := gr_zero g341 n342z
  have s347 : S343 this = 143 := gr_lab g345 s312 (by decide)
  have s348 : S343 n6 = 114 := gr_lab g345 s313 (by decide)
  have s349 : S343 n21 = 114 := gr_lab g345 s314 (by decide)
  have s350 : S343 n38 = 95 := gr_lab g345 s315 (by decide)
  have s351 : S343 n57 = 95 := gr_lab g345 s316 (by decide)
  have s352 : S343 n78 = 115 := gr_lab g345 s317 (by decide)
  have s353 : S343 n101 = 117 := gr_lab g345 s318 (by decide)
  have s354 : S343 n126 = 130 := gr_lab g345 s319 (by decide)
  have s355 : S343 n202 = 154 := gr_lab g345 s320 (by decide)
  have s356 : S343 n268 = 155 := gr_lab g345 r308.1 (by decide)
  have e357 : 40000 = G344 143 this 0 := gr_val g345 e321 s312 (by decide) rfl
  have e358 : 1 = G344 143 this 1 := gr_val g345 e322 s312 (by decide) rfl
  have e359 : n6 = G344 143 this 3 := gr_val g345 e323 s312 (by decide) rfl
  have e360 : n21 = G344 143 this 4 := gr_val g345 e324 s312 (by decide) rfl
  have e361 : n38 = G344 143 this 5 := gr_val g345 e325 s312 (by decide) rfl
  have e362 : n57 = G344 143 this 6 := gr_val g345 e326 s312 (by decide) rfl
  have e363 : n78 = G344 143 this 7 := gr_val g345 e327 s312 (by decide) rfl
  have e364 : n101 = G344 143 this 8 := gr_val g345 e328 s312 (by decide) rfl
  have e365 : n126 = G344 143 this 9 := gr_val g345 e329 s312 (by decide) rfl
  have e366 : (Ad E 0) = G344 154 n202 1 := gr_val g345 e330 s320 (by decide) rfl
  have e367 : sip235 = G344 154 n202 2 := gr_val g345 e331 s320 (by decide) rfl
  have e368 : n202 = G344 143 this 10 := gr_val g345 e332 s312 (by decide) rfl
  have e369 : (Ad E 0) = G344 155 n268 1 := gr_val g345 e333 r308.1 (by decide) rfl
  have e370 : sip305 = G344 155 n268 2 := gr_val g345 e334 r308.1 (by decide) rfl
  have e371 : n268 = G344 143 this 11 := gr_val g345 h339 s312 (by decide) rfl
  have g372 : Gr [93, 94, 95, 96, 97, 98, 114, 115, 116, 117, 118, 130, 144, 153, 154, 155, 156, 157] [(143, 0), (143, 1), (143, 3), (143, 4), (143, 5), (143, 6), (143, 7), (143, 8), (143, 9), (143, 10), (143, 11), (143, 12), (143, 13), (143, 14), (143, 17), (143, 18), (143, 19), (144, 1), (144, 2), (144, 3), (144, 4), (144, 5), (144, 6), (144, 7), (144, 8), (144, 9), (144, 10), (144, 11), (144, 12), (144, 13), (144, 14), (144, 15), (144, 16), (144, 17), (153, 0), (153, 1)] S G S343 G344 := gr_call g341 g345 rfl rfl
  have u373 : UqL [155, 154, 130] S343 := uq_gr u336 g345 rfl
  have u374 : No [156, 157] S343 := no_gr (no_sub u338 rfl) g345 rfl
  have u375 : EmL E [155, 154] S343 G344 := em_gr u340 g345 rfl
  refine r_ex hX hP 1 (pc' := 113) (st' := [(2, n342), (2, n342), (2, this)]) (lo' := [(0, (2, this))]) rfl ?_
  refine r_callI gd hX hP rfl ci_X8_51 n342n (d' := 5) (mc' := 0) (ms' := 0) (as' := []) (st := [(2, n342), (2, this)]) (by omega) (by omega) (by omega) rfl rfl (Nat.le_of_ble_eq_true rfl) (c_Jx4a65c_init_da8c8 E S343 G344 n342  n342l) ?_
  rintro _ _ _ ⟨rfl, ⟨G376, rfl⟩, rfl, elh377, elh377e, f378⟩
  have e380 : Ad E 0 = (hw [(153, 0), (153, 1)] G344 G376) 153 n342 1 := by rw [← f378]; exact elh377e
  have u381 : EmL E [155, 154] S343 (hw [(153, 0), (153, 1)] G344 G376) := (em_hw u375 rfl)
  have g382 : Gr [93, 94, 95, 96, 97, 98, 114, 115, 116, 117, 118, 130, 144, 153, 154, 155, 156, 157] [(143, 0), (143, 1), (143, 3), (143, 4), (143, 5), (143, 6), (143, 7), (143, 8), (143, 9), (143, 10), (143, 11), (143, 12), (143, 13), (143, 14), (143, 17), (143, 18), (143, 19), (144, 1), (144, 2), (144, 3), (144, 4), (144, 5), (144, 6), (144, 7), (144, 8), (144, 9), (144, 10), (144, 11), (144, 12), (144, 13), (144, 14), (144, 15), (144, 16), (144, 17), (153, 0), (153, 1)] S G S343 (hw [(153, 0), (153, 1)] G344 G376) := (gr_hw g372 rfl)
  refine r_peekI hX (tl_153 2 rfl (by decide)) n342l (fun sip383 sip383e sip383a sip383b => ?_)
  refine r_finA hX (L := 153) (ci := 0) (fs := fs_153) rfl n342l (by decide) (fun hr384 => ?_)
  have hf385 : Fnl E fs_156 153 S343 (hw [(153, 0), (153, 1)] G344 G376) n342 := by
    intro j hj
    rcases (by have : j < 3 := hj; omega : j = 0 ∨ j = 1 ∨ j = 2) with rfl | rfl | rfl
    · exact hr384 0 (by decide)
    · exact Or.inl e380.symm
    · have e := sip383e; show (0 : Int) ≤ (hw [(153, 0), (153, 1)] G344 G376) 153 n342 2 ∧ (hw [(153, 0), (153, 1)] G344 G376) 153 n342 2 ≤ 16; omega
  refine r_relabF hX (L := 153) (L' := 156) (ci := 0) (fs := fs_153) (fs' := fs_156) rfl rfl rfl (by decide) (by decide) nf_153 (by decide) n342l hf385 (fun S387 G388 r386 => ?_)
  have s390 : S387 this = 143 := r386.lab n342l s347 (by decide)
  have s391 : S387 n6 = 114 := r386.lab n342l s348 (by decide)
  have s392 : S387 n21 = 114 := r386.lab n342l s349 (by decide)
  have s393 : S387 n38 = 95 := r386.lab n342l s350 (by decide)
  have s394 : S387 n57 = 95 := r386.lab n342l s351 (by decide)
  have s395 : S387 n78 = 115 := r386.lab n342l s352 (by decide)
  have s396 : S387 n101 = 117 := r386.lab n342l s353 (by decide)
  have s397 : S387 n126 = 130 := r386.lab n342l s354 (by decide)
  have s398 : S387 n202 = 154 := r386.lab n342l s355 (by decide)
  have s399 : S387 n268 = 155 := r386.lab n342l s356 (by decide)
  have e400 : 40000 = G388 143 this 0 := rs_val r386 n342l e357 s347 (by decide)
  have e401 : 1 = G388 143 this 1 := rs_val r386 n342l e358 s347 (by decide)
  have e402 : n6 = G388 143 this 3 := rs_val r386 n342l e359 s347 (by decide)
  have e403 : n21 = G388 143 this 4 := rs_val r386 n342l e360 s347 (by decide)
  have e404 : n38 = G388 143 this 5 := rs_val r386 n342l e361 s347 (by decide)
  have e405 : n57 = G388 143 this 6 := rs_val r386 n342l e362 s347 (by decide)
  have e406 : n78 = G388 143 this 7 := rs_val r386 n342l e363 s347 (by decide)
  have e407 : n101 = G388 143 this 8 := rs_val r386 n342l e364 s347 (by decide)
  have e408 : n126 = G388 143 this 9 := rs_val r386 n342l e365 s347 (by decide)
  have e409 : (Ad E 0) = G388 154 n202 1 := rs_val r386 n342l e366 s355 (by decide)
  have e410 : sip235 = G388 154 n202 2 := rs_val r386 n342l e367 s355 (by decide)
  have e411 : n202 = G388 143 this 10 := rs_val r386 n342l e368 s347 (by decide)
  have e412 : (Ad E 0) = G388 155 n268 1 := rs_val r386 n342l e369 s356 (by decide)
  have e413 : sip305 = G388 155 n268 2 := rs_val r386 n342l e370 s356 (by decide)
  have e414 : n268 = G388 143 this 11 := rs_val r386 n342l e371 s347 (by decide)
  have e415 : (Ad E 0) = G388 156 n342 1 := e380.trans (r386.2.2.1 1).symm
  have e416 : sip383 = G388 156 n342 2 := sip383e.trans (r386.2.2.1 2).symm
  have g417 : Gr [93, 94, 95, 96, 97, 98, 114, 115, 116, 117, 118, 130, 144, 153, 154, 155, 156, 157] [(143, 0), (143, 1), (143, 3), (143, 4), (143, 5), (143, 6), (143, 7), (143, 8), (143, 9), (143, 10), (143, 11), (143, 12), (143, 13), (143, 14), (143, 17), (143, 18), (143, 19), (144, 1), (144, 2), (144, 3), (144, 4), (144, 5), (144, 6), (144, 7), (144, 8), (144, 9), (144, 10), (144, 11), (144, 12), (144, 13), (144, 14), (144, 15), (144, 16), (144, 17), (153, 0), (153, 1)] S G S387 G388 := gr_rs g382 r386 z346 rfl
  have u418 : UqL [156, 155, 154, 130] S387 := uq_rs u373 (no_sub u374 rfl) r386 rfl
  have u419 : EmL E [156, 155, 154] S387 G388 := em_rs u381 (no_sub u374 rfl) r386 e380 (by have e := sip383e; omega) rfl
  have u420 : No [157] S387 := no_rs u374 r386 rfl
  refine r_putFN hX hP rfl rfl fq_X8_59_143 s390 (by decide) (Or.inr r386.1) (fun h421 => ?_)
  refine r_ex hX hP 1 (pc' := 120) (st' := [(2, this)]) (lo' := [(0, (2, this))]) rfl ?_
  have u422 : EmL E [156, 155, 154] S387 (up G388 143 this 12 n342) := (em_up u419 rfl)
  have g423 : Gr [93, 94, 95, 96, 97, 98, 114, 115, 116, 117, 118, 130, 144, 153, 154, 155, 156, 157] [(143, 0), (143, 1), (143, 3), (143, 4), (143, 5), (143, 6), (143, 7), (143, 8), (143, 9), (143, 10), (143, 11), (143, 12), (143, 13), (143, 14), (143, 17), (143, 18), (143, 19), (144, 1), (144, 2), (144, 3), (144, 4), (144, 5), (144, 6), (144, 7), (144, 8), (144, 9), (144, 10), (144, 11), (144, 12), (144, 13), (144, 14), (144, 15), (144, 16), (144, 17), (153, 0), (153, 1)] S G S387 (up G388 143 this 12 n342) := (gr_up g417 rfl)
  refine r_newA hX hP rfl (L := 153) (N := 3) nw_X8_49_153 (by omega) (by omega) (fun n424 S425 G426 n424z n424n n424l g427 n424v => ?_)
  have z428 : S n424 = 0 := gr_zero g423 n424z
  have s429 : S425 this = 143 := gr_lab g427 s390 (by decide)
  have s430 : S425 n6 = 114 := gr_lab g427 s391 (by decide)
  have s431 : S425 n21 = 114 := gr_lab g427 s392 (by decide)
  have s432 : S425 n38 = 95 := gr_lab g427 s393 (by decide)
  have s433 : S425 n57 = 95 := gr_lab g427 s394 (by decide)
  have s434 : S425 n78 = 115 := gr_lab g427 s395 (by decide)
  have s435 : S425 n101 = 117 := gr_lab g427 s396 (by decide)
  have s436 : S425 n126 = 130 := gr_lab g427 s397 (by decide)
  have s437 : S425 n202 = 154 := gr_lab g427 s398 (by decide)
  have s438 : S425 n268 = 155 := gr_lab g427 s399 (by decide)
  have s439 : S425 n342 = 156 := gr_lab g427 r386.1 (by decide)
  have e440 : 40000 = G426 143 this 0 := gr_val g427 e400 s390 (by decide) rfl
  have e441 : 1 = G426 143 this 1 := gr_val g427 e401 s390 (by decide) rfl
  have e442 : n6 = G426 143 this 3 := gr_val g427 e402 s390 (by decide) rfl
  have e443 : n21 = G426 143 this 4 := gr_val g427 e403 s390 (by decide) rfl
  have e444 : n38 = G426 143 this 5 := gr_val g427 e404 s390 (by decide) rfl
  have e445 : n57 = G426 143 this 6 := gr_val g427 e405 s390 (by decide) rfl
  have e446 : n78 = G426 143 this 7 := gr_val g427 e406 s390 (by decide) rfl
  have e447 : n101 = G426 143 this 8 := gr_val g427 e407 s390 (by decide) rfl
  have e448 : n126 = G426 143 this 9 := gr_val g427 e408 s390 (by decide) rfl
  have e449 : (Ad E 0) = G426 154 n202 1 := gr_val g427 e409 s398 (by decide) rfl
  have e450 : sip235 = G426 154 n202 2 := gr_val g427 e410 s398 (by decide) rfl
  have e451 : n202 = G426 143 this 10 := gr_val g427 e411 s390 (by decide) rfl
  have e452 : (Ad E 0) = G426 155 n268 1 := gr_val g427 e412 s399 (by decide) rfl
  have e453 : sip305 = G426 155 n268 2 := gr_val g427 e413 s399 (by decide) rfl
  have e454 : n268 = G426 143 this 11 := gr_val g427 e414 s390 (by decide) rfl
  have e455 : (Ad E 0) = G426 156 n342 1 := gr_val g427 e415 r386.1 (by decide) rfl
  have e456 : sip383 = G426 156 n342 2 := gr_val g427 e416 r386.1 (by decide) rfl
  have e457 : n342 = G426 143 this 12 := gr_val g427 h421 s390 (by decide) rfl
  have g458 : Gr [93, 94, 95, 96, 97, 98, 114, 115, 116, 117, 118, 130, 144, 153, 154, 155, 156, 157] [(143, 0), (143, 1), (143, 3), (143, 4), (143, 5), (143, 6), (143, 7), (143, 8), (143, 9), (143, 10), (143, 11), (143, 12), (143, 13), (143, 14), (143, 17), (143, 18), (143, 19), (144, 1), (144, 2), (144, 3), (144, 4), (144, 5), (144, 6), (144, 7), (144, 8), (144, 9), (144, 10), (144, 11), (144, 12), (144, 13), (144, 14), (144, 15), (144, 16), (144, 17), (153, 0), (153, 1)] S G S425 G426 := gr_call g423 g427 rfl rfl
  have u459 : UqL [156, 155, 154, 130] S425 := uq_gr u418 g427 rfl
  have u460 : No [157] S425 := no_gr (no_sub u420 rfl) g427 rfl
  have u461 : EmL E [156, 155, 154] S425 G426 := em_gr u422 g427 rfl
  refine r_ex hX hP 1 (pc' := 124) (st' := [(2, n424), (2, n424), (2, this)]) (lo' := [(0, (2, this))]) rfl ?_
  refine r_callI gd hX hP rfl ci_X8_51 n424n (d' := 5) (mc' := 0) (ms' := 0) (as' := []) (st := [(2, n424), (2, this)]) (by omega) (by omega) (by omega) rfl rfl (Nat.le_of_ble_eq_true rfl) (c_Jx4a65c_init_da8c8 E S425 G426 n424  n424l) ?_
  rintro _ _ _ ⟨rfl, ⟨G462, rfl⟩, rfl, elh463, elh463e, f464⟩
  have e466 : Ad E 0 = (hw [(153, 0), (153, 1)] G426 G462) 153 n424 1 := by rw [← f464]; exact elh463e
  have u467 : EmL E [156, 155, 154] S425 (hw [(153, 0), (153, 1)] G426 G462) := (em_hw u461 rfl)
  have g468 : Gr [93, 94, 95, 96, 97, 98, 114, 115, 116, 117, 118, 130, 144, 153, 154, 155, 156, 157] [(143, 0), (143, 1), (143, 3), (143, 4), (143, 5), (143, 6), (143, 7), (143, 8), (143, 9), (143, 10), (143, 11), (143, 12), (143, 13), (143, 14), (143, 17), (143, 18), (143, 19), (144, 1), (144, 2), (144, 3), (144, 4), (144, 5), (144, 6), (144, 7), (144, 8), (144, 9), (144, 10), (144, 11), (144, 12), (144, 13), (144, 14), (144, 15), (144, 16), (144, 17), (153, 0), (153, 1)] S G S425 (hw [(153, 0), (153, 1)] G426 G462) := (gr_hw g458 rfl)
  refine r_peekI hX (tl_153 2 rfl (by decide)) n424l (fun sip469 sip469e sip469a sip469b => ?_)
  refine r_finA hX (L := 153) (ci := 0) (fs := fs_153) rfl n424l (by decide) (fun hr470 => ?_)
  have hf471 : Fnl E fs_157 153 S425 (hw [(153, 0), (153, 1)] G426 G462) n424 := by
    intro j hj
    rcases (by have : j < 3 := hj; omega : j = 0 ∨ j = 1 ∨ j = 2) with rfl | rfl | rfl
    · exact hr470 0 (by decide)
    · exact Or.inl e466.symm
    · have e := sip469e; show (0 : Int) ≤ (hw [(153, 0), (153, 1)] G426 G462) 153 n424 2 ∧ (hw [(153, 0), (153, 1)] G426 G462) 153 n424 2 ≤ 60; omega
  refine r_relabF hX (L := 153) (L' := 157) (ci := 0) (fs := fs_153) (fs' := fs_157) rfl rfl rfl (by decide) (by decide) nf_153 (by decide) n424l hf471 (fun S473 G474 r472 => ?_)
  have s476 : S473 this = 143 := r472.lab n424l s429 (by decide)
  have s477 : S473 n6 = 114 := r472.lab n424l s430 (by decide)
  have s478 : S473 n21 = 114 := r472.lab n424l s431 (by decide)
  have s479 : S473 n38 = 95 := r472.lab n424l s432 (by decide)
  have s480 : S473 n57 = 95 := r472.lab n424l s433 (by decide)
  have s481 : S473 n78 = 115 := r472.lab n424l s434 (by decide)
  have s482 : S473 n101 = 117 := r472.lab n424l s435 (by decide)
  have s483 : S473 n126 = 130 := r472.lab n424l s436 (by decide)
  have s484 : S473 n202 = 154 := r472.lab n424l s437 (by decide)
  have s485 : S473 n268 = 155 := r472.lab n424l s438 (by decide)
  have s486 : S473 n342 = 156 := r472.lab n424l s439 (by decide)
  have e487 : 40000 = G474 143 this 0 := rs_val r472 n424l e440 s429 (by decide)
  have e488 : 1 = G474 143 this 1 := rs_val r472 n424l e441 s429 (by decide)
  have e489 : n6 = G474 143 this 3 := rs_val r472 n424l e442 s429 (by decide)
  have e490 : n21 = G474 143 this 4 := rs_val r472 n424l e443 s429 (by decide)
  have e491 : n38 = G474 143 this 5 := rs_val r472 n424l e444 s429 (by decide)
  have e492 : n57 = G474 143 this 6 := rs_val r472 n424l e445 s429 (by decide)
  have e493 : n78 = G474 143 this 7 := rs_val r472 n424l e446 s429 (by decide)
  have e494 : n101 = G474 143 this 8 := rs_val r472 n424l e447 s429 (by decide)
  have e495 : n126 = G474 143 this 9 := rs_val r472 n424l e448 s429 (by decide)
  have e496 : (Ad E 0) = G474 154 n202 1 := rs_val r472 n424l e449 s437 (by decide)
  have e497 : sip235 = G474 154 n202 2 := rs_val r472 n424l e450 s437 (by decide)
  have e498 : n202 = G474 143 this 10 := rs_val r472 n424l e451 s429 (by decide)
  have e499 : (Ad E 0) = G474 155 n268 1 := rs_val r472 n424l e452 s438 (by decide)
  have e500 : sip305 = G474 155 n268 2 := rs_val r472 n424l e453 s438 (by decide)
  have e501 : n268 = G474 143 this 11 := rs_val r472 n424l e454 s429 (by decide)
  have e502 : (Ad E 0) = G474 156 n342 1 := rs_val r472 n424l e455 s439 (by decide)
  have e503 : sip383 = G474 156 n342 2 := rs_val r472 n424l e456 s439 (by decide)
  have e504 : n342 = G474 143 this 12 := rs_val r472 n424l e457 s429 (by decide)
  have e505 : (Ad E 0) = G474 157 n424 1 := e466.trans (r472.2.2.1 1).symm
  have e506 : sip469 = G474 157 n424 2 := sip469e.trans (r472.2.2.1 2).symm
  have g507 : Gr [93, 94, 95, 96, 97, 98, 114, 115, 116, 117, 118, 130, 144, 153, 154, 155, 156, 157] [(143, 0), (143, 1), (143, 3), (143, 4), (143, 5), (143, 6), (143, 7), (143, 8), (143, 9), (143, 10), (143, 11), (143, 12), (143, 13), (143, 14), (143, 17), (143, 18), (143, 19), (144, 1), (144, 2), (144, 3), (144, 4), (144, 5), (144, 6), (144, 7), (144, 8), (144, 9), (144, 10), (144, 11), (144, 12), (144, 13), (144, 14), (144, 15), (144, 16), (144, 17), (153, 0), (153, 1)] S G S473 G474 := gr_rs g468 r472 z428 rfl
  have u508 : UqL [157, 156, 155, 154, 130] S473 := uq_rs u459 (no_sub u460 rfl) r472 rfl
  have u509 : EmL E [157, 156, 155, 154] S473 G474 := em_rs u467 (no_sub u460 rfl) r472 e466 (by have e := sip469e; omega) rfl
  have u510 : No [] S473 := no_rs u460 r472 rfl
  refine r_putFN hX hP rfl rfl fq_X8_62_143 s476 (by decide) (Or.inr r472.1) (fun h511 => ?_)
  refine r_ex hX hP 2 (pc' := 133) (st' := [(0, 96), (2, this)]) (lo' := [(0, (2, this))]) rfl ?_
  have u512 : EmL E [157, 156, 155, 154] S473 (up G474 143 this 13 n424) := (em_up u509 rfl)
  have g513 : Gr [93, 94, 95, 96, 97, 98, 114, 115, 116, 117, 118, 130, 144, 153, 154, 155, 156, 157] [(143, 0), (143, 1), (143, 3), (143, 4), (143, 5), (143, 6), (143, 7), (143, 8), (143, 9), (143, 10), (143, 11), (143, 12), (143, 13), (143, 14), (143, 17), (143, 18), (143, 19), (144, 1), (144, 2), (144, 3), (144, 4), (144, 5), (144, 6), (144, 7), (144, 8), (144, 9), (144, 10), (144, 11), (144, 12), (144, 13), (144, 14), (144, 15), (144, 16), (144, 17), (153, 0), (153, 1)] S G S473 (up G474 143 this 13 n424) := (gr_up g507 rfl)
  refine r_newarrA hX hP rfl (L := 118) (n := 96) al_118 (by decide) rfl rfl rfl (tbg sg1 124 rfl rfl) (by decide) (by omega) (by omega) (fun n514 S515 G516 n514z n514n n514l g517 n514v => ?_)
  have z518 : S n514 = 0 := gr_zero g513 n514z
  have s519 : S515 this = 143 := gr_lab g517 s476 (by decide)
  have s520 : S515 n6 = 114 := gr_lab g517 s477 (by decide)
  have s521 : S515 n21 = 114 := gr_lab g517 s478 (by decide)
  have s522 : S515 n38 = 95 := gr_lab g517 s479 (by decide)
  have s523 : S515 n57 = 95 := gr_lab g517 s480 (by decide)
  have s524 : S515 n78 = 115 := gr_lab g517 s481 (by decide)
  have s525 : S515 n101 = 117 := gr_lab g517 s482 (by decide)
  have s526 : S515 n126 = 130 := gr_lab g517 s483 (by decide)
  have s527 : S515 n202 = 154 := gr_lab g517 s484 (by decide)
  have s528 : S515 n268 = 155 := gr_lab g517 s485 (by decide)
  have s529 : S515 n342 = 156 := gr_lab g517 s486 (by decide)
  have s530 : S515 n424 = 157 := gr_lab g517 r472.1 (by decide)
  have e531 : 40000 = G516 143 this 0 := gr_val g517 e487 s476 (by decide) rfl
  have e532 : 1 = G516 143 this 1 := gr_val g517 e488 s476 (by decide) rfl
  have e533 : n6 = G516 143 this 3 := gr_val g517 e489 s476 (by decide) rfl
  have e534 : n21 = G516 143 this 4 := gr_val g517 e490 s476 (by decide) rfl
  have e535 : n38 = G516 143 this 5 := gr_val g517 e491 s476 (by decide) rfl
  have e536 : n57 = G516 143 this 6 := gr_val g517 e492 s476 (by decide) rfl
  have e537 : n78 = G516 143 this 7 := gr_val g517 e493 s476 (by decide) rfl
  have e538 : n101 = G516 143 this 8 := gr_val g517 e494 s476 (by decide) rfl
  have e539 : n126 = G516 143 this 9 := gr_val g517 e495 s476 (by decide) rfl
  have e540 : (Ad E 0) = G516 154 n202 1 := gr_val g517 e496 s484 (by decide) rfl
  have e541 : sip235 = G516 154 n202 2 := gr_val g517 e497 s484 (by decide) rfl
  have e542 : n202 = G516 143 this 10 := gr_val g517 e498 s476 (by decide) rfl
  have e543 : (Ad E 0) = G516 155 n268 1 := gr_val g517 e499 s485 (by decide) rfl
  have e544 : sip305 = G516 155 n268 2 := gr_val g517 e500 s485 (by decide) rfl
  have e545 : n268 = G516 143 this 11 := gr_val g517 e501 s476 (by decide) rfl
  have e546 : (Ad E 0) = G516 156 n342 1 := gr_val g517 e502 s486 (by decide) rfl
  have e547 : sip383 = G516 156 n342 2 := gr_val g517 e503 s486 (by decide) rfl
  have e548 : n342 = G516 143 this 12 := gr_val g517 e504 s476 (by decide) rfl
  have e549 : (Ad E 0) = G516 157 n424 1 := gr_val g517 e505 r472.1 (by decide) rfl
  have e550 : sip469 = G516 157 n424 2 := gr_val g517 e506 r472.1 (by decide) rfl
  have e551 : n424 = G516 143 this 13 := gr_val g517 h511 s476 (by decide) rfl
  have g552 : Gr [93, 94, 95, 96, 97, 98, 114, 115, 116, 117, 118, 130, 144, 153, 154, 155, 156, 157] [(143, 0), (143, 1), (143, 3), (143, 4), (143, 5), (143, 6), (143, 7), (143, 8), (143, 9), (143, 10), (143, 11), (143, 12), (143, 13), (143, 14), (143, 17), (143, 18), (143, 19), (144, 1), (144, 2), (144, 3), (144, 4), (144, 5), (144, 6), (144, 7), (144, 8), (144, 9), (144, 10), (144, 11), (144, 12), (144, 13), (144, 14), (144, 15), (144, 16), (144, 17), (153, 0), (153, 1)] S G S515 G516 := gr_call g513 g517 rfl rfl
  have u553 : UqL [157, 156, 155, 154, 130] S515 := uq_gr u508 g517 rfl
  have u554 : No [] S515 := no_gr (no_sub u510 rfl) g517 rfl
  have u555 : EmL E [157, 156, 155, 154] S515 G516 := em_gr u512 g517 rfl
  refine r_putFN hX hP rfl rfl fq_X8_65_143 s519 (by decide) (Or.inr n514l) (fun h556 => ?_)
  refine r_ex hX hP 2 (pc' := 141) (st' := [(0, 20), (2, this)]) (lo' := [(0, (2, this))]) rfl ?_
  have u557 : EmL E [157, 156, 155, 154] S515 (up G516 143 this 14 n514) := (em_up u555 rfl)
  have g558 : Gr [93, 94, 95, 96, 97, 98, 114, 115, 116, 117, 118, 130, 144, 153, 154, 155, 156, 157] [(143, 0), (143, 1), (143, 3), (143, 4), (143, 5), (143, 6), (143, 7), (143, 8), (143, 9), (143, 10), (143, 11), (143, 12), (143, 13), (143, 14), (143, 17), (143, 18), (143, 19), (144, 1), (144, 2), (144, 3), (144, 4), (144, 5), (144, 6), (144, 7), (144, 8), (144, 9), (144, 10), (144, 11), (144, 12), (144, 13), (144, 14), (144, 15), (144, 16), (144, 17), (153, 0), (153, 1)] S G S515 (up G516 143 this 14 n514) := (gr_up g552 rfl)
  refine r_newarrA hX hP rfl (L := 95) (n := 20) al_95 (by decide) rfl rfl rfl (tbg sg1 123 rfl rfl) (by decide) (by omega) (by omega) (fun n559 S560 G561 n559z n559n n559l g562 n559v => ?_)
  have z563 : S n559 = 0 := gr_zero g558 n559z
  have s564 : S560 this = 143 := gr_lab g562 s519 (by decide)
  have s565 : S560 n6 = 114 := gr_lab g562 s520 (by decide)
  have s566 : S560 n21 = 114 := gr_lab g562 s521 (by decide)
  have s567 : S560 n38 = 95 := gr_lab g562 s522 (by decide)
  have s568 : S560 n57 = 95 := gr_lab g562 s523 (by decide)
  have s569 : S560 n78 = 115 := gr_lab g562 s524 (by decide)
  have s570 : S560 n101 = 117 := gr_lab g562 s525 (by decide)
  have s571 : S560 n126 = 130 := gr_lab g562 s526 (by decide)
  have s572 : S560 n202 = 154 := gr_lab g562 s527 (by decide)
  have s573 : S560 n268 = 155 := gr_lab g562 s528 (by decide)
  have s574 : S560 n342 = 156 := gr_lab g562 s529 (by decide)
  have s575 : S560 n424 = 157 := gr_lab g562 s530 (by decide)
  have s576 : S560 n514 = 118 := gr_lab g562 n514l (by decide)
  have e577 : 40000 = G561 143 this 0 := gr_val g562 e531 s519 (by decide) rfl
  have e578 : 1 = G561 143 this 1 := gr_val g562 e532 s519 (by decide) rfl
  have e579 : n6 = G561 143 this 3 := gr_val g562 e533 s519 (by decide) rfl
  have e580 : n21 = G561 143 this 4 := gr_val g562 e534 s519 (by decide) rfl
  have e581 : n38 = G561 143 this 5 := gr_val g562 e535 s519 (by decide) rfl
  have e582 : n57 = G561 143 this 6 := gr_val g562 e536 s519 (by decide) rfl
  have e583 : n78 = G561 143 this 7 := gr_val g562 e537 s519 (by decide) rfl
  have e584 : n101 = G561 143 this 8 := gr_val g562 e538 s519 (by decide) rfl
  have e585 : n126 = G561 143 this 9 := gr_val g562 e539 s519 (by decide) rfl
  have e586 : (Ad E 0) = G561 154 n202 1 := gr_val g562 e540 s527 (by decide) rfl
  have e587 : sip235 = G561 154 n202 2 := gr_val g562 e541 s527 (by decide) rfl
  have e588 : n202 = G561 143 this 10 := gr_val g562 e542 s519 (by decide) rfl
  have e589 : (Ad E 0) = G561 155 n268 1 := gr_val g562 e543 s528 (by decide) rfl
  have e590 : sip305 = G561 155 n268 2 := gr_val g562 e544 s528 (by decide) rfl
  have e591 : n268 = G561 143 this 11 := gr_val g562 e545 s519 (by decide) rfl
  have e592 : (Ad E 0) = G561 156 n342 1 := gr_val g562 e546 s529 (by decide) rfl
  have e593 : sip383 = G561 156 n342 2 := gr_val g562 e547 s529 (by decide) rfl
  have e594 : n342 = G561 143 this 12 := gr_val g562 e548 s519 (by decide) rfl
  have e595 : (Ad E 0) = G561 157 n424 1 := gr_val g562 e549 s530 (by decide) rfl
  have e596 : sip469 = G561 157 n424 2 := gr_val g562 e550 s530 (by decide) rfl
  have e597 : n424 = G561 143 this 13 := gr_val g562 e551 s519 (by decide) rfl
  have e598 : n514 = G561 143 this 14 := gr_val g562 h556 s519 (by decide) rfl
  have g599 : Gr [93, 94, 95, 96, 97, 98, 114, 115, 116, 117, 118, 130, 144, 153, 154, 155, 156, 157] [(143, 0), (143, 1), (143, 3), (143, 4), (143, 5), (143, 6), (143, 7), (143, 8), (143, 9), (143, 10), (143, 11), (143, 12), (143, 13), (143, 14), (143, 17), (143, 18), (143, 19), (144, 1), (144, 2), (144, 3), (144, 4), (144, 5), (144, 6), (144, 7), (144, 8), (144, 9), (144, 10), (144, 11), (144, 12), (144, 13), (144, 14), (144, 15), (144, 16), (144, 17), (153, 0), (153, 1)] S G S560 G561 := gr_call g558 g562 rfl rfl
  have u600 : UqL [157, 156, 155, 154, 130] S560 := uq_gr u553 g562 rfl
  have u601 : No [] S560 := no_gr (no_sub u554 rfl) g562 rfl
  have u602 : EmL E [157, 156, 155, 154] S560 G561 := em_gr u557 g562 rfl
  refine r_putFN hX hP rfl rfl fq_X8_68_143 s564 (by decide) (Or.inr n559l) (fun h603 => ?_)
  refine r_ex hX hP 2 (pc' := 149) (st' := [(0, 20), (2, this)]) (lo' := [(0, (2, this))]) rfl ?_
  have u604 : EmL E [157, 156, 155, 154] S560 (up G561 143 this 17 n559) := (em_up u602 rfl)
  have g605 : Gr [93, 94, 95, 96, 97, 98, 114, 115, 116, 117, 118, 130, 144, 153, 154, 155, 156, 157] [(143, 0), (143, 1), (143, 3), (143, 4), (143, 5), (143, 6), (143, 7), (143, 8), (143, 9), (143, 10), (143, 11), (143, 12), (143, 13), (143, 14), (143, 17), (143, 18), (143, 19), (144, 1), (144, 2), (144, 3), (144, 4), (144, 5), (144, 6), (144, 7), (144, 8), (144, 9), (144, 10), (144, 11), (144, 12), (144, 13), (144, 14), (144, 15), (144, 16), (144, 17), (153, 0), (153, 1)] S G S560 (up G561 143 this 17 n559) := (gr_up g599 rfl)
  refine r_newarrA hX hP rfl (L := 95) (n := 20) al_95 (by decide) rfl rfl rfl (tbg sg1 123 rfl rfl) (by decide) (by omega) (by omega) (fun n606 S607 G608 n606z n606n n606l g609 n606v => ?_)
  have z610 : S n606 = 0 := gr_zero g605 n606z
  have s611 : S607 this = 143 := gr_lab g609 s564 (by decide)
  have s612 : S607 n6 = 114 := gr_lab g609 s565 (by decide)
  have s613 : S607 n21 = 114 := gr_lab g609 s566 (by decide)
  have s614 : S607 n38 = 95 := gr_lab g609 s567 (by decide)
  have s615 : S607 n57 = 95 := gr_lab g609 s568 (by decide)
  have s616 : S607 n78 = 115 := gr_lab g609 s569 (by decide)
  have s617 : S607 n101 = 117 := gr_lab g609 s570 (by decide)
  have s618 : S607 n126 = 130 := gr_lab g609 s571 (by decide)
  have s619 : S607 n202 = 154 := gr_lab g609 s572 (by decide)
  have s620 : S607 n268 = 155 := gr_lab g609 s573 (by decide)
  have s621 : S607 n342 = 156 := gr_lab g609 s574 (by decide)
  have s622 : S607 n424 = 157 := gr_lab g609 s575 (by decide)
  have s623 : S607 n514 = 118 := gr_lab g609 s576 (by decide)
  have s624 : S607 n559 = 95 := gr_lab g609 n559l (by decide)
  have e625 : 40000 = G608 143 this 0 := gr_val g609 e577 s564 (by decide) rfl
  have e626 : 1 = G608 143 this 1 := gr_val g609 e578 s564 (by decide) rfl
  have e627 : n6 = G608 143 this 3 := gr_val g609 e579 s564 (by decide) rfl
  have e628 : n21 = G608 143 this 4 := gr_val g609 e580 s564 (by decide) rfl
  have e629 : n38 = G608 143 this 5 := gr_val g609 e581 s564 (by decide) rfl
  have e630 : n57 = G608 143 this 6 := gr_val g609 e582 s564 (by decide) rfl
  have e631 : n78 = G608 143 this 7 := gr_val g609 e583 s564 (by decide) rfl
  have e632 : n101 = G608 143 this 8 := gr_val g609 e584 s564 (by decide) rfl
  have e633 : n126 = G608 143 this 9 := gr_val g609 e585 s564 (by decide) rfl
  have e634 : (Ad E 0) = G608 154 n202 1 := gr_val g609 e586 s572 (by decide) rfl
  have e635 : sip235 = G608 154 n202 2 := gr_val g609 e587 s572 (by decide) rfl
  have e636 : n202 = G608 143 this 10 := gr_val g609 e588 s564 (by decide) rfl
  have e637 : (Ad E 0) = G608 155 n268 1 := gr_val g609 e589 s573 (by decide) rfl
  have e638 : sip305 = G608 155 n268 2 := gr_val g609 e590 s573 (by decide) rfl
  have e639 : n268 = G608 143 this 11 := gr_val g609 e591 s564 (by decide) rfl
  have e640 : (Ad E 0) = G608 156 n342 1 := gr_val g609 e592 s574 (by decide) rfl
  have e641 : sip383 = G608 156 n342 2 := gr_val g609 e593 s574 (by decide) rfl
  have e642 : n342 = G608 143 this 12 := gr_val g609 e594 s564 (by decide) rfl
  have e643 : (Ad E 0) = G608 157 n424 1 := gr_val g609 e595 s575 (by decide) rfl
  have e644 : sip469 = G608 157 n424 2 := gr_val g609 e596 s575 (by decide) rfl
  have e645 : n424 = G608 143 this 13 := gr_val g609 e597 s564 (by decide) rfl
  have e646 : n514 = G608 143 this 14 := gr_val g609 e598 s564 (by decide) rfl
  have e647 : n559 = G608 143 this 17 := gr_val g609 h603 s564 (by decide) rfl
  have g648 : Gr [93, 94, 95, 96, 97, 98, 114, 115, 116, 117, 118, 130, 144, 153, 154, 155, 156, 157] [(143, 0), (143, 1), (143, 3), (143, 4), (143, 5), (143, 6), (143, 7), (143, 8), (143, 9), (143, 10), (143, 11), (143, 12), (143, 13), (143, 14), (143, 17), (143, 18), (143, 19), (144, 1), (144, 2), (144, 3), (144, 4), (144, 5), (144, 6), (144, 7), (144, 8), (144, 9), (144, 10), (144, 11), (144, 12), (144, 13), (144, 14), (144, 15), (144, 16), (144, 17), (153, 0), (153, 1)] S G S607 G608 := gr_call g605 g609 rfl rfl
  have u649 : UqL [157, 156, 155, 154, 130] S607 := uq_gr u600 g609 rfl
  have u650 : No [] S607 := no_gr (no_sub u601 rfl) g609 rfl
  have u651 : EmL E [157, 156, 155, 154] S607 G608 := em_gr u604 g609 rfl
  refine r_putFN hX hP rfl rfl fq_X8_71_143 s611 (by decide) (Or.inr n606l) (fun h652 => ?_)
  refine r_ex hX hP 2 (pc' := 157) (st' := [(0, 20), (2, this)]) (lo' := [(0, (2, this))]) rfl ?_
  have u653 : EmL E [157, 156, 155, 154] S607 (up G608 143 this 18 n606) := (em_up u651 rfl)
  have g654 : Gr [93, 94, 95, 96, 97, 98, 114, 115, 116, 117, 118, 130, 144, 153, 154, 155, 156, 157] [(143, 0), (143, 1), (143, 3), (143, 4), (143, 5), (143, 6), (143, 7), (143, 8), (143, 9), (143, 10), (143, 11), (143, 12), (143, 13), (143, 14), (143, 17), (143, 18), (143, 19), (144, 1), (144, 2), (144, 3), (144, 4), (144, 5), (144, 6), (144, 7), (144, 8), (144, 9), (144, 10), (144, 11), (144, 12), (144, 13), (144, 14), (144, 15), (144, 16), (144, 17), (153, 0), (153, 1)] S G S607 (up G608 143 this 18 n606) := (gr_up g648 rfl)
  refine r_newarrA hX hP rfl (L := 93) (n := 20) al_93 (by decide) rfl rfl rfl (tbg sg1 124 rfl rfl) (by decide) (by omega) (by omega) (fun n655 S656 G657 n655z n655n n655l g658 n655v => ?_)
  have z659 : S n655 = 0 := gr_zero g654 n655z
  have s660 : S656 this = 143 := gr_lab g658 s611 (by decide)
  have s661 : S656 n6 = 114 := gr_lab g658 s612 (by decide)
  have s662 : S656 n21 = 114 := gr_lab g658 s613 (by decide)
  have s663 : S656 n38 = 95 := gr_lab g658 s614 (by decide)
  have s664 : S656 n57 = 95 := gr_lab g658 s615 (by decide)
  have s665 : S656 n78 = 115 := gr_lab g658 s616 (by decide)
  have s666 : S656 n101 = 117 := gr_lab g658 s617 (by decide)
  have s667 : S656 n126 = 130 := gr_lab g658 s618 (by decide)
  have s668 : S656 n202 = 154 := gr_lab g658 s619 (by decide)
  have s669 : S656 n268 = 155 := gr_lab g658 s620 (by decide)
  have s670 : S656 n342 = 156 := gr_lab g658 s621 (by decide)
  have s671 : S656 n424 = 157 := gr_lab g658 s622 (by decide)
  have s672 : S656 n514 = 118 := gr_lab g658 s623 (by decide)
  have s673 : S656 n559 = 95 := gr_lab g658 s624 (by decide)
  have s674 : S656 n606 = 95 := gr_lab g658 n606l (by decide)
  have e675 : 40000 = G657 143 this 0 := gr_val g658 e625 s611 (by decide) rfl
  have e676 : 1 = G657 143 this 1 := gr_val g658 e626 s611 (by decide) rfl
  have e677 : n6 = G657 143 this 3 := gr_val g658 e627 s611 (by decide) rfl
  have e678 : n21 = G657 143 this 4 := gr_val g658 e628 s611 (by decide) rfl
  have e679 : n38 = G657 143 this 5 := gr_val g658 e629 s611 (by decide) rfl
  have e680 : n57 = G657 143 this 6 := gr_val g658 e630 s611 (by decide) rfl
  have e681 : n78 = G657 143 this 7 := gr_val g658 e631 s611 (by decide) rfl
  have e682 : n101 = G657 143 this 8 := gr_val g658 e632 s611 (by decide) rfl
  have e683 : n126 = G657 143 this 9 := gr_val g658 e633 s611 (by decide) rfl
  have e684 : (Ad E 0) = G657 154 n202 1 := gr_val g658 e634 s619 (by decide) rfl
  have e685 : sip235 = G657 154 n202 2 := gr_val g658 e635 s619 (by decide) rfl
  have e686 : n202 = G657 143 this 10 := gr_val g658 e636 s611 (by decide) rfl
  have e687 : (Ad E 0) = G657 155 n268 1 := gr_val g658 e637 s620 (by decide) rfl
  have e688 : sip305 = G657 155 n268 2 := gr_val g658 e638 s620 (by decide) rfl
  have e689 : n268 = G657 143 this 11 := gr_val g658 e639 s611 (by decide) rfl
  have e690 : (Ad E 0) = G657 156 n342 1 := gr_val g658 e640 s621 (by decide) rfl
  have e691 : sip383 = G657 156 n342 2 := gr_val g658 e641 s621 (by decide) rfl
  have e692 : n342 = G657 143 this 12 := gr_val g658 e642 s611 (by decide) rfl
  have e693 : (Ad E 0) = G657 157 n424 1 := gr_val g658 e643 s622 (by decide) rfl
  have e694 : sip469 = G657 157 n424 2 := gr_val g658 e644 s622 (by decide) rfl
  have e695 : n424 = G657 143 this 13 := gr_val g658 e645 s611 (by decide) rfl
  have e696 : n514 = G657 143 this 14 := gr_val g658 e646 s611 (by decide) rfl
  have e697 : n559 = G657 143 this 17 := gr_val g658 e647 s611 (by decide) rfl
  have e698 : n606 = G657 143 this 18 := gr_val g658 h652 s611 (by decide) rfl
  have g699 : Gr [93, 94, 95, 96, 97, 98, 114, 115, 116, 117, 118, 130, 144, 153, 154, 155, 156, 157] [(143, 0), (143, 1), (143, 3), (143, 4), (143, 5), (143, 6), (143, 7), (143, 8), (143, 9), (143, 10), (143, 11), (143, 12), (143, 13), (143, 14), (143, 17), (143, 18), (143, 19), (144, 1), (144, 2), (144, 3), (144, 4), (144, 5), (144, 6), (144, 7), (144, 8), (144, 9), (144, 10), (144, 11), (144, 12), (144, 13), (144, 14), (144, 15), (144, 16), (144, 17), (153, 0), (153, 1)] S G S656 G657 := gr_call g654 g658 rfl rfl
  have u700 : UqL [157, 156, 155, 154, 130] S656 := uq_gr u649 g658 rfl
  have u701 : No [] S656 := no_gr (no_sub u650 rfl) g658 rfl
  have u702 : EmL E [157, 156, 155, 154] S656 G657 := em_gr u653 g658 rfl
  refine r_putFN hX hP rfl rfl fq_X8_74_143 s660 (by decide) (Or.inr n655l) (fun h703 => ?_)
  refine r_finA hX (L := 143) (ci := 9) (fs := fs_143) rfl s660 (by decide) (fun hr704 => ?_)
  have hf705 : Fnl E fs_129 143 S656 (up G657 143 this 19 n655) this := by
    intro j hj
    rcases (by have : j < 20 := hj; omega : j = 0 ∨ j = 1 ∨ j = 2 ∨ j = 3 ∨ j = 4 ∨ j = 5 ∨ j = 6 ∨ j = 7 ∨ j = 8 ∨ j = 9 ∨ j = 10 ∨ j = 11 ∨ j = 12 ∨ j = 13 ∨ j = 14 ∨ j = 15 ∨ j = 16 ∨ j = 17 ∨ j = 18 ∨ j = 19) with rfl | rfl | rfl | rfl | rfl | rfl | rfl | rfl | rfl | rfl | rfl | rfl | rfl | rfl | rfl | rfl | rfl | rfl | rfl | rfl
    · exact hr704 0 (by decide)
    · exact hr704 1 (by decide)
    · exact hr704 2 (by decide)
    · exact ⟨lab_of e677 s661, by decide⟩
    · exact ⟨lab_of e678 s662, by decide⟩
    · exact ⟨lab_of e679 s663, by decide⟩
    · exact ⟨lab_of e680 s664, by decide⟩
    · exact ⟨lab_of e681 s665, by decide⟩
    · exact ⟨lab_of e682 s666, by decide⟩
    · exact ⟨lab_of e683 s667, by decide⟩
    · exact ⟨lab_of e686 s668, by decide⟩
    · exact ⟨lab_of e689 s669, by decide⟩
    · exact ⟨lab_of e692 s670, by decide⟩
    · exact ⟨lab_of e695 s671, by decide⟩
    · exact ⟨lab_of e696 s672, by decide⟩
    · exact hr704 15 (by decide)
    · exact hr704 16 (by decide)
    · exact ⟨lab_of e697 s673, by decide⟩
    · exact ⟨lab_of e698 s674, by decide⟩
    · exact ⟨lab_of h703 n655l, by decide⟩
  have u706 : EmL E [157, 156, 155, 154] S656 (up G657 143 this 19 n655) := (em_up u702 rfl)
  have g707 : Gr [93, 94, 95, 96, 97, 98, 114, 115, 116, 117, 118, 130, 144, 153, 154, 155, 156, 157] [(143, 0), (143, 1), (143, 3), (143, 4), (143, 5), (143, 6), (143, 7), (143, 8), (143, 9), (143, 10), (143, 11), (143, 12), (143, 13), (143, 14), (143, 17), (143, 18), (143, 19), (144, 1), (144, 2), (144, 3), (144, 4), (144, 5), (144, 6), (144, 7), (144, 8), (144, 9), (144, 10), (144, 11), (144, 12), (144, 13), (144, 14), (144, 15), (144, 16), (144, 17), (153, 0), (153, 1)] S G S656 (up G657 143 this 19 n655) := (gr_up g699 rfl)
  exact r_retV hX hP rfl rfl (by omega) (by omega) ⟨g707, rfl, u700, u706, hf705⟩
set_option maxRecDepth 100000 in
set_option maxHeartbeats 4000000 in
theorem c_X11_init (E : En) (S : Sg) (G : Gh) (this : Int) (hS : S this = 142) (uno : No [128, 129, 130, 131, 132, 154, 155, 156, 157, 158, 159, 136, 138] S) : Calls E mX11_init [(2, this)] S G 7 129 3278 (fun r S' G' => Gr [93, 94, 95, 96, 97, 98, 99, 105, 106, 107, 108, 109, 110, 111, 112, 113, 114, 115, 116, 117, 118, 129, 130, 131, 132, 134, 143, 144, 145, 146, 148, 153, 154, 155, 156, 157, 158, 159] [(142, 4), (142, 5), (142, 6), (142, 7), (142, 8), (142, 9), (142, 10), (142, 11), (142, 12), (142, 13), (142, 14), (142, 15), (142, 16), (142, 17), (142, 18), (143, 0), (143, 1), (143, 3), (143, 4), (143, 5), (143, 6), (143, 7), (143, 8), (143, 9), (143, 10), (143, 11), (143, 12), (143, 13), (143, 14), (143, 17), (143, 18), (143, 19), (144, 1), (144, 2), (144, 3), (144, 4), (144, 5), (144, 6), (144, 7), (144, 8), (144, 9), (144, 10), (144, 11), (144, 12), (144, 13), (144, 14), (144, 15), (144, 16), (144, 17), (145, 1), (145, 2), (145, 3), (145, 12), (145, 15), (145, 16), (146, 5), (146, 6), (146, 7), (146, 8), (146, 9), (146, 10), (146, 11), (146, 13), (146, 14), (146, 15), (146, 16), (148, 1), (148, 3), (148, 4), (148, 5), (153, 0), (153, 1)] S G S' G' ∧ r = none ∧ UqL [132, 131, 159, 158, 129, 157, 156, 155, 154, 130] S' ∧ EmL E [159, 158, 157, 156, 155, 154] S' G' ∧ No [128, 136, 138] S' ∧ Fnl E fs_128 142 S' G' this) := by
  refine calls_by [(0, (2, this))] rfl rfl (Nat.le_of_ble_eq_true rfl) (fun X hX => ?_)
  have hP := hPX11_init
  refine r_ex hX hP 1 (pc' := 1) (st' := [(2, this)]) (lo' := [(0, (2, this))]) rfl ?_
  refine r_nn hX hS (by decide) (fun p1 => ?_)
  refine r_objI hX hP rfl (tbg sg1 32 rfl rfl) (tbg sg1 33 rfl rfl) (tbg sg1 34 rfl rfl) p1 (by omega) (Nat.le_of_ble_eq_true rfl) ?_
  refine r_ex hX hP 2 (pc' := 6) (st' := [(1, 1), (2, this)]) (lo' := [(0, (2, this))]) rfl ?_
  refine r_putLK hX hP rfl fp_X11_9_142 hS (by omega) (by omega) (fun h2 => ?_)
  refine r_ex hX hP 1 (pc' := 10) (st' := [(2, this)]) (lo' := [(0, (2, this))]) rfl ?_
  have u3 : EmL E [] S (up G 142 this 4 1) := (em_up (em_nil E S G) rfl)
  have g4 : Gr [93, 94, 95, 96, 97, 98, 99, 105, 106, 107, 108, 109, 110, 111, 112, 113, 114, 115, 116, 117, 118, 129, 130, 131, 132, 134, 143, 144, 145, 146, 148, 153, 154, 155, 156, 157, 158, 159] [(142, 4), (142, 5), (142, 6), (142, 7), (142, 8), (142, 9), (142, 10), (142, 11), (142, 12), (142, 13), (142, 14), (142, 15), (142, 16), (142, 17), (142, 18), (143, 0), (143, 1), (143, 3), (143, 4), (143, 5), (143, 6), (143, 7), (143, 8), (143, 9), (143, 10), (143, 11), (143, 12), (143, 13), (143, 14), (143, 17), (143, 18), (143, 19), (144, 1), (144, 2), (144, 3), (144, 4), (144, 5), (144, 6), (144, 7), (144, 8), (144, 9), (144, 10), (144, 11), (144, 12), (144, 13), (144, 14), (144, 15), (144, 16), (144, 17), (145, 1), (145, 2), (145, 3), (145, 12), (145, 15), (145, 16), (146, 5), (146, 6), (146, 7), (146, 8), (146, 9), (146, 10), (146, 11), (146, 13), (146, 14), (146, 15), (146, 16), (148, 1), (148, 3), (148, 4), (148, 5), (153, 0), (153, 1)] S G S (up G 142 this 4 1) := (gr_up (gr_refl [93, 94, 95, 96, 97, 98, 99, 105, 106, 107, 108, 109, 110, 111, 112, 113, 114, 115, 116, 117, 118, 129, 130, 131, 132, 134, 143, 144, 145, 146, 148, 153, 154, 155, 156, 157, 158, 159] [(142, 4), (142, 5), (142, 6), (142, 7), (142, 8), (142, 9), (142, 10), (142, 11), (142, 12), (142, 13), (142, 14), (142, 15), (142, 16), (142, 17), (142, 18), (143, 0), (143, 1), (143, 3), (143, 4), (143, 5), (143, 6), (143, 7), (143, 8), (143, 9), (143, 10), (143, 11), (143, 12), (143, 13), (143, 14), (143, 17), (143, 18), (143, 19), (144, 1), (144, 2), (144, 3), (144, 4), (144, 5), (144, 6), (144, 7), (144, 8), (144, 9), (144, 10), (144, 11), (144, 12), (144, 13), (144, 14), (144, 15), (144, 16), (144, 17), (145, 1), (145, 2), (145, 3), (145, 12), (145, 15), (145, 16), (146, 5), (146, 6), (146, 7), (146, 8), (146, 9), (146, 10), (146, 11), (146, 13), (146, 14), (146, 15), (146, 16), (148, 1), (148, 3), (148, 4), (148, 5), (153, 0), (153, 1)] S G) rfl)
  refine r_newA hX hP rfl (L := 143) (N := 20) nw_X11_13_143 (by omega) (by omega) (fun n5 S6 G7 n5z n5n n5l g8 n5v => ?_)
  have z9 : S n5 = 0 := gr_zero g4 n5z
  have s10 : S6 this = 142 := gr_lab g8 hS (by decide)
  have e11 : 1 = G7 142 this 4 := gr_val g8 h2 hS (by decide) rfl
  have g12 : Gr [93, 94, 95, 96, 97, 98, 99, 105, 106, 107, 108, 109, 110, 111, 112, 113, 114, 115, 116, 117, 118, 129, 130, 131, 132, 134, 143, 144, 145, 146, 148, 153, 154, 155, 156, 157, 158, 159] [(142, 4), (142, 5), (142, 6), (142, 7), (142, 8), (142, 9), (142, 10), (142, 11), (142, 12), (142, 13), (142, 14), (142, 15), (142, 16), (142, 17), (142, 18), (143, 0), (143, 1), (143, 3), (143, 4), (143, 5), (143, 6), (143, 7), (143, 8), (143, 9), (143, 10), (143, 11), (143, 12), (143, 13), (143, 14), (143, 17), (143, 18), (143, 19), (144, 1), (144, 2), (144, 3), (144, 4), (144, 5), (144, 6), (144, 7), (144, 8), (144, 9), (144, 10), (144, 11), (144, 12), (144, 13), (144, 14), (144, 15), (144, 16), (144, 17), (145, 1), (145, 2), (145, 3), (145, 12), (145, 15), (145, 16), (146, 5), (146, 6), (146, 7), (146, 8), (146, 9), (146, 10), (146, 11), (146, 13), (146, 14), (146, 15), (146, 16), (148, 1), (148, 3), (148, 4), (148, 5), (153, 0), (153, 1)] S G S6 G7 := gr_call g4 g8 rfl rfl
  have u13 : UqL [] S6 := uq_gr (uq_nil S) g8 rfl
  have u14 : No [128, 129, 130, 131, 132, 154, 155, 156, 157, 158, 159, 136, 138] S6 := no_gr (no_sub uno rfl) g8 rfl
  have u15 : EmL E [] S6 G7 := em_gr u3 g8 rfl
  refine r_ex hX hP 1 (pc' := 14) (st' := [(2, n5), (2, n5), (2, this)]) (lo' := [(0, (2, this))]) rfl ?_
  refine r_callI gd hX hP rfl ci_X11_15 n5n (d' := 6) (mc' := 96) (ms' := 2554) (as' := []) (st := [(2, n5), (2, this)]) (by omega) (by omega) (by omega) rfl rfl (Nat.le_of_ble_eq_true rfl) (c_X8_init E S6 G7 n5  n5l (no_sub u14 rfl)) ?_
  rintro _ S16 G17 ⟨g18, rfl, q19, q20, hf21⟩
  have s22 : S16 this = 142 := gr_lab g18 s10 (by decide)
  have s23 : S16 n5 = 143 := gr_lab g18 n5l (by decide)
  have e24 : 1 = G17 142 this 4 := gr_val g18 e11 s10 (by decide) rfl
  have g25 : Gr [93, 94, 95, 96, 97, 98, 99, 105, 106, 107, 108, 109, 110, 111, 112, 113, 114, 115, 116, 117, 118, 129, 130, 131, 132, 134, 143, 144, 145, 146, 148, 153, 154, 155, 156, 157, 158, 159] [(142, 4), (142, 5), (142, 6), (142, 7), (142, 8), (142, 9), (142, 10), (142, 11), (142, 12), (142, 13), (142, 14), (142, 15), (142, 16), (142, 17), (142, 18), (143, 0), (143, 1), (143, 3), (143, 4), (143, 5), (143, 6), (143, 7), (143, 8), (143, 9), (143, 10), (143, 11), (143, 12), (143, 13), (143, 14), (143, 17), (143, 18), (143, 19), (144, 1), (144, 2), (144, 3), (144, 4), (144, 5), (144, 6), (144, 7), (144, 8), (144, 9), (144, 10), (144, 11), (144, 12), (144, 13), (144, 14), (144, 15), (144, 16), (144, 17), (145, 1), (145, 2), (145, 3), (145, 12), (145, 15), (145, 16), (146, 5), (146, 6), (146, 7), (146, 8), (146, 9), (146, 10), (146, 11), (146, 13), (146, 14), (146, 15), (146, 16), (148, 1), (148, 3), (148, 4), (148, 5), (153, 0), (153, 1)] S G S16 G17 := gr_call g12 g18 rfl rfl
  have u26 : UqL [] S16 := uq_gr u13 g18 rfl
  have u27 : No [128, 129, 131, 132, 158, 159, 136, 138] S16 := no_gr (no_sub u14 rfl) g18 rfl
  have u28 : EmL E [] S16 G17 := em_gr u15 g18 rfl
  have u29 : UqL [157, 156, 155, 154, 130] S16 := uq_app q19 u26
  have u30 : EmL E [157, 156, 155, 154] S16 G17 := em_app q20 u28
  refine r_finA hX (L := 143) (ci := 9) (fs := fs_143) rfl s23 (by decide) (fun hr31 => ?_)
  refine r_relabF hX (L := 143) (L' := 129) (ci := 9) (fs := fs_143) (fs' := fs_129) rfl rfl rfl (by decide) (by decide) nf_143 (by decide) s23 hf21 (fun S34 G35 r33 => ?_)
  have s37 : S34 this = 142 := r33.lab s23 s22 (by decide)
  have e38 : 1 = G35 142 this 4 := rs_val r33 s23 e24 s22 (by decide)
  have g39 : Gr [93, 94, 95, 96, 97, 98, 99, 105, 106, 107, 108, 109, 110, 111, 112, 113, 114, 115, 116, 117, 118, 129, 130, 131, 132, 134, 143, 144, 145, 146, 148, 153, 154, 155, 156, 157, 158, 159] [(142, 4), (142, 5), (142, 6), (142, 7), (142, 8), (142, 9), (142, 10), (142, 11), (142, 12), (142, 13), (142, 14), (142, 15), (142, 16), (142, 17), (142, 18), (143, 0), (143, 1), (143, 3), (143, 4), (143, 5), (143, 6), (143, 7), (143, 8), (143, 9), (143, 10), (143, 11), (143, 12), (143, 13), (143, 14), (143, 17), (143, 18), (143, 19), (144, 1), (144, 2), (144, 3), (144, 4), (144, 5), (144, 6), (144, 7), (144, 8), (144, 9), (144, 10), (144, 11), (144, 12), (144, 13), (144, 14), (144, 15), (144, 16), (144, 17), (145, 1), (145, 2), (145, 3), (145, 12), (145, 15), (145, 16), (146, 5), (146, 6), (146, 7), (146, 8), (146, 9), (146, 10), (146, 11), (146, 13), (146, 14), (146, 15), (146, 16), (148, 1), (148, 3), (148, 4), (148, 5), (153, 0), (153, 1)] S G S34 G35 := gr_rs g25 r33 z9 rfl
  have u40 : UqL [129, 157, 156, 155, 154, 130] S34 := uq_rs u29 (no_sub u27 rfl) r33 rfl
  have u41 : EmL E [157, 156, 155, 154] S34 G35 := em_rsN u30 r33 rfl
  have u42 : No [128, 131, 132, 158, 159, 136, 138] S34 := no_rs u27 r33 rfl
  refine r_putFN hX hP rfl rfl fq_X11_16_142 s37 (by decide) (Or.inr r33.1) (fun h43 => ?_)
  refine r_ex hX hP 2 (pc' := 22) (st' := [(2, this), (2, this)]) (lo' := [(0, (2, this))]) rfl ?_
  refine r_getKN hX hP rfl fl_X11_16_142 s37 (x := n5) h43 ?_
  refine r_getR hX hP rfl fl_X11_20_129 r33.1 (fun af44 af44e af44s => ?_)
  refine r_putFN hX hP rfl rfl fq_X11_24_142 s37 (by decide) (Or.inr af44s) (fun h45 => ?_)
  refine r_ex hX hP 2 (pc' := 33) (st' := [(2, this), (2, this)]) (lo' := [(0, (2, this))]) rfl ?_
  refine r_getKN hX hP rfl fl_X11_16_142 s37 (x := n5) h43 ?_
  refine r_getR hX hP rfl fl_X11_25_129 r33.1 (fun if46 if46e if46s => ?_)
  refine r_putFN hX hP rfl rfl fq_X11_29_142 s37 (by decide) (Or.inr if46s) (fun h47 => ?_)
  refine r_ex hX hP 2 (pc' := 44) (st' := [(2, this), (2, this)]) (lo' := [(0, (2, this))]) rfl ?_
  refine r_getKN hX hP rfl fl_X11_16_142 s37 (x := n5) h43 ?_
  refine r_getR hX hP rfl fl_X11_30_129 r33.1 (fun tf48 tf48e tf48s => ?_)
  refine r_putFN hX hP rfl rfl fq_X11_33_142 s37 (by decide) (Or.inr tf48s) (fun h49 => ?_)
  refine r_ex hX hP 2 (pc' := 55) (st' := [(2, this), (2, this)]) (lo' := [(0, (2, this))]) rfl ?_
  refine r_getKN hX hP rfl fl_X11_16_142 s37 (x := n5) h43 ?_
  refine r_getR hX hP rfl fl_X11_34_129 r33.1 (fun ef50 ef50e ef50s => ?_)
  refine r_putFN hX hP rfl rfl fq_X11_37_142 s37 (by decide) (Or.inr ef50s) (fun h51 => ?_)
  refine r_ex hX hP 2 (pc' := 66) (st' := [(2, this), (2, this)]) (lo' := [(0, (2, this))]) rfl ?_
  refine r_getKN hX hP rfl fl_X11_16_142 s37 (x := n5) h43 ?_
  refine r_getR hX hP rfl fl_X11_38_129 r33.1 (fun pf52 pf52e pf52s => ?_)
  refine r_putFN hX hP rfl rfl fq_X11_41_142 s37 (by decide) (Or.inr pf52s) (fun h53 => ?_)
  refine r_ex hX hP 1 (pc' := 76) (st' := [(2, this)]) (lo' := [(0, (2, this))]) rfl ?_
  have u54 : EmL E [157, 156, 155, 154] S34 (up (up (up (up (up (up G35 142 this 17 n5) 142 this 5 af44) 142 this 6 if46) 142 this 7 tf48) 142 this 8 ef50) 142 this 9 pf52) := (em_up (em_up (em_up (em_up (em_up (em_up u41 rfl) rfl) rfl) rfl) rfl) rfl)
  have g55 : Gr [93, 94, 95, 96, 97, 98, 99, 105, 106, 107, 108, 109, 110, 111, 112, 113, 114, 115, 116, 117, 118, 129, 130, 131, 132, 134, 143, 144, 145, 146, 148, 153, 154, 155, 156, 157, 158, 159] [(142, 4), (142, 5), (142, 6), (142, 7), (142, 8), (142, 9), (142, 10), (142, 11), (142, 12), (142, 13), (142, 14), (142, 15), (142, 16), (142, 17), (142, 18), (143, 0), (143, 1), (143, 3), (143, 4), (143, 5), (143, 6), (143, 7), (143, 8), (143, 9), (143, 10), (143, 11), (143, 12), (143, 13), (143, 14), (143, 17), (143, 18), (143, 19), (144, 1), (144, 2), (144, 3), (144, 4), (144, 5), (144, 6), (144, 7), (144, 8), (144, 9), (144, 10), (144, 11), (144, 12), (144, 13), (144, 14), (144, 15), (144, 16), (144, 17), (145, 1), (145, 2), (145, 3), (145, 12), (145, 15), (145, 16), (146, 5), (146, 6), (146, 7), (146, 8), (146, 9), (146, 10), (146, 11), (146, 13), (146, 14), (146, 15), (146, 16), (148, 1), (148, 3), (148, 4), (148, 5), (153, 0), (153, 1)] S G S34 (up (up (up (up (up (up G35 142 this 17 n5) 142 this 5 af44) 142 this 6 if46) 142 this 7 tf48) 142 this 8 ef50) 142 this 9 pf52) := (gr_up (gr_up (gr_up (gr_up (gr_up (gr_up g39 rfl) rfl) rfl) rfl) rfl) rfl)
  refine r_newA hX hP rfl (L := 153) (N := 3) nw_X11_42_153 (by omega) (by omega) (fun n56 S57 G58 n56z n56n n56l g59 n56v => ?_)
  have z60 : S n56 = 0 := gr_zero g55 n56z
  have s61 : S57 this = 142 := gr_lab g59 s37 (by decide)
  have s62 : S57 n5 = 129 := gr_lab g59 r33.1 (by decide)
  have s63 : S57 af44 = 130 := gr_lab g59 af44s (by decide)
  have s64 : S57 if46 = 154 := gr_lab g59 if46s (by decide)
  have s65 : S57 tf48 = 155 := gr_lab g59 tf48s (by decide)
  have s66 : S57 ef50 = 156 := gr_lab g59 ef50s (by decide)
  have s67 : S57 pf52 = 157 := gr_lab g59 pf52s (by decide)
  have e68 : 1 = G58 142 this 4 := gr_val g59 e38 s37 (by decide) rfl
  have e69 : n5 = G58 142 this 17 := gr_val g59 h43 s37 (by decide) rfl
  have e70 : af44 = G58 129 n5 9 := gr_val g59 af44e r33.1 (by decide) rfl
  have e71 : af44 = G58 142 this 5 := gr_val g59 h45 s37 (by decide) rfl
  have e72 : if46 = G58 129 n5 10 := gr_val g59 if46e r33.1 (by decide) rfl
  have e73 : if46 = G58 142 this 6 := gr_val g59 h47 s37 (by decide) rfl
  have e74 : tf48 = G58 129 n5 11 := gr_val g59 tf48e r33.1 (by decide) rfl
  have e75 : tf48 = G58 142 this 7 := gr_val g59 h49 s37 (by decide) rfl
  have e76 : ef50 = G58 129 n5 12 := gr_val g59 ef50e r33.1 (by decide) rfl
  have e77 : ef50 = G58 142 this 8 := gr_val g59 h51 s37 (by decide) rfl
  have e78 : pf52 = G58 129 n5 13 := gr_val g59 pf52e r33.1 (by decide) rfl
  have e79 : pf52 = G58 142 this 9 := gr_val g59 h53 s37 (by decide) rfl
  have g80 : Gr [93, 94, 95, 96, 97, 98, 99, 105, 106, 107, 108, 109, 110, 111, 112, 113, 114, 115, 116, 117, 118, 129, 130, 131, 132, 134, 143, 144, 145, 146, 148, 153, 154, 155, 156, 157, 158, 159] [(142, 4), (142, 5), (142, 6), (142, 7), (142, 8), (142, 9), (142, 10), (142, 11), (142, 12), (142, 13), (142, 14), (142, 15), (142, 16), (142, 17), (142, 18), (143, 0), (143, 1), (143, 3), (143, 4), (143, 5), (143, 6), (143, 7), (143, 8), (143, 9), (143, 10), (143, 11), (143, 12), (143, 13), (143, 14), (143, 17), (143, 18), (143, 19), (144, 1), (144, 2), (144, 3), (144, 4), (144, 5), (144, 6), (144, 7), (144, 8), (144, 9), (144, 10), (144, 11), (144, 12), (144, 13), (144, 14), (144, 15), (144, 16), (144, 17), (145, 1), (145, 2), (145, 3), (145, 12), (145, 15), (145, 16), (146, 5), (146, 6), (146, 7), (146, 8), (146, 9), (146, 10), (146, 11), (146, 13), (146, 14), (146, 15), (146, 16), (148, 1), (148, 3), (148, 4), (148, 5), (153, 0), (153, 1)] S G S57 G58 := gr_call g55 g59 rfl rfl
  have u81 : UqL [129, 157, 156, 155, 154, 130] S57 := uq_gr u40 g59 rfl
  have u82 : No [128, 131, 132, 158, 159, 136, 138] S57 := no_gr (no_sub u42 rfl) g59 rfl
  have u83 : EmL E [157, 156, 155, 154] S57 G58 := em_gr u54 g59 rfl
  refine r_ex hX hP 1 (pc' := 80) (st' := [(2, n56), (2, n56), (2, this)]) (lo' := [(0, (2, this))]) rfl ?_
  refine r_callI gd hX hP rfl ci_X11_44 n56n (d' := 5) (mc' := 0) (ms' := 0) (as' := []) (st := [(2, n56), (2, this)]) (by omega) (by omega) (by omega) rfl rfl (Nat.le_of_ble_eq_true rfl) (c_Jx4a65c_init_da8c8 E S57 G58 n56  n56l) ?_
  rintro _ _ _ ⟨rfl, ⟨G84, rfl⟩, rfl, elh85, elh85e, f86⟩
  have e88 : Ad E 0 = (hw [(153, 0), (153, 1)] G58 G84) 153 n56 1 := by rw [← f86]; exact elh85e
  have u89 : EmL E [157, 156, 155, 154] S57 (hw [(153, 0), (153, 1)] G58 G84) := (em_hw u83 rfl)
  have g90 : Gr [93, 94, 95, 96, 97, 98, 99, 105, 106, 107, 108, 109, 110, 111, 112, 113, 114, 115, 116, 117, 118, 129, 130, 131, 132, 134, 143, 144, 145, 146, 148, 153, 154, 155, 156, 157, 158, 159] [(142, 4), (142, 5), (142, 6), (142, 7), (142, 8), (142, 9), (142, 10), (142, 11), (142, 12), (142, 13), (142, 14), (142, 15), (142, 16), (142, 17), (142, 18), (143, 0), (143, 1), (143, 3), (143, 4), (143, 5), (143, 6), (143, 7), (143, 8), (143, 9), (143, 10), (143, 11), (143, 12), (143, 13), (143, 14), (143, 17), (143, 18), (143, 19), (144, 1), (144, 2), (144, 3), (144, 4), (144, 5), (144, 6), (144, 7), (144, 8), (144, 9), (144, 10), (144, 11), (144, 12), (144, 13), (144, 14), (144, 15), (144, 16), (144, 17), (145, 1), (145, 2), (145, 3), (145, 12), (145, 15), (145, 16), (146, 5), (146, 6), (146, 7), (146, 8), (146, 9), (146, 10), (146, 11), (146, 13), (146, 14), (146, 15), (146, 16), (148, 1), (148, 3), (148, 4), (148, 5), (153, 0), (153, 1)] S G S57 (hw [(153, 0), (153, 1)] G58 G84) := (gr_hw g80 rfl)
  refine r_peekI hX (tl_153 2 rfl (by decide)) n56l (fun sip91 sip91e sip91a sip91b => ?_)
  refine r_finA hX (L := 153) (ci := 0) (fs := fs_153) rfl n56l (by decide) (fun hr92 => ?_)
  have hf93 : Fnl E fs_158 153 S57 (hw [(153, 0), (153, 1)] G58 G84) n56 := by
    intro j hj
    rcases (by have : j < 3 := hj; omega : j = 0 ∨ j = 1 ∨ j = 2) with rfl | rfl | rfl
    · exact hr92 0 (by decide)
    · exact Or.inl e88.symm
    · have e := sip91e; show (0 : Int) ≤ (hw [(153, 0), (153, 1)] G58 G84) 153 n56 2 ∧ (hw [(153, 0), (153, 1)] G58 G84) 153 n56 2 ≤ 10; omega
  refine r_relabF hX (L := 153) (L' := 158) (ci := 0) (fs := fs_153) (fs' := fs_158) rfl rfl rfl (by decide) (by decide) nf_153 (by decide) n56l hf93 (fun S95 G96 r94 => ?_)
  have s98 : S95 this = 142 := r94.lab n56l s61 (by decide)
  have s99 : S95 n5 = 129 := r94.lab n56l s62 (by decide)
  have s100 : S95 af44 = 130 := r94.lab n56l s63 (by decide)
  have s101 : S95 if46 = 154 := r94.lab n56l s64 (by decide)
  have s102 : S95 tf48 = 155 := r94.lab n56l s65 (by decide)
  have s103 : S95 ef50 = 156 := r94.lab n56l s66 (by decide)
  have s104 : S95 pf52 = 157 := r94.lab n56l s67 (by decide)
  have e105 : 1 = G96 142 this 4 := rs_val r94 n56l e68 s61 (by decide)
  have e106 : n5 = G96 142 this 17 := rs_val r94 n56l e69 s61 (by decide)
  have e107 : af44 = G96 129 n5 9 := rs_val r94 n56l e70 s62 (by decide)
  have e108 : af44 = G96 142 this 5 := rs_val r94 n56l e71 s61 (by decide)
  have e109 : if46 = G96 129 n5 10 := rs_val r94 n56l e72 s62 (by decide)
  have e110 : if46 = G96 142 this 6 := rs_val r94 n56l e73 s61 (by decide)
  have e111 : tf48 = G96 129 n5 11 := rs_val r94 n56l e74 s62 (by decide)
  have e112 : tf48 = G96 142 this 7 := rs_val r94 n56l e75 s61 (by decide)
  have e113 : ef50 = G96 129 n5 12 := rs_val r94 n56l e76 s62 (by decide)
  have e114 : ef50 = G96 142 this 8 := rs_val r94 n56l e77 s61 (by decide)
  have e115 : pf52 = G96 129 n5 13 := rs_val r94 n56l e78 s62 (by decide)
  have e116 : pf52 = G96 142 this 9 := rs_val r94 n56l e79 s61 (by decide)
  have e117 : (Ad E 0) = G96 158 n56 1 := e88.trans (r94.2.2.1 1).symm
  have e118 : sip91 = G96 158 n56 2 := sip91e.trans (r94.2.2.1 2).symm
  have g119 : Gr [93, 94, 95, 96, 97, 98, 99, 105, 106, 107, 108, 109, 110, 111, 112, 113, 114, 115, 116, 117, 118, 129, 130, 131, 132, 134, 143, 144, 145, 146, 148, 153, 154, 155, 156, 157, 158, 159] [(142, 4), (142, 5), (142, 6), (142, 7), (142, 8), (142, 9), (142, 10), (142, 11), (142, 12), (142, 13), (142, 14), (142, 15), (142, 16), (142, 17), (142, 18), (143, 0), (143, 1), (143, 3), (143, 4), (143, 5), (143, 6), (143, 7), (143, 8), (143, 9), (143, 10), (143, 11), (143, 12), (143, 13), (143, 14), (143, 17), (143, 18), (143, 19), (144, 1), (144, 2), (144, 3), (144, 4), (144, 5), (144, 6), (144, 7), (144, 8), (144, 9), (144, 10), (144, 11), (144, 12), (144, 13), (144, 14), (144, 15), (144, 16), (144, 17), (145, 1), (145, 2), (145, 3), (145, 12), (145, 15), (145, 16), (146, 5), (146, 6), (146, 7), (146, 8), (146, 9), (146, 10), (146, 11), (146, 13), (146, 14), (146, 15), (146, 16), (148, 1), (148, 3), (148, 4), (148, 5), (153, 0), (153, 1)] S G S95 G96 := gr_rs g90 r94 z60 rfl
  have u120 : UqL [158, 129, 157, 156, 155, 154, 130] S95 := uq_rs u81 (no_sub u82 rfl) r94 rfl
  have u121 : EmL E [158, 157, 156, 155, 154] S95 G96 := em_rs u89 (no_sub u82 rfl) r94 e88 (by have e := sip91e; omega) rfl
  have u122 : No [128, 131, 132, 159, 136, 138] S95 := no_rs u82 r94 rfl
  refine r_putFN hX hP rfl rfl fq_X11_45_142 s98 (by decide) (Or.inr r94.1) (fun h123 => ?_)
  refine r_ex hX hP 1 (pc' := 87) (st' := [(2, this)]) (lo' := [(0, (2, this))]) rfl ?_
  have u124 : EmL E [158, 157, 156, 155, 154] S95 (up G96 142 this 10 n56) := (em_up u121 rfl)
  have g125 : Gr [93, 94, 95, 96, 97, 98, 99, 105, 106, 107, 108, 109, 110, 111, 112, 113, 114, 115, 116, 117, 118, 129, 130, 131, 132, 134, 143, 144, 145, 146, 148, 153, 154, 155, 156, 157, 158, 159] [(142, 4), (142, 5), (142, 6), (142, 7), (142, 8), (142, 9), (142, 10), (142, 11), (142, 12), (142, 13), (142, 14), (142, 15), (142, 16), (142, 17), (142, 18), (143, 0), (143, 1), (143, 3), (143, 4), (143, 5), (143, 6), (143, 7), (143, 8), (143, 9), (143, 10), (143, 11), (143, 12), (143, 13), (143, 14), (143, 17), (143, 18), (143, 19), (144, 1), (144, 2), (144, 3), (144, 4), (144, 5), (144, 6), (144, 7), (144, 8), (144, 9), (144, 10), (144, 11), (144, 12), (144, 13), (144, 14), (144, 15), (144, 16), (144, 17), (145, 1), (145, 2), (145, 3), (145, 12), (145, 15), (145, 16), (146, 5), (146, 6), (146, 7), (146, 8), (146, 9), (146, 10), (146, 11), (146, 13), (146, 14), (146, 15), (146, 16), (148, 1), (148, 3), (148, 4), (148, 5), (153, 0), (153, 1)] S G S95 (up G96 142 this 10 n56) := (gr_up g119 rfl)
  refine r_newA hX hP rfl (L := 153) (N := 3) nw_X11_42_153 (by omega) (by omega) (fun n126 S127 G128 n126z n126n n126l g129 n126v => ?_)
  have z130 : S n126 = 0 := gr_zero g125 n126z
  have s131 : S127 this = 142 := gr_lab g129 s98 (by decide)
  have s132 : S127 n5 = 129 := gr_lab g129 s99 (by decide)
  have s133 : S127 af44 = 130 := gr_lab g129 s100 (by decide)
  have s134 : S127 if46 = 154 := gr_lab g129 s101 (by decide)
  have s135 : S127 tf48 = 155 := gr_lab g129 s102 (by decide)
  have s136 : S127 ef50 = 156 := gr_lab g129 s103 (by decide)
  have s137 : S127 pf52 = 157 := gr_lab g129 s104 (by decide)
  have s138 : S127 n56 = 158 := gr_lab g129 r94.1 (by decide)
  have e139 : 1 = G128 142 this 4 := gr_val g129 e105 s98 (by decide) rfl
  have e140 : n5 = G128 142 this 17 := gr_val g129 e106 s98 (by decide) rfl
  have e141 : af44 = G128 129 n5 9 := gr_val g129 e107 s99 (by decide) rfl
  have e142 : af44 = G128 142 this 5 := gr_val g129 e108 s98 (by decide) rfl
  have e143 : if46 = G128 129 n5 10 := gr_val g129 e109 s99 (by decide) rfl
  have e144 : if46 = G128 142 this 6 := gr_val g129 e110 s98 (by decide) rfl
  have e145 : tf48 = G128 129 n5 11 := gr_val g129 e111 s99 (by decide) rfl
  have e146 : tf48 = G128 142 this 7 := gr_val g129 e112 s98 (by decide) rfl
  have e147 : ef50 = G128 129 n5 12 := gr_val g129 e113 s99 (by decide) rfl
  have e148 : ef50 = G128 142 this 8 := gr_val g129 e114 s98 (by decide) rfl
  have e149 : pf52 = G128 129 n5 13 := gr_val g129 e115 s99 (by decide) rfl
  have e150 : pf52 = G128 142 this 9 := gr_val g129 e116 s98 (by decide) rfl
  have e151 : (Ad E 0) = G128 158 n56 1 := gr_val g129 e117 r94.1 (by decide) rfl
  have e152 : sip91 = G128 158 n56 2 := gr_val g129 e118 r94.1 (by decide) rfl
  have e153 : n56 = G128 142 this 10 := gr_val g129 h123 s98 (by decide) rfl
  have g154 : Gr [93, 94, 95, 96, 97, 98, 99, 105, 106, 107, 108, 109, 110, 111, 112, 113, 114, 115, 116, 117, 118, 129, 130, 131, 132, 134, 143, 144, 145, 146, 148, 153, 154, 155, 156, 157, 158, 159] [(142, 4), (142, 5), (142, 6), (142, 7), (142, 8), (142, 9), (142, 10), (142, 11), (142, 12), (142, 13), (142, 14), (142, 15), (142, 16), (142, 17), (142, 18), (143, 0), (143, 1), (143, 3), (143, 4), (143, 5), (143, 6), (143, 7), (143, 8), (143, 9), (143, 10), (143, 11), (143, 12), (143, 13), (143, 14), (143, 17), (143, 18), (143, 19), (144, 1), (144, 2), (144, 3), (144, 4), (144, 5), (144, 6), (144, 7), (144, 8), (144, 9), (144, 10), (144, 11), (144, 12), (144, 13), (144, 14), (144, 15), (144, 16), (144, 17), (145, 1), (145, 2), (145, 3), (145, 12), (145, 15), (145, 16), (146, 5), (146, 6), (146, 7), (146, 8), (146, 9), (146, 10), (146, 11), (146, 13), (146, 14), (146, 15), (146, 16), (148, 1), (148, 3), (148, 4), (148, 5), (153, 0), (153, 1)] S G S127 G128 := gr_call g125 g129 rfl rfl
  have u155 : UqL [158, 129, 157, 156, 155, 154, 130] S127 := uq_gr u120 g129 rfl
  have u156 : No [128, 131, 132, 159, 136, 138] S127 := no_gr (no_sub u122 rfl) g129 rfl
  have u157 : EmL E [158, 157, 156, 155, 154] S127 G128 := em_gr u124 g129 rfl
  refine r_ex hX hP 1 (pc' := 91) (st' := [(2, n126), (2, n126), (2, this)]) (lo' := [(0, (2, this))]) rfl ?_
  refine r_callI gd hX hP rfl ci_X11_44 n126n (d' := 5) (mc' := 0) (ms' := 0) (as' := []) (st := [(2, n126), (2, this)]) (by omega) (by omega) (by omega) rfl rfl (Nat.le_of_ble_eq_true rfl) (c_Jx4a65c_init_da8c8 E S127 G128 n126  n126l) ?_
  rintro _ _ _ ⟨rfl, ⟨G158, rfl⟩, rfl, elh159, elh159e, f160⟩
  have e162 : Ad E 0 = (hw [(153, 0), (153, 1)] G128 G158) 153 n126 1 := by rw [← f160]; exact elh159e
  have u163 : EmL E [158, 157, 156, 155, 154] S127 (hw [(153, 0), (153, 1)] G128 G158) := (em_hw u157 rfl)
  have g164 : Gr [93, 94, 95, 96, 97, 98, 99, 105, 106, 107, 108, 109, 110, 111, 112, 113, 114, 115, 116, 117, 118, 129, 130, 131, 132, 134, 143, 144, 145, 146, 148, 153, 154, 155, 156, 157, 158, 159] [(142, 4), (142, 5), (142, 6), (142, 7), (142, 8), (142, 9), (142, 10), (142, 11), (142, 12), (142, 13), (142, 14), (142, 15), (142, 16), (142, 17), (142, 18), (143, 0), (143, 1), (143, 3), (143, 4), (143, 5), (143, 6), (143, 7), (143, 8), (143, 9), (143, 10), (143, 11), (143, 12), (143, 13), (143, 14), (143, 17), (143, 18), (143, 19), (144, 1), (144, 2), (144, 3), (144, 4), (144, 5), (144, 6), (144, 7), (144, 8), (144, 9), (144, 10), (144, 11), (144, 12), (144, 13), (144, 14), (144, 15), (144, 16), (144, 17), (145, 1), (145, 2), (145, 3), (145, 12), (145, 15), (145, 16), (146, 5), (146, 6), (146, 7), (146, 8), (146, 9), (146, 10), (146, 11), (146, 13), (146, 14), (146, 15), (146, 16), (148, 1), (148, 3), (148, 4), (148, 5), (153, 0), (153, 1)] S G S127 (hw [(153, 0), (153, 1)] G128 G158) := (gr_hw g154 rfl)
  refine r_peekI hX (tl_153 2 rfl (by decide)) n126l (fun sip165 sip165e sip165a sip165b => ?_)
  refine r_finA hX (L := 153) (ci := 0) (fs := fs_153) rfl n126l (by decide) (fun hr166 => ?_)
  have hf167 : Fnl E fs_159 153 S127 (hw [(153, 0), (153, 1)] G128 G158) n126 := by
    intro j hj
    rcases (by have : j < 3 := hj; omega : j = 0 ∨ j = 1 ∨ j = 2) with rfl | rfl | rfl
    · exact hr166 0 (by decide)
    · exact Or.inl e162.symm
    · have e := sip165e; show (0 : Int) ≤ (hw [(153, 0), (153, 1)] G128 G158) 153 n126 2 ∧ (hw [(153, 0), (153, 1)] G128 G158) 153 n126 2 ≤ 60; omega
  refine r_relabF hX (L := 153) (L' := 159) (ci := 0) (fs := fs_153) (fs' := fs_159) rfl rfl rfl (by decide) (by decide) nf_153 (by decide) n126l hf167 (fun S169 G170 r168 => ?_)
  have s172 : S169 this = 142 := r168.lab n126l s131 (by decide)
  have s173 : S169 n5 = 129 := r168.lab n126l s132 (by decide)
  have s174 : S169 af44 = 130 := r168.lab n126l s133 (by decide)
  have s175 : S169 if46 = 154 := r168.lab n126l s134 (by decide)
  have s176 : S169 tf48 = 155 := r168.lab n126l s135 (by decide)
  have s177 : S169 ef50 = 156 := r168.lab n126l s136 (by decide)
  have s178 : S169 pf52 = 157 := r168.lab n126l s137 (by decide)
  have s179 : S169 n56 = 158 := r168.lab n126l s138 (by decide)
  have e180 : 1 = G170 142 this 4 := rs_val r168 n126l e139 s131 (by decide)
  have e181 : n5 = G170 142 this 17 := rs_val r168 n126l e140 s131 (by decide)
  have e182 : af44 = G170 129 n5 9 := rs_val r168 n126l e141 s132 (by decide)
  have e183 : af44 = G170 142 this 5 := rs_val r168 n126l e142 s131 (by decide)
  have e184 : if46 = G170 129 n5 10 := rs_val r168 n126l e143 s132 (by decide)
  have e185 : if46 = G170 142 this 6 := rs_val r168 n126l e144 s131 (by decide)
  have e186 : tf48 = G170 129 n5 11 := rs_val r168 n126l e145 s132 (by decide)
  have e187 : tf48 = G170 142 this 7 := rs_val r168 n126l e146 s131 (by decide)
  have e188 : ef50 = G170 129 n5 12 := rs_val r168 n126l e147 s132 (by decide)
  have e189 : ef50 = G170 142 this 8 := rs_val r168 n126l e148 s131 (by decide)
  have e190 : pf52 = G170 129 n5 13 := rs_val r168 n126l e149 s132 (by decide)
  have e191 : pf52 = G170 142 this 9 := rs_val r168 n126l e150 s131 (by decide)
  have e192 : (Ad E 0) = G170 158 n56 1 := rs_val r168 n126l e151 s138 (by decide)
  have e193 : sip91 = G170 158 n56 2 := rs_val r168 n126l e152 s138 (by decide)
  have e194 : n56 = G170 142 this 10 := rs_val r168 n126l e153 s131 (by decide)
  have e195 : (Ad E 0) = G170 159 n126 1 := e162.trans (r168.2.2.1 1).symm
  have e196 : sip165 = G170 159 n126 2 := sip165e.trans (r168.2.2.1 2).symm
  have g197 : Gr [93, 94, 95, 96, 97, 98, 99, 105, 106, 107, 108, 109, 110, 111, 112, 113, 114, 115, 116, 117, 118, 129, 130, 131, 132, 134, 143, 144, 145, 146, 148, 153, 154, 155, 156, 157, 158, 159] [(142, 4), (142, 5), (142, 6), (142, 7), (142, 8), (142, 9), (142, 10), (142, 11), (142, 12), (142, 13), (142, 14), (142, 15), (142, 16), (142, 17), (142, 18), (143, 0), (143, 1), (143, 3), (143, 4), (143, 5), (143, 6), (143, 7), (143, 8), (143, 9), (143, 10), (143, 11), (143, 12), (143, 13), (143, 14), (143, 17), (143, 18), (143, 19), (144, 1), (144, 2), (144, 3), (144, 4), (144, 5), (144, 6), (144, 7), (144, 8), (144, 9), (144, 10), (144, 11), (144, 12), (144, 13), (144, 14), (144, 15), (144, 16), (144, 17), (145, 1), (145, 2), (145, 3), (145, 12), (145, 15), (145, 16), (146, 5), (146, 6), (146, 7), (146, 8), (146, 9), (146, 10), (146, 11), (146, 13), (146, 14), (146, 15), (146, 16), (148, 1), (148, 3), (148, 4), (148, 5), (153, 0), (153, 1)] S G S169 G170 := gr_rs g164 r168 z130 rfl
  have u198 : UqL [159, 158, 129, 157, 156, 155, 154, 130] S169 := uq_rs u155 (no_sub u156 rfl) r168 rfl
  have u199 : EmL E [159, 158, 157, 156, 155, 154] S169 G170 := em_rs u163 (no_sub u156 rfl) r168 e162 (by have e := sip165e; omega) rfl
  have u200 : No [128, 131, 132, 136, 138] S169 := no_rs u156 r168 rfl
  refine r_putFN hX hP rfl rfl fq_X11_48_142 s172 (by decide) (Or.inr r168.1) (fun h201 => ?_)
  refine r_ex hX hP 2 (pc' := 100) (st' := [(0, 20), (2, this)]) (lo' := [(0, (2, this))]) rfl ?_
  have u202 : EmL E [159, 158, 157, 156, 155, 154] S169 (up G170 142 this 11 n126) := (em_up u199 rfl)
  have g203 : Gr [93, 94, 95, 96, 97, 98, 99, 105, 106, 107, 108, 109, 110, 111, 112, 113, 114, 115, 116, 117, 118, 129, 130, 131, 132, 134, 143, 144, 145, 146, 148, 153, 154, 155, 156, 157, 158, 159] [(142, 4), (142, 5), (142, 6), (142, 7), (142, 8), (142, 9), (142, 10), (142, 11), (142, 12), (142, 13), (142, 14), (142, 15), (142, 16), (142, 17), (142, 18), (143, 0), (143, 1), (143, 3), (143, 4), (143, 5), (143, 6), (143, 7), (143, 8), (143, 9), (143, 10), (143, 11), (143, 12), (143, 13), (143, 14), (143, 17), (143, 18), (143, 19), (144, 1), (144, 2), (144, 3), (144, 4), (144, 5), (144, 6), (144, 7), (144, 8), (144, 9), (144, 10), (144, 11), (144, 12), (144, 13), (144, 14), (144, 15), (144, 16), (144, 17), (145, 1), (145, 2), (145, 3), (145, 12), (145, 15), (145, 16), (146, 5), (146, 6), (146, 7), (146, 8), (146, 9), (146, 10), (146, 11), (146, 13), (146, 14), (146, 15), (146, 16), (148, 1), (148, 3), (148, 4), (148, 5), (153, 0), (153, 1)] S G S169 (up G170 142 this 11 n126) := (gr_up g197 rfl)
  refine r_newarrA hX hP rfl (L := 94) (n := 20) al_94 (by decide) rfl rfl rfl (tbg sg1 124 rfl rfl) (by decide) (by omega) (by omega) (fun n204 S205 G206 n204z n204n n204l g207 n204v => ?_)
  have z208 : S n204 = 0 := gr_zero g203 n204z
  have s209 : S205 this = 142 := gr_lab g207 s172 (by decide)
  have s210 : S205 n5 = 129 := gr_lab g207 s173 (by decide)
  have s211 : S205 af44 = 130 := gr_lab g207 s174 (by decide)
  have s212 : S205 if46 = 154 := gr_lab g207 s175 (by decide)
  have s213 : S205 tf48 = 155 := gr_lab g207 s176 (by decide)
  have s214 : S205 ef50 = 156 := gr_lab g207 s177 (by decide)
  have s215 : S205 pf52 = 157 := gr_lab g207 s178 (by decide)
  have s216 : S205 n56 = 158 := gr_lab g207 s179 (by decide)
  have s217 : S205 n126 = 159 := gr_lab g207 r168.1 (by decide)
  have e218 : 1 = G206 142 this 4 := gr_val g207 e180 s172 (by decide) rfl
  have e219 : n5 = G206 142 this 17 := gr_val g207 e181 s172 (by decide) rfl
  have e220 : af44 = G206 129 n5 9 := gr_val g207 e182 s173 (by decide) rfl
  have e221 : af44 = G206 142 this 5 := gr_val g207 e183 s172 (by decide) rfl
  have e222 : if46 = G206 129 n5 10 := gr_val g207 e184 s173 (by decide) rfl
  have e223 : if46 = G206 142 this 6 := gr_val g207 e185 s172 (by decide) rfl
  have e224 : tf48 = G206 129 n5 11 := gr_val g207 e186 s173 (by decide) rfl
  have e225 : tf48 = G206 142 this 7 := gr_val g207 e187 s172 (by decide) rfl
  have e226 : ef50 = G206 129 n5 12 := gr_val g207 e188 s173 (by decide) rfl
  have e227 : ef50 = G206 142 this 8 := gr_val g207 e189 s172 (by decide) rfl
  have e228 : pf52 = G206 129 n5 13 := gr_val g207 e190 s173 (by decide) rfl
  have e229 : pf52 = G206 142 this 9 := gr_val g207 e191 s172 (by decide) rfl
  have e230 : (Ad E 0) = G206 158 n56 1 := gr_val g207 e192 s179 (by decide) rfl
  have e231 : sip91 = G206 158 n56 2 := gr_val g207 e193 s179 (by decide) rfl
  have e232 : n56 = G206 142 this 10 := gr_val g207 e194 s172 (by decide) rfl
  have e233 : (Ad E 0) = G206 159 n126 1 := gr_val g207 e195 r168.1 (by decide) rfl
  have e234 : sip165 = G206 159 n126 2 := gr_val g207 e196 r168.1 (by decide) rfl
  have e235 : n126 = G206 142 this 11 := gr_val g207 h201 s172 (by decide) rfl
  have g236 : Gr [93, 94, 95, 96, 97, 98, 99, 105, 106, 107, 108, 109, 110, 111, 112, 113, 114, 115, 116, 117, 118, 129, 130, 131, 132, 134, 143, 144, 145, 146, 148, 153, 154, 155, 156, 157, 158, 159] [(142, 4), (142, 5), (142, 6), (142, 7), (142, 8), (142, 9), (142, 10), (142, 11), (142, 12), (142, 13), (142, 14), (142, 15), (142, 16), (142, 17), (142, 18), (143, 0), (143, 1), (143, 3), (143, 4), (143, 5), (143, 6), (143, 7), (143, 8), (143, 9), (143, 10), (143, 11), (143, 12), (143, 13), (143, 14), (143, 17), (143, 18), (143, 19), (144, 1), (144, 2), (144, 3), (144, 4), (144, 5), (144, 6), (144, 7), (144, 8), (144, 9), (144, 10), (144, 11), (144, 12), (144, 13), (144, 14), (144, 15), (144, 16), (144, 17), (145, 1), (145, 2), (145, 3), (145, 12), (145, 15), (145, 16), (146, 5), (146, 6), (146, 7), (146, 8), (146, 9), (146, 10), (146, 11), (146, 13), (146, 14), (146, 15), (146, 16), (148, 1), (148, 3), (148, 4), (148, 5), (153, 0), (153, 1)] S G S205 G206 := gr_call g203 g207 rfl rfl
  have u237 : UqL [159, 158, 129, 157, 156, 155, 154, 130] S205 := uq_gr u198 g207 rfl
  have u238 : No [128, 131, 132, 136, 138] S205 := no_gr (no_sub u200 rfl) g207 rfl
  have u239 : EmL E [159, 158, 157, 156, 155, 154] S205 G206 := em_gr u202 g207 rfl
  refine r_putFN hX hP rfl rfl fq_X11_51_142 s209 (by decide) (Or.inr n204l) (fun h240 => ?_)
  refine r_ex hX hP 1 (pc' := 106) (st' := [(2, this)]) (lo' := [(0, (2, this))]) rfl ?_
  have u241 : EmL E [159, 158, 157, 156, 155, 154] S205 (up G206 142 this 12 n204) := (em_up u239 rfl)
  have g242 : Gr [93, 94, 95, 96, 97, 98, 99, 105, 106, 107, 108, 109, 110, 111, 112, 113, 114, 115, 116, 117, 118, 129, 130, 131, 132, 134, 143, 144, 145, 146, 148, 153, 154, 155, 156, 157, 158, 159] [(142, 4), (142, 5), (142, 6), (142, 7), (142, 8), (142, 9), (142, 10), (142, 11), (142, 12), (142, 13), (142, 14), (142, 15), (142, 16), (142, 17), (142, 18), (143, 0), (143, 1), (143, 3), (143, 4), (143, 5), (143, 6), (143, 7), (143, 8), (143, 9), (143, 10), (143, 11), (143, 12), (143, 13), (143, 14), (143, 17), (143, 18), (143, 19), (144, 1), (144, 2), (144, 3), (144, 4), (144, 5), (144, 6), (144, 7), (144, 8), (144, 9), (144, 10), (144, 11), (144, 12), (144, 13), (144, 14), (144, 15), (144, 16), (144, 17), (145, 1), (145, 2), (145, 3), (145, 12), (145, 15), (145, 16), (146, 5), (146, 6), (146, 7), (146, 8), (146, 9), (146, 10), (146, 11), (146, 13), (146, 14), (146, 15), (146, 16), (148, 1), (148, 3), (148, 4), (148, 5), (153, 0), (153, 1)] S G S205 (up G206 142 this 12 n204) := (gr_up g236 rfl)
  refine r_newA hX hP rfl (L := 148) (N := 6) nw_X11_55_148 (by omega) (by omega) (fun n243 S244 G245 n243z n243n n243l g246 n243v => ?_)
  have z247 : S n243 = 0 := gr_zero g242 n243z
  have s248 : S244 this = 142 := gr_lab g246 s209 (by decide)
  have s249 : S244 n5 = 129 := gr_lab g246 s210 (by decide)
  have s250 : S244 af44 = 130 := gr_lab g246 s211 (by decide)
  have s251 : S244 if46 = 154 := gr_lab g246 s212 (by decide)
  have s252 : S244 tf48 = 155 := gr_lab g246 s213 (by decide)
  have s253 : S244 ef50 = 156 := gr_lab g246 s214 (by decide)
  have s254 : S244 pf52 = 157 := gr_lab g246 s215 (by decide)
  have s255 : S244 n56 = 158 := gr_lab g246 s216 (by decide)
  have s256 : S244 n126 = 159 := gr_lab g246 s217 (by decide)
  have s257 : S244 n204 = 94 := gr_lab g246 n204l (by decide)
  have e258 : 1 = G245 142 this 4 := gr_val g246 e218 s209 (by decide) rfl
  have e259 : n5 = G245 142 this 17 := gr_val g246 e219 s209 (by decide) rfl
  have e260 : af44 = G245 129 n5 9 := gr_val g246 e220 s210 (by decide) rfl
  have e261 : af44 = G245 142 this 5 := gr_val g246 e221 s209 (by decide) rfl
  have e262 : if46 = G245 129 n5 10 := gr_val g246 e222 s210 (by decide) rfl
  have e263 : if46 = G245 142 this 6 := gr_val g246 e223 s209 (by decide) rfl
  have e264 : tf48 = G245 129 n5 11 := gr_val g246 e224 s210 (by decide) rfl
  have e265 : tf48 = G245 142 this 7 := gr_val g246 e225 s209 (by decide) rfl
  have e266 : ef50 = G245 129 n5 12 := gr_val g246 e226 s210 (by decide) rfl
  have e267 : ef50 = G245 142 this 8 := gr_val g246 e227 s209 (by decide) rfl
  have e268 : pf52 = G245 129 n5 13 := gr_val g246 e228 s210 (by decide) rfl
  have e269 : pf52 = G245 142 this 9 := gr_val g246 e229 s209 (by decide) rfl
  have e270 : (Ad E 0) = G245 158 n56 1 := gr_val g246 e230 s216 (by decide) rfl
  have e271 : sip91 = G245 158 n56 2 := gr_val g246 e231 s216 (by decide) rfl
  have e272 : n56 = G245 142 this 10 := gr_val g246 e232 s209 (by decide) rfl
  have e273 : (Ad E 0) = G245 159 n126 1 := gr_val g246 e233 s217 (by decide) rfl
  have e274 : sip165 = G245 159 n126 2 := gr_val g246 e234 s217 (by decide) rfl
  have e275 : n126 = G245 142 this 11 := gr_val g246 e235 s209 (by decide) rfl
  have e276 : n204 = G245 142 this 12 := gr_val g246 h240 s209 (by decide) rfl
  have g277 : Gr [93, 94, 95, 96, 97, 98, 99, 105, 106, 107, 108, 109, 110, 111, 112, 113, 114, 115, 116, 117, 118, 129, 130, 131, 132, 134, 143, 144, 145, 146, 148, 153, 154, 155, 156, 157, 158, 159] [(142, 4), (142, 5), (142, 6), (142, 7), (142, 8), (142, 9), (142, 10), (142, 11), (142, 12), (142, 13), (142, 14), (142, 15), (142, 16), (142, 17), (142, 18), (143, 0), (143, 1), (143, 3), (143, 4), (143, 5), (143, 6), (143, 7), (143, 8), (143, 9), (143, 10), (143, 11), (143, 12), (143, 13), (143, 14), (143, 17), (143, 18), (143, 19), (144, 1), (144, 2), (144, 3), (144, 4), (144, 5), (144, 6), (144, 7), (144, 8), (144, 9), (144, 10), (144, 11), (144, 12), (144, 13), (144, 14), (144, 15), (144, 16), (144, 17), (145, 1), (145, 2), (145, 3), (145, 12), (145, 15), (145, 16), (146, 5), (146, 6), (146, 7), (146, 8), (146, 9), (146, 10), (146, 11), (146, 13), (146, 14), (146, 15), (146, 16), (148, 1), (148, 3), (148, 4), (148, 5), (153, 0), (153, 1)] S G S244 G245 := gr_call g242 g246 rfl rfl
  have u278 : UqL [159, 158, 129, 157, 156, 155, 154, 130] S244 := uq_gr u237 g246 rfl
  have u279 : No [128, 131, 132, 136, 138] S244 := no_gr (no_sub u238 rfl) g246 rfl
  have u280 : EmL E [159, 158, 157, 156, 155, 154] S244 G245 := em_gr u241 g246 rfl
  refine r_ex hX hP 1 (pc' := 110) (st' := [(2, n243), (2, n243), (2, this)]) (lo' := [(0, (2, this))]) rfl ?_
  refine r_callI gd hX hP rfl ci_X11_57 n243n (d' := 3) (mc' := 3) (ms' := 27) (as' := []) (st := [(2, n243), (2, this)]) (by omega) (by omega) (by omega) rfl rfl (Nat.le_of_ble_eq_true rfl) (c_X4_init E S244 G245 n243  n243l) ?_
  rintro _ S281 G282 ⟨g283, rfl, hf284⟩
  have s285 : S281 this = 142 := gr_lab g283 s248 (by decide)
  have s286 : S281 n5 = 129 := gr_lab g283 s249 (by decide)
  have s287 : S281 af44 = 130 := gr_lab g283 s250 (by decide)
  have s288 : S281 if46 = 154 := gr_lab g283 s251 (by decide)
  have s289 : S281 tf48 = 155 := gr_lab g283 s252 (by decide)
  have s290 : S281 ef50 = 156 := gr_lab g283 s253 (by decide)
  have s291 : S281 pf52 = 157 := gr_lab g283 s254 (by decide)
  have s292 : S281 n56 = 158 := gr_lab g283 s255 (by decide)
  have s293 : S281 n126 = 159 := gr_lab g283 s256 (by decide)
  have s294 : S281 n204 = 94 := gr_lab g283 s257 (by decide)
  have s295 : S281 n243 = 148 := gr_lab g283 n243l (by decide)
  have e296 : 1 = G282 142 this 4 := gr_val g283 e258 s248 (by decide) rfl
  have e297 : n5 = G282 142 this 17 := gr_val g283 e259 s248 (by decide) rfl
  have e298 : af44 = G282 129 n5 9 := gr_val g283 e260 s249 (by decide) rfl
  have e299 : af44 = G282 142 this 5 := gr_val g283 e261 s248 (by decide) rfl
  have e300 : if46 = G282 129 n5 10 := gr_val g283 e262 s249 (by decide) rfl
  have e301 : if46 = G282 142 this 6 := gr_val g283 e263 s248 (by decide) rfl
  have e302 : tf48 = G282 129 n5 11 := gr_val g283 e264 s249 (by decide) rfl
  have e303 : tf48 = G282 142 this 7 := gr_val g283 e265 s248 (by decide) rfl
  have e304 : ef50 = G282 129 n5 12 := gr_val g283 e266 s249 (by decide) rfl
  have e305 : ef50 = G282 142 this 8 := gr_val g283 e267 s248 (by decide) rfl
  have e306 : pf52 = G282 129 n5 13 := gr_val g283 e268 s249 (by decide) rfl
  have e307 : pf52 = G282 142 this 9 := gr_val g283 e269 s248 (by decide) rfl
  have e308 : (Ad E 0) = G282 158 n56 1 := gr_val g283 e270 s255 (by decide) rfl
  have e309 : sip91 = G282 158 n56 2 := gr_val g283 e271 s255 (by decide) rfl
  have e310 : n56 = G282 142 this 10 := gr_val g283 e272 s248 (by decide) rfl
  have e311 : (Ad E 0) = G282 159 n126 1 := gr_val g283 e273 s256 (by decide) rfl
  have e312 : sip165 = G282 159 n126 2 := gr_val g283 e274 s256 (by decide) rfl
  have e313 : n126 = G282 142 this 11 := gr_val g283 e275 s248 (by decide) rfl
  have e314 : n204 = G282 142 this 12 := gr_val g283 e276 s248 (by decide) rfl
  have g315 : Gr [93, 94, 95, 96, 97, 98, 99, 105, 106, 107, 108, 109, 110, 111, 112, 113, 114, 115, 116, 117, 118, 129, 130, 131, 132, 134, 143, 144, 145, 146, 148, 153, 154, 155, 156, 157, 158, 159] [(142, 4), (142, 5), (142, 6), (142, 7), (142, 8), (142, 9), (142, 10), (142, 11), (142, 12), (142, 13), (142, 14), (142, 15), (142, 16), (142, 17), (142, 18), (143, 0), (143, 1), (143, 3), (143, 4), (143, 5), (143, 6), (143, 7), (143, 8), (143, 9), (143, 10), (143, 11), (143, 12), (143, 13), (143, 14), (143, 17), (143, 18), (143, 19), (144, 1), (144, 2), (144, 3), (144, 4), (144, 5), (144, 6), (144, 7), (144, 8), (144, 9), (144, 10), (144, 11), (144, 12), (144, 13), (144, 14), (144, 15), (144, 16), (144, 17), (145, 1), (145, 2), (145, 3), (145, 12), (145, 15), (145, 16), (146, 5), (146, 6), (146, 7), (146, 8), (146, 9), (146, 10), (146, 11), (146, 13), (146, 14), (146, 15), (146, 16), (148, 1), (148, 3), (148, 4), (148, 5), (153, 0), (153, 1)] S G S281 G282 := gr_call g277 g283 rfl rfl
  have u316 : UqL [159, 158, 129, 157, 156, 155, 154, 130] S281 := uq_gr u278 g283 rfl
  have u317 : No [128, 131, 132, 136, 138] S281 := no_gr (no_sub u279 rfl) g283 rfl
  have u318 : EmL E [159, 158, 157, 156, 155, 154] S281 G282 := em_gr u280 g283 rfl
  refine r_finA hX (L := 148) (ci := 5) (fs := fs_148) rfl s295 (by decide) (fun hr319 => ?_)
  refine r_relabF hX (L := 148) (L' := 134) (ci := 5) (fs := fs_148) (fs' := fs_134) rfl rfl rfl (by decide) (by decide) nf_148 (by decide) s295 hf284 (fun S322 G323 r321 => ?_)
  have s325 : S322 this = 142 := r321.lab s295 s285 (by decide)
  have s326 : S322 n5 = 129 := r321.lab s295 s286 (by decide)
  have s327 : S322 af44 = 130 := r321.lab s295 s287 (by decide)
  have s328 : S322 if46 = 154 := r321.lab s295 s288 (by decide)
  have s329 : S322 tf48 = 155 := r321.lab s295 s289 (by decide)
  have s330 : S322 ef50 = 156 := r321.lab s295 s290 (by decide)
  have s331 : S322 pf52 = 157 := r321.lab s295 s291 (by decide)
  have s332 : S322 n56 = 158 := r321.lab s295 s292 (by decide)
  have s333 : S322 n126 = 159 := r321.lab s295 s293 (by decide)
  have s334 : S322 n204 = 94 := r321.lab s295 s294 (by decide)
  have e335 : 1 = G323 142 this 4 := rs_val r321 s295 e296 s285 (by decide)
  have e336 : n5 = G323 142 this 17 := rs_val r321 s295 e297 s285 (by decide)
  have e337 : af44 = G323 129 n5 9 := rs_val r321 s295 e298 s286 (by decide)
  have e338 : af44 = G323 142 this 5 := rs_val r321 s295 e299 s285 (by decide)
  have e339 : if46 = G323 129 n5 10 := rs_val r321 s295 e300 s286 (by decide)
  have e340 : if46 = G323 142 this 6 := rs_val r321 s295 e301 s285 (by decide)
  have e341 : tf48 = G323 129 n5 11 := rs_val r321 s295 e302 s286 (by decide)
  have e342 : tf48 = G323 142 this 7 := rs_val r321 s295 e303 s285 (by decide)
  have e343 : ef50 = G323 129 n5 12 := rs_val r321 s295 e304 s286 (by decide)
  have e344 : ef50 = G323 142 this 8 := rs_val r321 s295 e305 s285 (by decide)
  have e345 : pf52 = G323 129 n5 13 := rs_val r321 s295 e306 s286 (by decide)
  have e346 : pf52 = G323 142 this 9 := rs_val r321 s295 e307 s285 (by decide)
  have e347 : (Ad E 0) = G323 158 n56 1 := rs_val r321 s295 e308 s292 (by decide)
  have e348 : sip91 = G323 158 n56 2 := rs_val r321 s295 e309 s292 (by decide)
  have e349 : n56 = G323 142 this 10 := rs_val r321 s295 e310 s285 (by decide)
  have e350 : (Ad E 0) = G323 159 n126 1 := rs_val r321 s295 e311 s293 (by decide)
  have e351 : sip165 = G323 159 n126 2 := rs_val r321 s295 e312 s293 (by decide)
  have e352 : n126 = G323 142 this 11 := rs_val r321 s295 e313 s285 (by decide)
  have e353 : n204 = G323 142 this 12 := rs_val r321 s295 e314 s285 (by decide)
  have g354 : Gr [93, 94, 95, 96, 97, 98, 99, 105, 106, 107, 108, 109, 110, 111, 112, 113, 114, 115, 116, 117, 118, 129, 130, 131, 132, 134, 143, 144, 145, 146, 148, 153, 154, 155, 156, 157, 158, 159] [(142, 4), (142, 5), (142, 6), (142, 7), (142, 8), (142, 9), (142, 10), (142, 11), (142, 12), (142, 13), (142, 14), (142, 15), (142, 16), (142, 17), (142, 18), (143, 0), (143, 1), (143, 3), (143, 4), (143, 5), (143, 6), (143, 7), (143, 8), (143, 9), (143, 10), (143, 11), (143, 12), (143, 13), (143, 14), (143, 17), (143, 18), (143, 19), (144, 1), (144, 2), (144, 3), (144, 4), (144, 5), (144, 6), (144, 7), (144, 8), (144, 9), (144, 10), (144, 11), (144, 12), (144, 13), (144, 14), (144, 15), (144, 16), (144, 17), (145, 1), (145, 2), (145, 3), (145, 12), (145, 15), (145, 16), (146, 5), (146, 6), (146, 7), (146, 8), (146, 9), (146, 10), (146, 11), (146, 13), (146, 14), (146, 15), (146, 16), (148, 1), (148, 3), (148, 4), (148, 5), (153, 0), (153, 1)] S G S322 G323 := gr_rs g315 r321 z247 rfl
  have u355 : UqL [159, 158, 129, 157, 156, 155, 154, 130] S322 := uq_rsN u316 r321 rfl
  have u356 : EmL E [159, 158, 157, 156, 155, 154] S322 G323 := em_rsN u318 r321 rfl
  have u357 : No [128, 131, 132, 136, 138] S322 := no_rs u317 r321 rfl
  refine r_putFN hX hP rfl rfl fq_X11_58_142 s325 (by decide) (Or.inr r321.1) (fun h358 => ?_)
  refine r_ex hX hP 1 (pc' := 117) (st' := [(2, this)]) (lo' := [(0, (2, this))]) rfl ?_
  have u359 : EmL E [159, 158, 157, 156, 155, 154] S322 (up G323 142 this 13 n243) := (em_up u356 rfl)
  have g360 : Gr [93, 94, 95, 96, 97, 98, 99, 105, 106, 107, 108, 109, 110, 111, 112, 113, 114, 115, 116, 117, 118, 129, 130, 131, 132, 134, 143, 144, 145, 146, 148, 153, 154, 155, 156, 157, 158, 159] [(142, 4), (142, 5), (142, 6), (142, 7), (142, 8), (142, 9), (142, 10), (142, 11), (142, 12), (142, 13), (142, 14), (142, 15), (142, 16), (142, 17), (142, 18), (143, 0), (143, 1), (143, 3), (143, 4), (143, 5), (143, 6), (143, 7), (143, 8), (143, 9), (143, 10), (143, 11), (143, 12), (143, 13), (143, 14), (143, 17), (143, 18), (143, 19), (144, 1), (144, 2), (144, 3), (144, 4), (144, 5), (144, 6), (144, 7), (144, 8), (144, 9), (144, 10), (144, 11), (144, 12), (144, 13), (144, 14), (144, 15), (144, 16), (144, 17), (145, 1), (145, 2), (145, 3), (145, 12), (145, 15), (145, 16), (146, 5), (146, 6), (146, 7), (146, 8), (146, 9), (146, 10), (146, 11), (146, 13), (146, 14), (146, 15), (146, 16), (148, 1), (148, 3), (148, 4), (148, 5), (153, 0), (153, 1)] S G S322 (up G323 142 this 13 n243) := (gr_up g354 rfl)
  refine r_newA hX hP rfl (L := 148) (N := 6) nw_X11_55_148 (by omega) (by omega) (fun n361 S362 G363 n361z n361n n361l g364 n361v => ?_)
  have z365 : S n361 = 0 := gr_zero g360 n361z
  have s366 : S362 this = 142 := gr_lab g364 s325 (by decide)
  have s367 : S362 n5 = 129 := gr_lab g364 s326 (by decide)
  have s368 : S362 af44 = 130 := gr_lab g364 s327 (by decide)
  have s369 : S362 if46 = 154 := gr_lab g364 s328 (by decide)
  have s370 : S362 tf48 = 155 := gr_lab g364 s329 (by decide)
  have s371 : S362 ef50 = 156 := gr_lab g364 s330 (by decide)
  have s372 : S362 pf52 = 157 := gr_lab g364 s331 (by decide)
  have s373 : S362 n56 = 158 := gr_lab g364 s332 (by decide)
  have s374 : S362 n126 = 159 := gr_lab g364 s333 (by decide)
  have s375 : S362 n204 = 94 := gr_lab g364 s334 (by decide)
  have s376 : S362 n243 = 134 := gr_lab g364 r321.1 (by decide)
  have e377 : 1 = G363 142 this 4 := gr_val g364 e335 s325 (by decide) rfl
  have e378 : n5 = G363 142 this 17 := gr_val g364 e336 s325 (by decide) rfl
  have e379 : af44 = G363 129 n5 9 := gr_val g364 e337 s326 (by decide) rfl
  have e380 : af44 = G363 142 this 5 := gr_val g364 e338 s325 (by decide) rfl
  have e381 : if46 = G363 129 n5 10 := gr_val g364 e339 s326 (by decide) rfl
  have e382 : if46 = G363 142 this 6 := gr_val g364 e340 s325 (by decide) rfl
  have e383 : tf48 = G363 129 n5 11 := gr_val g364 e341 s326 (by decide) rfl
  have e384 : tf48 = G363 142 this 7 := gr_val g364 e342 s325 (by decide) rfl
  have e385 : ef50 = G363 129 n5 12 := gr_val g364 e343 s326 (by decide) rfl
  have e386 : ef50 = G363 142 this 8 := gr_val g364 e344 s325 (by decide) rfl
  have e387 : pf52 = G363 129 n5 13 := gr_val g364 e345 s326 (by decide) rfl
  have e388 : pf52 = G363 142 this 9 := gr_val g364 e346 s325 (by decide) rfl
  have e389 : (Ad E 0) = G363 158 n56 1 := gr_val g364 e347 s332 (by decide) rfl
  have e390 : sip91 = G363 158 n56 2 := gr_val g364 e348 s332 (by decide) rfl
  have e391 : n56 = G363 142 this 10 := gr_val g364 e349 s325 (by decide) rfl
  have e392 : (Ad E 0) = G363 159 n126 1 := gr_val g364 e350 s333 (by decide) rfl
  have e393 : sip165 = G363 159 n126 2 := gr_val g364 e351 s333 (by decide) rfl
  have e394 : n126 = G363 142 this 11 := gr_val g364 e352 s325 (by decide) rfl
  have e395 : n204 = G363 142 this 12 := gr_val g364 e353 s325 (by decide) rfl
  have e396 : n243 = G363 142 this 13 := gr_val g364 h358 s325 (by decide) rfl
  have g397 : Gr [93, 94, 95, 96, 97, 98, 99, 105, 106, 107, 108, 109, 110, 111, 112, 113, 114, 115, 116, 117, 118, 129, 130, 131, 132, 134, 143, 144, 145, 146, 148, 153, 154, 155, 156, 157, 158, 159] [(142, 4), (142, 5), (142, 6), (142, 7), (142, 8), (142, 9), (142, 10), (142, 11), (142, 12), (142, 13), (142, 14), (142, 15), (142, 16), (142, 17), (142, 18), (143, 0), (143, 1), (143, 3), (143, 4), (143, 5), (143, 6), (143, 7), (143, 8), (143, 9), (143, 10), (143, 11), (143, 12), (143, 13), (143, 14), (143, 17), (143, 18), (143, 19), (144, 1), (144, 2), (144, 3), (144, 4), (144, 5), (144, 6), (144, 7), (144, 8), (144, 9), (144, 10), (144, 11), (144, 12), (144, 13), (144, 14), (144, 15), (144, 16), (144, 17), (145, 1), (145, 2), (145, 3), (145, 12), (145, 15), (145, 16), (146, 5), (146, 6), (146, 7), (146, 8), (146, 9), (146, 10), (146, 11), (146, 13), (146, 14), (146, 15), (146, 16), (148, 1), (148, 3), (148, 4), (148, 5), (153, 0), (153, 1)] S G S362 G363 := gr_call g360 g364 rfl rfl
  have u398 : UqL [159, 158, 129, 157, 156, 155, 154, 130] S362 := uq_gr u355 g364 rfl
  have u399 : No [128, 131, 132, 136, 138] S362 := no_gr (no_sub u357 rfl) g364 rfl
  have u400 : EmL E [159, 158, 157, 156, 155, 154] S362 G363 := em_gr u359 g364 rfl
  refine r_ex hX hP 1 (pc' := 121) (st' := [(2, n361), (2, n361), (2, this)]) (lo' := [(0, (2, this))]) rfl ?_
  refine r_callI gd hX hP rfl ci_X11_57 n361n (d' := 3) (mc' := 3) (ms' := 27) (as' := []) (st := [(2, n361), (2, this)]) (by omega) (by omega) (by omega) rfl rfl (Nat.le_of_ble_eq_true rfl) (c_X4_init E S362 G363 n361  n361l) ?_
  rintro _ S401 G402 ⟨g403, rfl, hf404⟩
  have s405 : S401 this = 142 := gr_lab g403 s366 (by decide)
  have s406 : S401 n5 = 129 := gr_lab g403 s367 (by decide)
  have s407 : S401 af44 = 130 := gr_lab g403 s368 (by decide)
  have s408 : S401 if46 = 154 := gr_lab g403 s369 (by decide)
  have s409 : S401 tf48 = 155 := gr_lab g403 s370 (by decide)
  have s410 : S401 ef50 = 156 := gr_lab g403 s371 (by decide)
  have s411 : S401 pf52 = 157 := gr_lab g403 s372 (by decide)
  have s412 : S401 n56 = 158 := gr_lab g403 s373 (by decide)
  have s413 : S401 n126 = 159 := gr_lab g403 s374 (by decide)
  have s414 : S401 n204 = 94 := gr_lab g403 s375 (by decide)
  have s415 : S401 n243 = 134 := gr_lab g403 s376 (by decide)
  have s416 : S401 n361 = 148 := gr_lab g403 n361l (by decide)
  have e417 : 1 = G402 142 this 4 := gr_val g403 e377 s366 (by decide) rfl
  have e418 : n5 = G402 142 this 17 := gr_val g403 e378 s366 (by decide) rfl
  have e419 : af44 = G402 129 n5 9 := gr_val g403 e379 s367 (by decide) rfl
  have e420 : af44 = G402 142 this 5 := gr_val g403 e380 s366 (by decide) rfl
  have e421 : if46 = G402 129 n5 10 := gr_val g403 e381 s367 (by decide) rfl
  have e422 : if46 = G402 142 this 6 := gr_val g403 e382 s366 (by decide) rfl
  have e423 : tf48 = G402 129 n5 11 := gr_val g403 e383 s367 (by decide) rfl
  have e424 : tf48 = G402 142 this 7 := gr_val g403 e384 s366 (by decide) rfl
  have e425 : ef50 = G402 129 n5 12 := gr_val g403 e385 s367 (by decide) rfl
  have e426 : ef50 = G402 142 this 8 := gr_val g403 e386 s366 (by decide) rfl
  have e427 : pf52 = G402 129 n5 13 := gr_val g403 e387 s367 (by decide) rfl
  have e428 : pf52 = G402 142 this 9 := gr_val g403 e388 s366 (by decide) rfl
  have e429 : (Ad E 0) = G402 158 n56 1 := gr_val g403 e389 s373 (by decide) rfl
  have e430 : sip91 = G402 158 n56 2 := gr_val g403 e390 s373 (by decide) rfl
  have e431 : n56 = G402 142 this 10 := gr_val g403 e391 s366 (by decide) rfl
  have e432 : (Ad E 0) = G402 159 n126 1 := gr_val g403 e392 s374 (by decide) rfl
  have e433 : sip165 = G402 159 n126 2 := gr_val g403 e393 s374 (by decide) rfl
  have e434 : n126 = G402 142 this 11 := gr_val g403 e394 s366 (by decide) rfl
  have e435 : n204 = G402 142 this 12 := gr_val g403 e395 s366 (by decide) rfl
  have e436 : n243 = G402 142 this 13 := gr_val g403 e396 s366 (by decide) rfl
  have g437 : Gr [93, 94, 95, 96, 97, 98, 99, 105, 106, 107, 108, 109, 110, 111, 112, 113, 114, 115, 116, 117, 118, 129, 130, 131, 132, 134, 143, 144, 145, 146, 148, 153, 154, 155, 156, 157, 158, 159] [(142, 4), (142, 5), (142, 6), (142, 7), (142, 8), (142, 9), (142, 10), (142, 11), (142, 12), (142, 13), (142, 14), (142, 15), (142, 16), (142, 17), (142, 18), (143, 0), (143, 1), (143, 3), (143, 4), (143, 5), (143, 6), (143, 7), (143, 8), (143, 9), (143, 10), (143, 11), (143, 12), (143, 13), (143, 14), (143, 17), (143, 18), (143, 19), (144, 1), (144, 2), (144, 3), (144, 4), (144, 5), (144, 6), (144, 7), (144, 8), (144, 9), (144, 10), (144, 11), (144, 12), (144, 13), (144, 14), (144, 15), (144, 16), (144, 17), (145, 1), (145, 2), (145, 3), (145, 12), (145, 15), (145, 16), (146, 5), (146, 6), (146, 7), (146, 8), (146, 9), (146, 10), (146, 11), (146, 13), (146, 14), (146, 15), (146, 16), (148, 1), (148, 3), (148, 4), (148, 5), (153, 0), (153, 1)] S G S401 G402 := gr_call g397 g403 rfl rfl
  have u438 : UqL [159, 158, 129, 157, 156, 155, 154, 130] S401 := uq_gr u398 g403 rfl
  have u439 : No [128, 131, 132, 136, 138] S401 := no_gr (no_sub u399 rfl) g403 rfl
  have u440 : EmL E [159, 158, 157, 156, 155, 154] S401 G402 := em_gr u400 g403 rfl
  refine r_finA hX (L := 148) (ci := 5) (fs := fs_148) rfl s416 (by decide) (fun hr441 => ?_)
  refine r_relabF hX (L := 148) (L' := 134) (ci := 5) (fs := fs_148) (fs' := fs_134) rfl rfl rfl (by decide) (by decide) nf_148 (by decide) s416 hf404 (fun S444 G445 r443 => ?_)
  have s447 : S444 this = 142 := r443.lab s416 s405 (by decide)
  have s448 : S444 n5 = 129 := r443.lab s416 s406 (by decide)
  have s449 : S444 af44 = 130 := r443.lab s416 s407 (by decide)
  have s450 : S444 if46 = 154 := r443.lab s416 s408 (by decide)
  have s451 : S444 tf48 = 155 := r443.lab s416 s409 (by decide)
  have s452 : S444 ef50 = 156 := r443.lab s416 s410 (by decide)
  have s453 : S444 pf52 = 157 := r443.lab s416 s411 (by decide)
  have s454 : S444 n56 = 158 := r443.lab s416 s412 (by decide)
  have s455 : S444 n126 = 159 := r443.lab s416 s413 (by decide)
  have s456 : S444 n204 = 94 := r443.lab s416 s414 (by decide)
  have s457 : S444 n243 = 134 := r443.lab s416 s415 (by decide)
  have e458 : 1 = G445 142 this 4 := rs_val r443 s416 e417 s405 (by decide)
  have e459 : n5 = G445 142 this 17 := rs_val r443 s416 e418 s405 (by decide)
  have e460 : af44 = G445 129 n5 9 := rs_val r443 s416 e419 s406 (by decide)
  have e461 : af44 = G445 142 this 5 := rs_val r443 s416 e420 s405 (by decide)
  have e462 : if46 = G445 129 n5 10 := rs_val r443 s416 e421 s406 (by decide)
  have e463 : if46 = G445 142 this 6 := rs_val r443 s416 e422 s405 (by decide)
  have e464 : tf48 = G445 129 n5 11 := rs_val r443 s416 e423 s406 (by decide)
  have e465 : tf48 = G445 142 this 7 := rs_val r443 s416 e424 s405 (by decide)
  have e466 : ef50 = G445 129 n5 12 := rs_val r443 s416 e425 s406 (by decide)
  have e467 : ef50 = G445 142 this 8 := rs_val r443 s416 e426 s405 (by decide)
  have e468 : pf52 = G445 129 n5 13 := rs_val r443 s416 e427 s406 (by decide)
  have e469 : pf52 = G445 142 this 9 := rs_val r443 s416 e428 s405 (by decide)
  have e470 : (Ad E 0) = G445 158 n56 1 := rs_val r443 s416 e429 s412 (by decide)
  have e471 : sip91 = G445 158 n56 2 := rs_val r443 s416 e430 s412 (by decide)
  have e472 : n56 = G445 142 this 10 := rs_val r443 s416 e431 s405 (by decide)
  have e473 : (Ad E 0) = G445 159 n126 1 := rs_val r443 s416 e432 s413 (by decide)
  have e474 : sip165 = G445 159 n126 2 := rs_val r443 s416 e433 s413 (by decide)
  have e475 : n126 = G445 142 this 11 := rs_val r443 s416 e434 s405 (by decide)
  have e476 : n204 = G445 142 this 12 := rs_val r443 s416 e435 s405 (by decide)
  have e477 : n243 = G445 142 this 13 := rs_val r443 s416 e436 s405 (by decide)
  have g478 : Gr [93, 94, 95, 96, 97, 98, 99, 105, 106, 107, 108, 109, 110, 111, 112, 113, 114, 115, 116, 117, 118, 129, 130, 131, 132, 134, 143, 144, 145, 146, 148, 153, 154, 155, 156, 157, 158, 159] [(142, 4), (142, 5), (142, 6), (142, 7), (142, 8), (142, 9), (142, 10), (142, 11), (142, 12), (142, 13), (142, 14), (142, 15), (142, 16), (142, 17), (142, 18), (143, 0), (143, 1), (143, 3), (143, 4), (143, 5), (143, 6), (143, 7), (143, 8), (143, 9), (143, 10), (143, 11), (143, 12), (143, 13), (143, 14), (143, 17), (143, 18), (143, 19), (144, 1), (144, 2), (144, 3), (144, 4), (144, 5), (144, 6), (144, 7), (144, 8), (144, 9), (144, 10), (144, 11), (144, 12), (144, 13), (144, 14), (144, 15), (144, 16), (144, 17), (145, 1), (145, 2), (145, 3), (145, 12), (145, 15), (145, 16), (146, 5), (146, 6), (146, 7), (146, 8), (146, 9), (146, 10), (146, 11), (146, 13), (146, 14), (146, 15), (146, 16), (148, 1), (148, 3), (148, 4), (148, 5), (153, 0), (153, 1)] S G S444 G445 := gr_rs g437 r443 z365 rfl
  have u479 : UqL [159, 158, 129, 157, 156, 155, 154, 130] S444 := uq_rsN u438 r443 rfl
  have u480 : EmL E [159, 158, 157, 156, 155, 154] S444 G445 := em_rsN u440 r443 rfl
  have u481 : No [128, 131, 132, 136, 138] S444 := no_rs u439 r443 rfl
  refine r_putFN hX hP rfl rfl fq_X11_62_142 s447 (by decide) (Or.inr r443.1) (fun h482 => ?_)
  refine r_ex hX hP 1 (pc' := 128) (st' := [(2, this)]) (lo' := [(0, (2, this))]) rfl ?_
  have u483 : EmL E [159, 158, 157, 156, 155, 154] S444 (up G445 142 this 14 n361) := (em_up u480 rfl)
  have g484 : Gr [93, 94, 95, 96, 97, 98, 99, 105, 106, 107, 108, 109, 110, 111, 112, 113, 114, 115, 116, 117, 118, 129, 130, 131, 132, 134, 143, 144, 145, 146, 148, 153, 154, 155, 156, 157, 158, 159] [(142, 4), (142, 5), (142, 6), (142, 7), (142, 8), (142, 9), (142, 10), (142, 11), (142, 12), (142, 13), (142, 14), (142, 15), (142, 16), (142, 17), (142, 18), (143, 0), (143, 1), (143, 3), (143, 4), (143, 5), (143, 6), (143, 7), (143, 8), (143, 9), (143, 10), (143, 11), (143, 12), (143, 13), (143, 14), (143, 17), (143, 18), (143, 19), (144, 1), (144, 2), (144, 3), (144, 4), (144, 5), (144, 6), (144, 7), (144, 8), (144, 9), (144, 10), (144, 11), (144, 12), (144, 13), (144, 14), (144, 15), (144, 16), (144, 17), (145, 1), (145, 2), (145, 3), (145, 12), (145, 15), (145, 16), (146, 5), (146, 6), (146, 7), (146, 8), (146, 9), (146, 10), (146, 11), (146, 13), (146, 14), (146, 15), (146, 16), (148, 1), (148, 3), (148, 4), (148, 5), (153, 0), (153, 1)] S G S444 (up G445 142 this 14 n361) := (gr_up g478 rfl)
  refine r_newA hX hP rfl (L := 148) (N := 6) nw_X11_55_148 (by omega) (by omega) (fun n485 S486 G487 n485z n485n n485l g488 n485v => ?_)
  have z489 : S n485 = 0 := gr_zero g484 n485z
  have s490 : S486 this = 142 := gr_lab g488 s447 (by decide)
  have s491 : S486 n5 = 129 := gr_lab g488 s448 (by decide)
  have s492 : S486 af44 = 130 := gr_lab g488 s449 (by decide)
  have s493 : S486 if46 = 154 := gr_lab g488 s450 (by decide)
  have s494 : S486 tf48 = 155 := gr_lab g488 s451 (by decide)
  have s495 : S486 ef50 = 156 := gr_lab g488 s452 (by decide)
  have s496 : S486 pf52 = 157 := gr_lab g488 s453 (by decide)
  have s497 : S486 n56 = 158 := gr_lab g488 s454 (by decide)
  have s498 : S486 n126 = 159 := gr_lab g488 s455 (by decide)
  have s499 : S486 n204 = 94 := gr_lab g488 s456 (by decide)
  have s500 : S486 n243 = 134 := gr_lab g488 s457 (by decide)
  have s501 : S486 n361 = 134 := gr_lab g488 r443.1 (by decide)
  have e502 : 1 = G487 142 this 4 := gr_val g488 e458 s447 (by decide) rfl
  have e503 : n5 = G487 142 this 17 := gr_val g488 e459 s447 (by decide) rfl
  have e504 : af44 = G487 129 n5 9 := gr_val g488 e460 s448 (by decide) rfl
  have e505 : af44 = G487 142 this 5 := gr_val g488 e461 s447 (by decide) rfl
  have e506 : if46 = G487 129 n5 10 := gr_val g488 e462 s448 (by decide) rfl
  have e507 : if46 = G487 142 this 6 := gr_val g488 e463 s447 (by decide) rfl
  have e508 : tf48 = G487 129 n5 11 := gr_val g488 e464 s448 (by decide) rfl
  have e509 : tf48 = G487 142 this 7 := gr_val g488 e465 s447 (by decide) rfl
  have e510 : ef50 = G487 129 n5 12 := gr_val g488 e466 s448 (by decide) rfl
  have e511 : ef50 = G487 142 this 8 := gr_val g488 e467 s447 (by decide) rfl
  have e512 : pf52 = G487 129 n5 13 := gr_val g488 e468 s448 (by decide) rfl
  have e513 : pf52 = G487 142 this 9 := gr_val g488 e469 s447 (by decide) rfl
  have e514 : (Ad E 0) = G487 158 n56 1 := gr_val g488 e470 s454 (by decide) rfl
  have e515 : sip91 = G487 158 n56 2 := gr_val g488 e471 s454 (by decide) rfl
  have e516 : n56 = G487 142 this 10 := gr_val g488 e472 s447 (by decide) rfl
  have e517 : (Ad E 0) = G487 159 n126 1 := gr_val g488 e473 s455 (by decide) rfl
  have e518 : sip165 = G487 159 n126 2 := gr_val g488 e474 s455 (by decide) rfl
  have e519 : n126 = G487 142 this 11 := gr_val g488 e475 s447 (by decide) rfl
  have e520 : n204 = G487 142 this 12 := gr_val g488 e476 s447 (by decide) rfl
  have e521 : n243 = G487 142 this 13 := gr_val g488 e477 s447 (by decide) rfl
  have e522 : n361 = G487 142 this 14 := gr_val g488 h482 s447 (by decide) rfl
  have g523 : Gr [93, 94, 95, 96, 97, 98, 99, 105, 106, 107, 108, 109, 110, 111, 112, 113, 114, 115, 116, 117, 118, 129, 130, 131, 132, 134, 143, 144, 145, 146, 148, 153, 154, 155, 156, 157, 158, 159] [(142, 4), (142, 5), (142, 6), (142, 7), (142, 8), (142, 9), (142, 10), (142, 11), (142, 12), (142, 13), (142, 14), (142, 15), (142, 16), (142, 17), (142, 18), (143, 0), (143, 1), (143, 3), (143, 4), (143, 5), (143, 6), (143, 7), (143, 8), (143, 9), (143, 10), (143, 11), (143, 12), (143, 13), (143, 14), (143, 17), (143, 18), (143, 19), (144, 1), (144, 2), (144, 3), (144, 4), (144, 5), (144, 6), (144, 7), (144, 8), (144, 9), (144, 10), (144, 11), (144, 12), (144, 13), (144, 14), (144, 15), (144, 16), (144, 17), (145, 1), (145, 2), (145, 3), (145, 12), (145, 15), (145, 16), (146, 5), (146, 6), (146, 7), (146, 8), (146, 9), (146, 10), (146, 11), (146, 13), (146, 14), (146, 15), (146, 16), (148, 1), (148, 3), (148, 4), (148, 5), (153, 0), (153, 1)] S G S486 G487 := gr_call g484 g488 rfl rfl
  have u524 : UqL [159, 158, 129, 157, 156, 155, 154, 130] S486 := uq_gr u479 g488 rfl
  have u525 : No [128, 131, 132, 136, 138] S486 := no_gr (no_sub u481 rfl) g488 rfl
  have u526 : EmL E [159, 158, 157, 156, 155, 154] S486 G487 := em_gr u483 g488 rfl
  refine r_ex hX hP 1 (pc' := 132) (st' := [(2, n485), (2, n485), (2, this)]) (lo' := [(0, (2, this))]) rfl ?_
  refine r_callI gd hX hP rfl ci_X11_57 n485n (d' := 3) (mc' := 3) (ms' := 27) (as' := []) (st := [(2, n485), (2, this)]) (by omega) (by omega) (by omega) rfl rfl (Nat.le_of_ble_eq_true rfl) (c_X4_init E S486 G487 n485  n485l) ?_
  rintro _ S527 G528 ⟨g529, rfl, hf530⟩
  have s531 : S527 this = 142 := gr_lab g529 s490 (by decide)
  have s532 : S527 n5 = 129 := gr_lab g529 s491 (by decide)
  have s533 : S527 af44 = 130 := gr_lab g529 s492 (by decide)
  have s534 : S527 if46 = 154 := gr_lab g529 s493 (by decide)
  have s535 : S527 tf48 = 155 := gr_lab g529 s494 (by decide)
  have s536 : S527 ef50 = 156 := gr_lab g529 s495 (by decide)
  have s537 : S527 pf52 = 157 := gr_lab g529 s496 (by decide)
  have s538 : S527 n56 = 158 := gr_lab g529 s497 (by decide)
  have s539 : S527 n126 = 159 := gr_lab g529 s498 (by decide)
  have s540 : S527 n204 = 94 := gr_lab g529 s499 (by decide)
  have s541 : S527 n243 = 134 := gr_lab g529 s500 (by decide)
  have s542 : S527 n361 = 134 := gr_lab g529 s501 (by decide)
  have s543 : S527 n485 = 148 := gr_lab g529 n485l (by decide)
  have e544 : 1 = G528 142 this 4 := gr_val g529 e502 s490 (by decide) rfl
  have e545 : n5 = G528 142 this 17 := gr_val g529 e503 s490 (by decide) rfl
  have e546 : af44 = G528 129 n5 9 := gr_val g529 e504 s491 (by decide) rfl
  have e547 : af44 = G528 142 this 5 := gr_val g529 e505 s490 (by decide) rfl
  have e548 : if46 = G528 129 n5 10 := gr_val g529 e506 s491 (by decide) rfl
  have e549 : if46 = G528 142 this 6 := gr_val g529 e507 s490 (by decide) rfl
  have e550 : tf48 = G528 129 n5 11 := gr_val g529 e508 s491 (by decide) rfl
  have e551 : tf48 = G528 142 this 7 := gr_val g529 e509 s490 (by decide) rfl
  have e552 : ef50 = G528 129 n5 12 := gr_val g529 e510 s491 (by decide) rfl
  have e553 : ef50 = G528 142 this 8 := gr_val g529 e511 s490 (by decide) rfl
  have e554 : pf52 = G528 129 n5 13 := gr_val g529 e512 s491 (by decide) rfl
  have e555 : pf52 = G528 142 this 9 := gr_val g529 e513 s490 (by decide) rfl
  have e556 : (Ad E 0) = G528 158 n56 1 := gr_val g529 e514 s497 (by decide) rfl
  have e557 : sip91 = G528 158 n56 2 := gr_val g529 e515 s497 (by decide) rfl
  have e558 : n56 = G528 142 this 10 := gr_val g529 e516 s490 (by decide) rfl
  have e559 : (Ad E 0) = G528 159 n126 1 := gr_val g529 e517 s498 (by decide) rfl
  have e560 : sip165 = G528 159 n126 2 := gr_val g529 e518 s498 (by decide) rfl
  have e561 : n126 = G528 142 this 11 := gr_val g529 e519 s490 (by decide) rfl
  have e562 : n204 = G528 142 this 12 := gr_val g529 e520 s490 (by decide) rfl
  have e563 : n243 = G528 142 this 13 := gr_val g529 e521 s490 (by decide) rfl
  have e564 : n361 = G528 142 this 14 := gr_val g529 e522 s490 (by decide) rfl
  have g565 : Gr [93, 94, 95, 96, 97, 98, 99, 105, 106, 107, 108, 109, 110, 111, 112, 113, 114, 115, 116, 117, 118, 129, 130, 131, 132, 134, 143, 144, 145, 146, 148, 153, 154, 155, 156, 157, 158, 159] [(142, 4), (142, 5), (142, 6), (142, 7), (142, 8), (142, 9), (142, 10), (142, 11), (142, 12), (142, 13), (142, 14), (142, 15), (142, 16), (142, 17), (142, 18), (143, 0), (143, 1), (143, 3), (143, 4), (143, 5), (143, 6), (143, 7), (143, 8), (143, 9), (143, 10), (143, 11), (143, 12), (143, 13), (143, 14), (143, 17), (143, 18), (143, 19), (144, 1), (144, 2), (144, 3), (144, 4), (144, 5), (144, 6), (144, 7), (144, 8), (144, 9), (144, 10), (144, 11), (144, 12), (144, 13), (144, 14), (144, 15), (144, 16), (144, 17), (145, 1), (145, 2), (145, 3), (145, 12), (145, 15), (145, 16), (146, 5), (146, 6), (146, 7), (146, 8), (146, 9), (146, 10), (146, 11), (146, 13), (146, 14), (146, 15), (146, 16), (148, 1), (148, 3), (148, 4), (148, 5), (153, 0), (153, 1)] S G S527 G528 := gr_call g523 g529 rfl rfl
  have u566 : UqL [159, 158, 129, 157, 156, 155, 154, 130] S527 := uq_gr u524 g529 rfl
  have u567 : No [128, 131, 132, 136, 138] S527 := no_gr (no_sub u525 rfl) g529 rfl
  have u568 : EmL E [159, 158, 157, 156, 155, 154] S527 G528 := em_gr u526 g529 rfl
  refine r_finA hX (L := 148) (ci := 5) (fs := fs_148) rfl s543 (by decide) (fun hr569 => ?_)
  refine r_relabF hX (L := 148) (L' := 134) (ci := 5) (fs := fs_148) (fs' := fs_134) rfl rfl rfl (by decide) (by decide) nf_148 (by decide) s543 hf530 (fun S572 G573 r571 => ?_)
  have s575 : S572 this = 142 := r571.lab s543 s531 (by decide)
  have s576 : S572 n5 = 129 := r571.lab s543 s532 (by decide)
  have s577 : S572 af44 = 130 := r571.lab s543 s533 (by decide)
  have s578 : S572 if46 = 154 := r571.lab s543 s534 (by decide)
  have s579 : S572 tf48 = 155 := r571.lab s543 s535 (by decide)
  have s580 : S572 ef50 = 156 := r571.lab s543 s536 (by decide)
  have s581 : S572 pf52 = 157 := r571.lab s543 s537 (by decide)
  have s582 : S572 n56 = 158 := r571.lab s543 s538 (by decide)
  have s583 : S572 n126 = 159 := r571.lab s543 s539 (by decide)
  have s584 : S572 n204 = 94 := r571.lab s543 s540 (by decide)
  have s585 : S572 n243 = 134 := r571.lab s543 s541 (by decide)
  have s586 : S572 n361 = 134 := r571.lab s543 s542 (by decide)
  have e587 : 1 = G573 142 this 4 := rs_val r571 s543 e544 s531 (by decide)
  have e588 : n5 = G573 142 this 17 := rs_val r571 s543 e545 s531 (by decide)
  have e589 : af44 = G573 129 n5 9 := rs_val r571 s543 e546 s532 (by decide)
  have e590 : af44 = G573 142 this 5 := rs_val r571 s543 e547 s531 (by decide)
  have e591 : if46 = G573 129 n5 10 := rs_val r571 s543 e548 s532 (by decide)
  have e592 : if46 = G573 142 this 6 := rs_val r571 s543 e549 s531 (by decide)
  have e593 : tf48 = G573 129 n5 11 := rs_val r571 s543 e550 s532 (by decide)
  have e594 : tf48 = G573 142 this 7 := rs_val r571 s543 e551 s531 (by decide)
  have e595 : ef50 = G573 129 n5 12 := rs_val r571 s543 e552 s532 (by decide)
  have e596 : ef50 = G573 142 this 8 := rs_val r571 s543 e553 s531 (by decide)
  have e597 : pf52 = G573 129 n5 13 := rs_val r571 s543 e554 s532 (by decide)
  have e598 : pf52 = G573 142 this 9 := rs_val r571 s543 e555 s531 (by decide)
  have e599 : (Ad E 0) = G573 158 n56 1 := rs_val r571 s543 e556 s538 (by decide)
  have e600 : sip91 = G573 158 n56 2 := rs_val r571 s543 e557 s538 (by decide)
  have e601 : n56 = G573 142 this 10 := rs_val r571 s543 e558 s531 (by decide)
  have e602 : (Ad E 0) = G573 159 n126 1 := rs_val r571 s543 e559 s539 (by decide)
  have e603 : sip165 = G573 159 n126 2 := rs_val r571 s543 e560 s539 (by decide)
  have e604 : n126 = G573 142 this 11 := rs_val r571 s543 e561 s531 (by decide)
  have e605 : n204 = G573 142 this 12 := rs_val r571 s543 e562 s531 (by decide)
  have e606 : n243 = G573 142 this 13 := rs_val r571 s543 e563 s531 (by decide)
  have e607 : n361 = G573 142 this 14 := rs_val r571 s543 e564 s531 (by decide)
  have g608 : Gr [93, 94, 95, 96, 97, 98, 99, 105, 106, 107, 108, 109, 110, 111, 112, 113, 114, 115, 116, 117, 118, 129, 130, 131, 132, 134, 143, 144, 145, 146, 148, 153, 154, 155, 156, 157, 158, 159] [(142, 4), (142, 5), (142, 6), (142, 7), (142, 8), (142, 9), (142, 10), (142, 11), (142, 12), (142, 13), (142, 14), (142, 15), (142, 16), (142, 17), (142, 18), (143, 0), (143, 1), (143, 3), (143, 4), (143, 5), (143, 6), (143, 7), (143, 8), (143, 9), (143, 10), (143, 11), (143, 12), (143, 13), (143, 14), (143, 17), (143, 18), (143, 19), (144, 1), (144, 2), (144, 3), (144, 4), (144, 5), (144, 6), (144, 7), (144, 8), (144, 9), (144, 10), (144, 11), (144, 12), (144, 13), (144, 14), (144, 15), (144, 16), (144, 17), (145, 1), (145, 2), (145, 3), (145, 12), (145, 15), (145, 16), (146, 5), (146, 6), (146, 7), (146, 8), (146, 9), (146, 10), (146, 11), (146, 13), (146, 14), (146, 15), (146, 16), (148, 1), (148, 3), (148, 4), (148, 5), (153, 0), (153, 1)] S G S572 G573 := gr_rs g565 r571 z489 rfl
  have u609 : UqL [159, 158, 129, 157, 156, 155, 154, 130] S572 := uq_rsN u566 r571 rfl
  have u610 : EmL E [159, 158, 157, 156, 155, 154] S572 G573 := em_rsN u568 r571 rfl
  have u611 : No [128, 131, 132, 136, 138] S572 := no_rs u567 r571 rfl
  refine r_putFN hX hP rfl rfl fq_X11_65_142 s575 (by decide) (Or.inr r571.1) (fun h612 => ?_)
  refine r_ex hX hP 1 (pc' := 139) (st' := [(2, this)]) (lo' := [(0, (2, this))]) rfl ?_
  have u613 : EmL E [159, 158, 157, 156, 155, 154] S572 (up G573 142 this 15 n485) := (em_up u610 rfl)
  have g614 : Gr [93, 94, 95, 96, 97, 98, 99, 105, 106, 107, 108, 109, 110, 111, 112, 113, 114, 115, 116, 117, 118, 129, 130, 131, 132, 134, 143, 144, 145, 146, 148, 153, 154, 155, 156, 157, 158, 159] [(142, 4), (142, 5), (142, 6), (142, 7), (142, 8), (142, 9), (142, 10), (142, 11), (142, 12), (142, 13), (142, 14), (142, 15), (142, 16), (142, 17), (142, 18), (143, 0), (143, 1), (143, 3), (143, 4), (143, 5), (143, 6), (143, 7), (143, 8), (143, 9), (143, 10), (143, 11), (143, 12), (143, 13), (143, 14), (143, 17), (143, 18), (143, 19), (144, 1), (144, 2), (144, 3), (144, 4), (144, 5), (144, 6), (144, 7), (144, 8), (144, 9), (144, 10), (144, 11), (144, 12), (144, 13), (144, 14), (144, 15), (144, 16), (144, 17), (145, 1), (145, 2), (145, 3), (145, 12), (145, 15), (145, 16), (146, 5), (146, 6), (146, 7), (146, 8), (146, 9), (146, 10), (146, 11), (146, 13), (146, 14), (146, 15), (146, 16), (148, 1), (148, 3), (148, 4), (148, 5), (153, 0), (153, 1)] S G S572 (up G573 142 this 15 n485) := (gr_up g608 rfl)
  refine r_newA hX hP rfl (L := 145) (N := 17) nw_X11_68_145 (by omega) (by omega) (fun n615 S616 G617 n615z n615n n615l g618 n615v => ?_)
  have z619 : S n615 = 0 := gr_zero g614 n615z
  have s620 : S616 this = 142 := gr_lab g618 s575 (by decide)
  have s621 : S616 n5 = 129 := gr_lab g618 s576 (by decide)
  have s622 : S616 af44 = 130 := gr_lab g618 s577 (by decide)
  have s623 : S616 if46 = 154 := gr_lab g618 s578 (by decide)
  have s624 : S616 tf48 = 155 := gr_lab g618 s579 (by decide)
  have s625 : S616 ef50 = 156 := gr_lab g618 s580 (by decide)
  have s626 : S616 pf52 = 157 := gr_lab g618 s581 (by decide)
  have s627 : S616 n56 = 158 := gr_lab g618 s582 (by decide)
  have s628 : S616 n126 = 159 := gr_lab g618 s583 (by decide)
  have s629 : S616 n204 = 94 := gr_lab g618 s584 (by decide)
  have s630 : S616 n243 = 134 := gr_lab g618 s585 (by decide)
  have s631 : S616 n361 = 134 := gr_lab g618 s586 (by decide)
  have s632 : S616 n485 = 134 := gr_lab g618 r571.1 (by decide)
  have e633 : 1 = G617 142 this 4 := gr_val g618 e587 s575 (by decide) rfl
  have e634 : n5 = G617 142 this 17 := gr_val g618 e588 s575 (by decide) rfl
  have e635 : af44 = G617 129 n5 9 := gr_val g618 e589 s576 (by decide) rfl
  have e636 : af44 = G617 142 this 5 := gr_val g618 e590 s575 (by decide) rfl
  have e637 : if46 = G617 129 n5 10 := gr_val g618 e591 s576 (by decide) rfl
  have e638 : if46 = G617 142 this 6 := gr_val g618 e592 s575 (by decide) rfl
  have e639 : tf48 = G617 129 n5 11 := gr_val g618 e593 s576 (by decide) rfl
  have e640 : tf48 = G617 142 this 7 := gr_val g618 e594 s575 (by decide) rfl
  have e641 : ef50 = G617 129 n5 12 := gr_val g618 e595 s576 (by decide) rfl
  have e642 : ef50 = G617 142 this 8 := gr_val g618 e596 s575 (by decide) rfl
  have e643 : pf52 = G617 129 n5 13 := gr_val g618 e597 s576 (by decide) rfl
  have e644 : pf52 = G617 142 this 9 := gr_val g618 e598 s575 (by decide) rfl
  have e645 : (Ad E 0) = G617 158 n56 1 := gr_val g618 e599 s582 (by decide) rfl
  have e646 : sip91 = G617 158 n56 2 := gr_val g618 e600 s582 (by decide) rfl
  have e647 : n56 = G617 142 this 10 := gr_val g618 e601 s575 (by decide) rfl
  have e648 : (Ad E 0) = G617 159 n126 1 := gr_val g618 e602 s583 (by decide) rfl
  have e649 : sip165 = G617 159 n126 2 := gr_val g618 e603 s583 (by decide) rfl
  have e650 : n126 = G617 142 this 11 := gr_val g618 e604 s575 (by decide) rfl
  have e651 : n204 = G617 142 this 12 := gr_val g618 e605 s575 (by decide) rfl
  have e652 : n243 = G617 142 this 13 := gr_val g618 e606 s575 (by decide) rfl
  have e653 : n361 = G617 142 this 14 := gr_val g618 e607 s575 (by decide) rfl
  have e654 : n485 = G617 142 this 15 := gr_val g618 h612 s575 (by decide) rfl
  have g655 : Gr [93, 94, 95, 96, 97, 98, 99, 105, 106, 107, 108, 109, 110, 111, 112, 113, 114, 115, 116, 117, 118, 129, 130, 131, 132, 134, 143, 144, 145, 146, 148, 153, 154, 155, 156, 157, 158, 159] [(142, 4), (142, 5), (142, 6), (142, 7), (142, 8), (142, 9), (142, 10), (142, 11), (142, 12), (142, 13), (142, 14), (142, 15), (142, 16), (142, 17), (142, 18), (143, 0), (143, 1), (143, 3), (143, 4), (143, 5), (143, 6), (143, 7), (143, 8), (143, 9), (143, 10), (143, 11), (143, 12), (143, 13), (143, 14), (143, 17), (143, 18), (143, 19), (144, 1), (144, 2), (144, 3), (144, 4), (144, 5), (144, 6), (144, 7), (144, 8), (144, 9), (144, 10), (144, 11), (144, 12), (144, 13), (144, 14), (144, 15), (144, 16), (144, 17), (145, 1), (145, 2), (145, 3), (145, 12), (145, 15), (145, 16), (146, 5), (146, 6), (146, 7), (146, 8), (146, 9), (146, 10), (146, 11), (146, 13), (146, 14), (146, 15), (146, 16), (148, 1), (148, 3), (148, 4), (148, 5), (153, 0), (153, 1)] S G S616 G617 := gr_call g614 g618 rfl rfl
  have u656 : UqL [159, 158, 129, 157, 156, 155, 154, 130] S616 := uq_gr u609 g618 rfl
  have u657 : No [128, 131, 132, 136, 138] S616 := no_gr (no_sub u611 rfl) g618 rfl
  have u658 : EmL E [159, 158, 157, 156, 155, 154] S616 G617 := em_gr u613 g618 rfl
  refine r_ex hX hP 1 (pc' := 143) (st' := [(2, n615), (2, n615), (2, this)]) (lo' := [(0, (2, this))]) rfl ?_
  refine r_callI gd hX hP rfl ci_X11_70 n615n (d' := 3) (mc' := 4) (ms' := 409) (as' := []) (st := [(2, n615), (2, this)]) (by omega) (by omega) (by omega) rfl rfl (Nat.le_of_ble_eq_true rfl) (c_X6_init E S616 G617 n615  n615l) ?_
  rintro _ S659 G660 ⟨g661, rfl, hf662⟩
  have s663 : S659 this = 142 := gr_lab g661 s620 (by decide)
  have s664 : S659 n5 = 129 := gr_lab g661 s621 (by decide)
  have s665 : S659 af44 = 130 := gr_lab g661 s622 (by decide)
  have s666 : S659 if46 = 154 := gr_lab g661 s623 (by decide)
  have s667 : S659 tf48 = 155 := gr_lab g661 s624 (by decide)
  have s668 : S659 ef50 = 156 := gr_lab g661 s625 (by decide)
  have s669 : S659 pf52 = 157 := gr_lab g661 s626 (by decide)
  have s670 : S659 n56 = 158 := gr_lab g661 s627 (by decide)
  have s671 : S659 n126 = 159 := gr_lab g661 s628 (by decide)
  have s672 : S659 n204 = 94 := gr_lab g661 s629 (by decide)
  have s673 : S659 n243 = 134 := gr_lab g661 s630 (by decide)
  have s674 : S659 n361 = 134 := gr_lab g661 s631 (by decide)
  have s675 : S659 n485 = 134 := gr_lab g661 s632 (by decide)
  have s676 : S659 n615 = 145 := gr_lab g661 n615l (by decide)
  have e677 : 1 = G660 142 this 4 := gr_val g661 e633 s620 (by decide) rfl
  have e678 : n5 = G660 142 this 17 := gr_val g661 e634 s620 (by decide) rfl
  have e679 : af44 = G660 129 n5 9 := gr_val g661 e635 s621 (by decide) rfl
  have e680 : af44 = G660 142 this 5 := gr_val g661 e636 s620 (by decide) rfl
  have e681 : if46 = G660 129 n5 10 := gr_val g661 e637 s621 (by decide) rfl
  have e682 : if46 = G660 142 this 6 := gr_val g661 e638 s620 (by decide) rfl
  have e683 : tf48 = G660 129 n5 11 := gr_val g661 e639 s621 (by decide) rfl
  have e684 : tf48 = G660 142 this 7 := gr_val g661 e640 s620 (by decide) rfl
  have e685 : ef50 = G660 129 n5 12 := gr_val g661 e641 s621 (by decide) rfl
  have e686 : ef50 = G660 142 this 8 := gr_val g661 e642 s620 (by decide) rfl
  have e687 : pf52 = G660 129 n5 13 := gr_val g661 e643 s621 (by decide) rfl
  have e688 : pf52 = G660 142 this 9 := gr_val g661 e644 s620 (by decide) rfl
  have e689 : (Ad E 0) = G660 158 n56 1 := gr_val g661 e645 s627 (by decide) rfl
  have e690 : sip91 = G660 158 n56 2 := gr_val g661 e646 s627 (by decide) rfl
  have e691 : n56 = G660 142 this 10 := gr_val g661 e647 s620 (by decide) rfl
  have e692 : (Ad E 0) = G660 159 n126 1 := gr_val g661 e648 s628 (by decide) rfl
  have e693 : sip165 = G660 159 n126 2 := gr_val g661 e649 s628 (by decide) rfl
  have e694 : n126 = G660 142 this 11 := gr_val g661 e650 s620 (by decide) rfl
  have e695 : n204 = G660 142 this 12 := gr_val g661 e651 s620 (by decide) rfl
  have e696 : n243 = G660 142 this 13 := gr_val g661 e652 s620 (by decide) rfl
  have e697 : n361 = G660 142 this 14 := gr_val g661 e653 s620 (by decide) rfl
  have e698 : n485 = G660 142 this 15 := gr_val g661 e654 s620 (by decide) rfl
  have g699 : Gr [93, 94, 95, 96, 97, 98, 99, 105, 106, 107, 108, 109, 110, 111, 112, 113, 114, 115, 116, 117, 118, 129, 130, 131, 132, 134, 143, 144, 145, 146, 148, 153, 154, 155, 156, 157, 158, 159] [(142, 4), (142, 5), (142, 6), (142, 7), (142, 8), (142, 9), (142, 10), (142, 11), (142, 12), (142, 13), (142, 14), (142, 15), (142, 16), (142, 17), (142, 18), (143, 0), (143, 1), (143, 3), (143, 4), (143, 5), (143, 6), (143, 7), (143, 8), (143, 9), (143, 10), (143, 11), (143, 12), (143, 13), (143, 14), (143, 17), (143, 18), (143, 19), (144, 1), (144, 2), (144, 3), (144, 4), (144, 5), (144, 6), (144, 7), (144, 8), (144, 9), (144, 10), (144, 11), (144, 12), (144, 13), (144, 14), (144, 15), (144, 16), (144, 17), (145, 1), (145, 2), (145, 3), (145, 12), (145, 15), (145, 16), (146, 5), (146, 6), (146, 7), (146, 8), (146, 9), (146, 10), (146, 11), (146, 13), (146, 14), (146, 15), (146, 16), (148, 1), (148, 3), (148, 4), (148, 5), (153, 0), (153, 1)] S G S659 G660 := gr_call g655 g661 rfl rfl
  have u700 : UqL [159, 158, 129, 157, 156, 155, 154, 130] S659 := uq_gr u656 g661 rfl
  have u701 : No [128, 131, 132, 136, 138] S659 := no_gr (no_sub u657 rfl) g661 rfl
  have u702 : EmL E [159, 158, 157, 156, 155, 154] S659 G660 := em_gr u658 g661 rfl
  refine r_finA hX (L := 145) (ci := 7) (fs := fs_145) rfl s676 (by decide) (fun hr703 => ?_)
  refine r_relabF hX (L := 145) (L' := 131) (ci := 7) (fs := fs_145) (fs' := fs_131) rfl rfl rfl (by decide) (by decide) nf_145 (by decide) s676 hf662 (fun S706 G707 r705 => ?_)
  have s709 : S706 this = 142 := r705.lab s676 s663 (by decide)
  have s710 : S706 n5 = 129 := r705.lab s676 s664 (by decide)
  have s711 : S706 af44 = 130 := r705.lab s676 s665 (by decide)
  have s712 : S706 if46 = 154 := r705.lab s676 s666 (by decide)
  have s713 : S706 tf48 = 155 := r705.lab s676 s667 (by decide)
  have s714 : S706 ef50 = 156 := r705.lab s676 s668 (by decide)
  have s715 : S706 pf52 = 157 := r705.lab s676 s669 (by decide)
  have s716 : S706 n56 = 158 := r705.lab s676 s670 (by decide)
  have s717 : S706 n126 = 159 := r705.lab s676 s671 (by decide)
  have s718 : S706 n204 = 94 := r705.lab s676 s672 (by decide)
  have s719 : S706 n243 = 134 := r705.lab s676 s673 (by decide)
  have s720 : S706 n361 = 134 := r705.lab s676 s674 (by decide)
  have s721 : S706 n485 = 134 := r705.lab s676 s675 (by decide)
  have e722 : 1 = G707 142 this 4 := rs_val r705 s676 e677 s663 (by decide)
  have e723 : n5 = G707 142 this 17 := rs_val r705 s676 e678 s663 (by decide)
  have e724 : af44 = G707 129 n5 9 := rs_val r705 s676 e679 s664 (by decide)
  have e725 : af44 = G707 142 this 5 := rs_val r705 s676 e680 s663 (by decide)
  have e726 : if46 = G707 129 n5 10 := rs_val r705 s676 e681 s664 (by decide)
  have e727 : if46 = G707 142 this 6 := rs_val r705 s676 e682 s663 (by decide)
  have e728 : tf48 = G707 129 n5 11 := rs_val r705 s676 e683 s664 (by decide)
  have e729 : tf48 = G707 142 this 7 := rs_val r705 s676 e684 s663 (by decide)
  have e730 : ef50 = G707 129 n5 12 := rs_val r705 s676 e685 s664 (by decide)
  have e731 : ef50 = G707 142 this 8 := rs_val r705 s676 e686 s663 (by decide)
  have e732 : pf52 = G707 129 n5 13 := rs_val r705 s676 e687 s664 (by decide)
  have e733 : pf52 = G707 142 this 9 := rs_val r705 s676 e688 s663 (by decide)
  have e734 : (Ad E 0) = G707 158 n56 1 := rs_val r705 s676 e689 s670 (by decide)
  have e735 : sip91 = G707 158 n56 2 := rs_val r705 s676 e690 s670 (by decide)
  have e736 : n56 = G707 142 this 10 := rs_val r705 s676 e691 s663 (by decide)
  have e737 : (Ad E 0) = G707 159 n126 1 := rs_val r705 s676 e692 s671 (by decide)
  have e738 : sip165 = G707 159 n126 2 := rs_val r705 s676 e693 s671 (by decide)
  have e739 : n126 = G707 142 this 11 := rs_val r705 s676 e694 s663 (by decide)
  have e740 : n204 = G707 142 this 12 := rs_val r705 s676 e695 s663 (by decide)
  have e741 : n243 = G707 142 this 13 := rs_val r705 s676 e696 s663 (by decide)
  have e742 : n361 = G707 142 this 14 := rs_val r705 s676 e697 s663 (by decide)
  have e743 : n485 = G707 142 this 15 := rs_val r705 s676 e698 s663 (by decide)
  have g744 : Gr [93, 94, 95, 96, 97, 98, 99, 105, 106, 107, 108, 109, 110, 111, 112, 113, 114, 115, 116, 117, 118, 129, 130, 131, 132, 134, 143, 144, 145, 146, 148, 153, 154, 155, 156, 157, 158, 159] [(142, 4), (142, 5), (142, 6), (142, 7), (142, 8), (142, 9), (142, 10), (142, 11), (142, 12), (142, 13), (142, 14), (142, 15), (142, 16), (142, 17), (142, 18), (143, 0), (143, 1), (143, 3), (143, 4), (143, 5), (143, 6), (143, 7), (143, 8), (143, 9), (143, 10), (143, 11), (143, 12), (143, 13), (143, 14), (143, 17), (143, 18), (143, 19), (144, 1), (144, 2), (144, 3), (144, 4), (144, 5), (144, 6), (144, 7), (144, 8), (144, 9), (144, 10), (144, 11), (144, 12), (144, 13), (144, 14), (144, 15), (144, 16), (144, 17), (145, 1), (145, 2), (145, 3), (145, 12), (145, 15), (145, 16), (146, 5), (146, 6), (146, 7), (146, 8), (146, 9), (146, 10), (146, 11), (146, 13), (146, 14), (146, 15), (146, 16), (148, 1), (148, 3), (148, 4), (148, 5), (153, 0), (153, 1)] S G S706 G707 := gr_rs g699 r705 z619 rfl
  have u745 : UqL [131, 159, 158, 129, 157, 156, 155, 154, 130] S706 := uq_rs u700 (no_sub u701 rfl) r705 rfl
  have u746 : EmL E [159, 158, 157, 156, 155, 154] S706 G707 := em_rsN u702 r705 rfl
  have u747 : No [128, 132, 136, 138] S706 := no_rs u701 r705 rfl
  refine r_putFN hX hP rfl rfl fq_X11_71_142 s709 (by decide) (Or.inr r705.1) (fun h748 => ?_)
  refine r_ex hX hP 1 (pc' := 150) (st' := [(2, this)]) (lo' := [(0, (2, this))]) rfl ?_
  have u749 : EmL E [159, 158, 157, 156, 155, 154] S706 (up G707 142 this 16 n615) := (em_up u746 rfl)
  have g750 : Gr [93, 94, 95, 96, 97, 98, 99, 105, 106, 107, 108, 109, 110, 111, 112, 113, 114, 115, 116, 117, 118, 129, 130, 131, 132, 134, 143, 144, 145, 146, 148, 153, 154, 155, 156, 157, 158, 159] [(142, 4), (142, 5), (142, 6), (142, 7), (142, 8), (142, 9), (142, 10), (142, 11), (142, 12), (142, 13), (142, 14), (142, 15), (142, 16), (142, 17), (142, 18), (143, 0), (143, 1), (143, 3), (143, 4), (143, 5), (143, 6), (143, 7), (143, 8), (143, 9), (143, 10), (143, 11), (143, 12), (143, 13), (143, 14), (143, 17), (143, 18), (143, 19), (144, 1), (144, 2), (144, 3), (144, 4), (144, 5), (144, 6), (144, 7), (144, 8), (144, 9), (144, 10), (144, 11), (144, 12), (144, 13), (144, 14), (144, 15), (144, 16), (144, 17), (145, 1), (145, 2), (145, 3), (145, 12), (145, 15), (145, 16), (146, 5), (146, 6), (146, 7), (146, 8), (146, 9), (146, 10), (146, 11), (146, 13), (146, 14), (146, 15), (146, 16), (148, 1), (148, 3), (148, 4), (148, 5), (153, 0), (153, 1)] S G S706 (up G707 142 this 16 n615) := (gr_up g744 rfl)
  refine r_newA hX hP rfl (L := 146) (N := 17) nw_X11_75_146 (by omega) (by omega) (fun n751 S752 G753 n751z n751n n751l g754 n751v => ?_)
  have z755 : S n751 = 0 := gr_zero g750 n751z
  have s756 : S752 this = 142 := gr_lab g754 s709 (by decide)
  have s757 : S752 n5 = 129 := gr_lab g754 s710 (by decide)
  have s758 : S752 af44 = 130 := gr_lab g754 s711 (by decide)
  have s759 : S752 if46 = 154 := gr_lab g754 s712 (by decide)
  have s760 : S752 tf48 = 155 := gr_lab g754 s713 (by decide)
  have s761 : S752 ef50 = 156 := gr_lab g754 s714 (by decide)
  have s762 : S752 pf52 = 157 := gr_lab g754 s715 (by decide)
  have s763 : S752 n56 = 158 := gr_lab g754 s716 (by decide)
  have s764 : S752 n126 = 159 := gr_lab g754 s717 (by decide)
  have s765 : S752 n204 = 94 := gr_lab g754 s718 (by decide)
  have s766 : S752 n243 = 134 := gr_lab g754 s719 (by decide)
  have s767 : S752 n361 = 134 := gr_lab g754 s720 (by decide)
  have s768 : S752 n485 = 134 := gr_lab g754 s721 (by decide)
  have s769 : S752 n615 = 131 := gr_lab g754 r705.1 (by decide)
  have e770 : 1 = G753 142 this 4 := gr_val g754 e722 s709 (by decide) rfl
  have e771 : n5 = G753 142 this 17 := gr_val g754 e723 s709 (by decide) rfl
  have e772 : af44 = G753 129 n5 9 := gr_val g754 e724 s710 (by decide) rfl
  have e773 : af44 = G753 142 this 5 := gr_val g754 e725 s709 (by decide) rfl
  have e774 : if46 = G753 129 n5 10 := gr_val g754 e726 s710 (by decide) rfl
  have e775 : if46 = G753 142 this 6 := gr_val g754 e727 s709 (by decide) rfl
  have e776 : tf48 = G753 129 n5 11 := gr_val g754 e728 s710 (by decide) rfl
  have e777 : tf48 = G753 142 this 7 := gr_val g754 e729 s709 (by decide) rfl
  have e778 : ef50 = G753 129 n5 12 := gr_val g754 e730 s710 (by decide) rfl
  have e779 : ef50 = G753 142 this 8 := gr_val g754 e731 s709 (by decide) rfl
  have e780 : pf52 = G753 129 n5 13 := gr_val g754 e732 s710 (by decide) rfl
  have e781 : pf52 = G753 142 this 9 := gr_val g754 e733 s709 (by decide) rfl
  have e782 : (Ad E 0) = G753 158 n56 1 := gr_val g754 e734 s716 (by decide) rfl
  have e783 : sip91 = G753 158 n56 2 := gr_val g754 e735 s716 (by decide) rfl
  have e784 : n56 = G753 142 this 10 := gr_val g754 e736 s709 (by decide) rfl
  have e785 : (Ad E 0) = G753 159 n126 1 := gr_val g754 e737 s717 (by decide) rfl
  have e786 : sip165 = G753 159 n126 2 := gr_val g754 e738 s717 (by decide) rfl
  have e787 : n126 = G753 142 this 11 := gr_val g754 e739 s709 (by decide) rfl
  have e788 : n204 = G753 142 this 12 := gr_val g754 e740 s709 (by decide) rfl
  have e789 : n243 = G753 142 this 13 := gr_val g754 e741 s709 (by decide) rfl
  have e790 : n361 = G753 142 this 14 := gr_val g754 e742 s709 (by decide) rfl
  have e791 : n485 = G753 142 this 15 := gr_val g754 e743 s709 (by decide) rfl
  have e792 : n615 = G753 142 this 16 := gr_val g754 h748 s709 (by decide) rfl
  have g793 : Gr [93, 94, 95, 96, 97, 98, 99, 105, 106, 107, 108, 109, 110, 111, 112, 113, 114, 115, 116, 117, 118, 129, 130, 131, 132, 134, 143, 144, 145, 146, 148, 153, 154, 155, 156, 157, 158, 159] [(142, 4), (142, 5), (142, 6), (142, 7), (142, 8), (142, 9), (142, 10), (142, 11), (142, 12), (142, 13), (142, 14), (142, 15), (142, 16), (142, 17), (142, 18), (143, 0), (143, 1), (143, 3), (143, 4), (143, 5), (143, 6), (143, 7), (143, 8), (143, 9), (143, 10), (143, 11), (143, 12), (143, 13), (143, 14), (143, 17), (143, 18), (143, 19), (144, 1), (144, 2), (144, 3), (144, 4), (144, 5), (144, 6), (144, 7), (144, 8), (144, 9), (144, 10), (144, 11), (144, 12), (144, 13), (144, 14), (144, 15), (144, 16), (144, 17), (145, 1), (145, 2), (145, 3), (145, 12), (145, 15), (145, 16), (146, 5), (146, 6), (146, 7), (146, 8), (146, 9), (146, 10), (146, 11), (146, 13), (146, 14), (146, 15), (146, 16), (148, 1), (148, 3), (148, 4), (148, 5), (153, 0), (153, 1)] S G S752 G753 := gr_call g750 g754 rfl rfl
  have u794 : UqL [131, 159, 158, 129, 157, 156, 155, 154, 130] S752 := uq_gr u745 g754 rfl
  have u795 : No [128, 132, 136, 138] S752 := no_gr (no_sub u747 rfl) g754 rfl
  have u796 : EmL E [159, 158, 157, 156, 155, 154] S752 G753 := em_gr u749 g754 rfl
  refine r_ex hX hP 1 (pc' := 154) (st' := [(2, n751), (2, n751), (2, this)]) (lo' := [(0, (2, this))]) rfl ?_
  refine r_callI gd hX hP rfl ci_X11_77 n751n (d' := 3) (mc' := 11) (ms' := 136) (as' := []) (st := [(2, n751), (2, this)]) (by omega) (by omega) (by omega) rfl rfl (Nat.le_of_ble_eq_true rfl) (c_X7_init E S752 G753 n751  n751l) ?_
  rintro _ S797 G798 ⟨g799, rfl, hf800⟩
  have s801 : S797 this = 142 := gr_lab g799 s756 (by decide)
  have s802 : S797 n5 = 129 := gr_lab g799 s757 (by decide)
  have s803 : S797 af44 = 130 := gr_lab g799 s758 (by decide)
  have s804 : S797 if46 = 154 := gr_lab g799 s759 (by decide)
  have s805 : S797 tf48 = 155 := gr_lab g799 s760 (by decide)
  have s806 : S797 ef50 = 156 := gr_lab g799 s761 (by decide)
  have s807 : S797 pf52 = 157 := gr_lab g799 s762 (by decide)
  have s808 : S797 n56 = 158 := gr_lab g799 s763 (by decide)
  have s809 : S797 n126 = 159 := gr_lab g799 s764 (by decide)
  have s810 : S797 n204 = 94 := gr_lab g799 s765 (by decide)
  have s811 : S797 n243 = 134 := gr_lab g799 s766 (by decide)
  have s812 : S797 n361 = 134 := gr_lab g799 s767 (by decide)
  have s813 : S797 n485 = 134 := gr_lab g799 s768 (by decide)
  have s814 : S797 n615 = 131 := gr_lab g799 s769 (by decide)
  have s815 : S797 n751 = 146 := gr_lab g799 n751l (by decide)
  have e816 : 1 = G798 142 this 4 := gr_val g799 e770 s756 (by decide) rfl
  have e817 : n5 = G798 142 this 17 := gr_val g799 e771 s756 (by decide) rfl
  have e818 : af44 = G798 129 n5 9 := gr_val g799 e772 s757 (by decide) rfl
  have e819 : af44 = G798 142 this 5 := gr_val g799 e773 s756 (by decide) rfl
  have e820 : if46 = G798 129 n5 10 := gr_val g799 e774 s757 (by decide) rfl
  have e821 : if46 = G798 142 this 6 := gr_val g799 e775 s756 (by decide) rfl
  have e822 : tf48 = G798 129 n5 11 := gr_val g799 e776 s757 (by decide) rfl
  have e823 : tf48 = G798 142 this 7 := gr_val g799 e777 s756 (by decide) rfl
  have e824 : ef50 = G798 129 n5 12 := gr_val g799 e778 s757 (by decide) rfl
  have e825 : ef50 = G798 142 this 8 := gr_val g799 e779 s756 (by decide) rfl
  have e826 : pf52 = G798 129 n5 13 := gr_val g799 e780 s757 (by decide) rfl
  have e827 : pf52 = G798 142 this 9 := gr_val g799 e781 s756 (by decide) rfl
  have e828 : (Ad E 0) = G798 158 n56 1 := gr_val g799 e782 s763 (by decide) rfl
  have e829 : sip91 = G798 158 n56 2 := gr_val g799 e783 s763 (by decide) rfl
  have e830 : n56 = G798 142 this 10 := gr_val g799 e784 s756 (by decide) rfl
  have e831 : (Ad E 0) = G798 159 n126 1 := gr_val g799 e785 s764 (by decide) rfl
  have e832 : sip165 = G798 159 n126 2 := gr_val g799 e786 s764 (by decide) rfl
  have e833 : n126 = G798 142 this 11 := gr_val g799 e787 s756 (by decide) rfl
  have e834 : n204 = G798 142 this 12 := gr_val g799 e788 s756 (by decide) rfl
  have e835 : n243 = G798 142 this 13 := gr_val g799 e789 s756 (by decide) rfl
  have e836 : n361 = G798 142 this 14 := gr_val g799 e790 s756 (by decide) rfl
  have e837 : n485 = G798 142 this 15 := gr_val g799 e791 s756 (by decide) rfl
  have e838 : n615 = G798 142 this 16 := gr_val g799 e792 s756 (by decide) rfl
  have g839 : Gr [93, 94, 95, 96, 97, 98, 99, 105, 106, 107, 108, 109, 110, 111, 112, 113, 114, 115, 116, 117, 118, 129, 130, 131, 132, 134, 143, 144, 145, 146, 148, 153, 154, 155, 156, 157, 158, 159] [(142, 4), (142, 5), (142, 6), (142, 7), (142, 8), (142, 9), (142, 10), (142, 11), (142, 12), (142, 13), (142, 14), (142, 15), (142, 16), (142, 17), (142, 18), (143, 0), (143, 1), (143, 3), (143, 4), (143, 5), (143, 6), (143, 7), (143, 8), (143, 9), (143, 10), (143, 11), (143, 12), (143, 13), (143, 14), (143, 17), (143, 18), (143, 19), (144, 1), (144, 2), (144, 3), (144, 4), (144, 5), (144, 6), (144, 7), (144, 8), (144, 9), (144, 10), (144, 11), (144, 12), (144, 13), (144, 14), (144, 15), (144, 16), (144, 17), (145, 1), (145, 2), (145, 3), (145, 12), (145, 15), (145, 16), (146, 5), (146, 6), (146, 7), (146, 8), (146, 9), (146, 10), (146, 11), (146, 13), (146, 14), (146, 15), (146, 16), (148, 1), (148, 3), (148, 4), (148, 5), (153, 0), (153, 1)] S G S797 G798 := gr_call g793 g799 rfl rfl
  have u840 : UqL [131, 159, 158, 129, 157, 156, 155, 154, 130] S797 := uq_gr u794 g799 rfl
  have u841 : No [128, 132, 136, 138] S797 := no_gr (no_sub u795 rfl) g799 rfl
  have u842 : EmL E [159, 158, 157, 156, 155, 154] S797 G798 := em_gr u796 g799 rfl
  refine r_finA hX (L := 146) (ci := 8) (fs := fs_146) rfl s815 (by decide) (fun hr843 => ?_)
  refine r_relabF hX (L := 146) (L' := 132) (ci := 8) (fs := fs_146) (fs' := fs_132) rfl rfl rfl (by decide) (by decide) nf_146 (by decide) s815 hf800 (fun S846 G847 r845 => ?_)
  have s849 : S846 this = 142 := r845.lab s815 s801 (by decide)
  have s850 : S846 n5 = 129 := r845.lab s815 s802 (by decide)
  have s851 : S846 af44 = 130 := r845.lab s815 s803 (by decide)
  have s852 : S846 if46 = 154 := r845.lab s815 s804 (by decide)
  have s853 : S846 tf48 = 155 := r845.lab s815 s805 (by decide)
  have s854 : S846 ef50 = 156 := r845.lab s815 s806 (by decide)
  have s855 : S846 pf52 = 157 := r845.lab s815 s807 (by decide)
  have s856 : S846 n56 = 158 := r845.lab s815 s808 (by decide)
  have s857 : S846 n126 = 159 := r845.lab s815 s809 (by decide)
  have s858 : S846 n204 = 94 := r845.lab s815 s810 (by decide)
  have s859 : S846 n243 = 134 := r845.lab s815 s811 (by decide)
  have s860 : S846 n361 = 134 := r845.lab s815 s812 (by decide)
  have s861 : S846 n485 = 134 := r845.lab s815 s813 (by decide)
  have s862 : S846 n615 = 131 := r845.lab s815 s814 (by decide)
  have e863 : 1 = G847 142 this 4 := rs_val r845 s815 e816 s801 (by decide)
  have e864 : n5 = G847 142 this 17 := rs_val r845 s815 e817 s801 (by decide)
  have e865 : af44 = G847 129 n5 9 := rs_val r845 s815 e818 s802 (by decide)
  have e866 : af44 = G847 142 this 5 := rs_val r845 s815 e819 s801 (by decide)
  have e867 : if46 = G847 129 n5 10 := rs_val r845 s815 e820 s802 (by decide)
  have e868 : if46 = G847 142 this 6 := rs_val r845 s815 e821 s801 (by decide)
  have e869 : tf48 = G847 129 n5 11 := rs_val r845 s815 e822 s802 (by decide)
  have e870 : tf48 = G847 142 this 7 := rs_val r845 s815 e823 s801 (by decide)
  have e871 : ef50 = G847 129 n5 12 := rs_val r845 s815 e824 s802 (by decide)
  have e872 : ef50 = G847 142 this 8 := rs_val r845 s815 e825 s801 (by decide)
  have e873 : pf52 = G847 129 n5 13 := rs_val r845 s815 e826 s802 (by decide)
  have e874 : pf52 = G847 142 this 9 := rs_val r845 s815 e827 s801 (by decide)
  have e875 : (Ad E 0) = G847 158 n56 1 := rs_val r845 s815 e828 s808 (by decide)
  have e876 : sip91 = G847 158 n56 2 := rs_val r845 s815 e829 s808 (by decide)
  have e877 : n56 = G847 142 this 10 := rs_val r845 s815 e830 s801 (by decide)
  have e878 : (Ad E 0) = G847 159 n126 1 := rs_val r845 s815 e831 s809 (by decide)
  have e879 : sip165 = G847 159 n126 2 := rs_val r845 s815 e832 s809 (by decide)
  have e880 : n126 = G847 142 this 11 := rs_val r845 s815 e833 s801 (by decide)
  have e881 : n204 = G847 142 this 12 := rs_val r845 s815 e834 s801 (by decide)
  have e882 : n243 = G847 142 this 13 := rs_val r845 s815 e835 s801 (by decide)
  have e883 : n361 = G847 142 this 14 := rs_val r845 s815 e836 s801 (by decide)
  have e884 : n485 = G847 142 this 15 := rs_val r845 s815 e837 s801 (by decide)
  have e885 : n615 = G847 142 this 16 := rs_val r845 s815 e838 s801 (by decide)
  have g886 : Gr [93, 94, 95, 96, 97, 98, 99, 105, 106, 107, 108, 109, 110, 111, 112, 113, 114, 115, 116, 117, 118, 129, 130, 131, 132, 134, 143, 144, 145, 146, 148, 153, 154, 155, 156, 157, 158, 159] [(142, 4), (142, 5), (142, 6), (142, 7), (142, 8), (142, 9), (142, 10), (142, 11), (142, 12), (142, 13), (142, 14), (142, 15), (142, 16), (142, 17), (142, 18), (143, 0), (143, 1), (143, 3), (143, 4), (143, 5), (143, 6), (143, 7), (143, 8), (143, 9), (143, 10), (143, 11), (143, 12), (143, 13), (143, 14), (143, 17), (143, 18), (143, 19), (144, 1), (144, 2), (144, 3), (144, 4), (144, 5), (144, 6), (144, 7), (144, 8), (144, 9), (144, 10), (144, 11), (144, 12), (144, 13), (144, 14), (144, 15), (144, 16), (144, 17), (145, 1), (145, 2), (145, 3), (145, 12), (145, 15), (145, 16), (146, 5), (146, 6), (146, 7), (146, 8), (146, 9), (146, 10), (146, 11), (146, 13), (146, 14), (146, 15), (146, 16), (148, 1), (148, 3), (148, 4), (148, 5), (153, 0), (153, 1)] S G S846 G847 := gr_rs g839 r845 z755 rfl
  have u887 : UqL [132, 131, 159, 158, 129, 157, 156, 155, 154, 130] S846 := uq_rs u840 (no_sub u841 rfl) r845 rfl
  have u888 : EmL E [159, 158, 157, 156, 155, 154] S846 G847 := em_rsN u842 r845 rfl
  have u889 : No [128, 136, 138] S846 := no_rs u841 r845 rfl
  refine r_putFN hX hP rfl rfl fq_X11_78_142 s849 (by decide) (Or.inr r845.1) (fun h890 => ?_)
  refine r_finA hX (L := 142) (ci := 11) (fs := fs_142) rfl s849 (by decide) (fun hr891 => ?_)
  have hf892 : Fnl E fs_128 142 S846 (up G847 142 this 18 n751) this := by
    intro j hj
    rcases (by have : j < 20 := hj; omega : j = 0 ∨ j = 1 ∨ j = 2 ∨ j = 3 ∨ j = 4 ∨ j = 5 ∨ j = 6 ∨ j = 7 ∨ j = 8 ∨ j = 9 ∨ j = 10 ∨ j = 11 ∨ j = 12 ∨ j = 13 ∨ j = 14 ∨ j = 15 ∨ j = 16 ∨ j = 17 ∨ j = 18 ∨ j = 19) with rfl | rfl | rfl | rfl | rfl | rfl | rfl | rfl | rfl | rfl | rfl | rfl | rfl | rfl | rfl | rfl | rfl | rfl | rfl | rfl
    · exact hr891 0 (by decide)
    · exact hr891 1 (by decide)
    · exact hr891 2 (by decide)
    · exact hr891 3 (by decide)
    · exact hr891 4 (by decide)
    · exact ⟨lab_of e866 s851, by decide⟩
    · exact ⟨lab_of e868 s852, by decide⟩
    · exact ⟨lab_of e870 s853, by decide⟩
    · exact ⟨lab_of e872 s854, by decide⟩
    · exact ⟨lab_of e874 s855, by decide⟩
    · exact ⟨lab_of e877 s856, by decide⟩
    · exact ⟨lab_of e880 s857, by decide⟩
    · exact ⟨lab_of e881 s858, by decide⟩
    · exact ⟨lab_of e882 s859, by decide⟩
    · exact ⟨lab_of e883 s860, by decide⟩
    · exact ⟨lab_of e884 s861, by decide⟩
    · exact ⟨lab_of e885 s862, by decide⟩
    · exact ⟨lab_of e864 s850, by decide⟩
    · exact ⟨lab_of h890 r845.1, by decide⟩
    · exact hr891 19 (by decide)
  have u893 : EmL E [159, 158, 157, 156, 155, 154] S846 (up G847 142 this 18 n751) := (em_up u888 rfl)
  have g894 : Gr [93, 94, 95, 96, 97, 98, 99, 105, 106, 107, 108, 109, 110, 111, 112, 113, 114, 115, 116, 117, 118, 129, 130, 131, 132, 134, 143, 144, 145, 146, 148, 153, 154, 155, 156, 157, 158, 159] [(142, 4), (142, 5), (142, 6), (142, 7), (142, 8), (142, 9), (142, 10), (142, 11), (142, 12), (142, 13), (142, 14), (142, 15), (142, 16), (142, 17), (142, 18), (143, 0), (143, 1), (143, 3), (143, 4), (143, 5), (143, 6), (143, 7), (143, 8), (143, 9), (143, 10), (143, 11), (143, 12), (143, 13), (143, 14), (143, 17), (143, 18), (143, 19), (144, 1), (144, 2), (144, 3), (144, 4), (144, 5), (144, 6), (144, 7), (144, 8), (144, 9), (144, 10), (144, 11), (144, 12), (144, 13), (144, 14), (144, 15), (144, 16), (144, 17), (145, 1), (145, 2), (145, 3), (145, 12), (145, 15), (145, 16), (146, 5), (146, 6), (146, 7), (146, 8), (146, 9), (146, 10), (146, 11), (146, 13), (146, 14), (146, 15), (146, 16), (148, 1), (148, 3), (148, 4), (148, 5), (153, 0), (153, 1)] S G S846 (up G847 142 this 18 n751) := (gr_up g886 rfl)
  exact r_retV hX hP rfl rfl (by omega) (by omega) ⟨g894, rfl, u887, u893, (no_sub u889 rfl), hf892⟩
