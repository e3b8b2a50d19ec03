theorem fl_X8_10_143 : Fl RX8 10 143 0 (0, 0, 40000) := ⟨9, 20, fs_143, RX8, TX8, rfl, rfl, by decide, rfl, by decide, rfl, cf_X8, (tbg sg1 151 rfl rfl)⟩
theorem fp_X8_10_143 : Fp RX8 10 143 0 (0, 0, 40000) := ⟨fl_X8_10_143, 9, 20, fs_143, RX8, TX8, .int, rfl, rfl, rfl, by decide +kernel, fun E S x h => ⟨rfl, rfl⟩⟩
theorem fl_X8_16_143 : Fl RX8 16 143 1 (0, 0, 1) := ⟨9, 20, fs_143, RX8, TX8, rfl, rfl, by decide, rfl, by decide, rfl, cf_X8, (tbg sg1 153 rfl rfl)⟩
theorem fp_X8_16_143 : Fp RX8 16 143 1 (0, 0, 1) := ⟨fl_X8_16_143, 9, 20, fs_143, RX8, TX8, .boolean, rfl, rfl, rfl, by decide +kernel, fun E S x h => zfit h⟩
theorem fl_X8_22_143 : Fl RX8 22 143 3 (3, 114, 0) := ⟨9, 20, fs_143, RX8, TX8, rfl, rfl, by decide, rfl, by decide, rfl, cf_X8, (tbg sg1 157 rfl rfl)⟩
theorem fq_X8_22_143 : Fpf RX8 22 143 3 (3, 114, 0) := ⟨fl_X8_22_143, 9, 20, fs_143, RX8, TX8, (.array (.array (.long))), rfl, rfl, rfl, rfl, by decide +kernel, fun E S x h => reffit (fun _ => rfl) ⟨rfl, fun _ => rfl⟩ (by decide) x⟩
theorem fl_X8_25_143 : Fl RX8 25 143 4 (3, 114, 0) := ⟨9, 20, fs_143, RX8, TX8, rfl, rfl, by decide, rfl, by decide, rfl, cf_X8, (tbg sg1 160 rfl rfl)⟩
theorem fq_X8_25_143 : Fpf RX8 25 143 4 (3, 114, 0) := ⟨fl_X8_25_143, 9, 20, fs_143, RX8, TX8, (.array (.array (.long))), rfl, rfl, rfl, rfl, by decide +kernel, fun E S x h => reffit (fun _ => rfl) ⟨rfl, fun _ => rfl⟩ (by decide) x⟩
theorem fl_X8_28_143 : Fl RX8 28 143 5 (3, 95, 0) := ⟨9, 20, fs_143, RX8, TX8, rfl, rfl, by decide, rfl, by decide, rfl, cf_X8, (tbg sg1 162 rfl rfl)⟩
theorem fq_X8_28_143 : Fpf RX8 28 143 5 (3, 95, 0) := ⟨fl_X8_28_143, 9, 20, fs_143, RX8, TX8, (.array (.long)), rfl, rfl, rfl, rfl, by decide +kernel, fun E S x h => reffit (fun _ => rfl) ⟨rfl, fun _ => rfl⟩ (by decide) x⟩
theorem fl_X8_32_143 : Fl RX8 32 143 6 (3, 95, 0) := ⟨9, 20, fs_143, RX8, TX8, rfl, rfl, by decide, rfl, by decide, rfl, cf_X8, (tbg sg1 164 rfl rfl)⟩
theorem fq_X8_32_143 : Fpf RX8 32 143 6 (3, 95, 0) := ⟨fl_X8_32_143, 9, 20, fs_143, RX8, TX8, (.array (.long)), rfl, rfl, rfl, rfl, by decide +kernel, fun E S x h => reffit (fun _ => rfl) ⟨rfl, fun _ => rfl⟩ (by decide) x⟩
theorem fl_X8_35_143 : Fl RX8 35 143 7 (3, 115, 0) := ⟨9, 20, fs_143, RX8, TX8, rfl, rfl, by decide, rfl, by decide, rfl, cf_X8, (tbg sg1 166 rfl rfl)⟩
theorem fq_X8_35_143 : Fpf RX8 35 143 7 (3, 115, 0) := ⟨fl_X8_35_143, 9, 20, fs_143, RX8, TX8, (.array (.int)), rfl, rfl, rfl, rfl, by decide +kernel, fun E S x h => reffit (fun _ => rfl) ⟨rfl, fun _ => rfl⟩ (by decide) x⟩
theorem fl_X8_39_143 : Fl RX8 39 143 8 (3, 117, 0) := ⟨9, 20, fs_143, RX8, TX8, rfl, rfl, by decide, rfl, by decide, rfl, cf_X8, (tbg sg1 169 rfl rfl)⟩
theorem fq_X8_39_143 : Fpf RX8 39 143 8 (3, 117, 0) := ⟨fl_X8_39_143, 9, 20, fs_143, RX8, TX8, (.array (.array (.long))), rfl, rfl, rfl, rfl, by decide +kernel, fun E S x h => reffit (fun _ => rfl) ⟨rfl, fun _ => rfl⟩ (by decide) x⟩
theorem nw_X8_42_144 : Nw RX8 42 144 18 := ⟨1, fs_144, RX0, TX0, tyX0, rfl, rfl, by decide, rfl, tbs [232, 234, 236, 238, 240, 242, 244, 246, 248, 250, 252, 254, 256, 258, 260, 262, 264, 266] (by decide +kernel), tyX0_ok, (tbg sg1 44 rfl rfl), (tbg sg1 45 rfl rfl), (tbg sg1 3 rfl rfl), by decide⟩
theorem co_X0_init : Co mX0_init 0 := ⟨(tbg sg1 48 rfl rfl), (tbg sg1 3 rfl rfl), by decide, by decide, by decide +kernel, by decide⟩
theorem cn_X8_44 : CiN RX8 44 mX0_init 0 := ⟨co_X0_init, ⟨"ShareLife", (List.mem_filter.mpr ⟨sg1 _ (List.mem_of_getElem? (i := 46) rfl), rfl⟩)⟩, rfl, (tbg sg1 47 rfl rfl), rfl⟩
theorem nf_144 : norf 144 = true := by decide +kernel
theorem fl_X8_45_143 : Fl RX8 45 143 9 (3, 130, 0) := ⟨9, 20, fs_143, RX8, TX8, rfl, rfl, by decide, rfl, by decide, rfl, cf_X8, (tbg sg1 172 rfl rfl)⟩
theorem fq_X8_45_143 : Fpf RX8 45 143 9 (3, 130, 0) := ⟨fl_X8_45_143, 9, 20, fs_143, RX8, TX8, (.object "ShareLife$Accounts"), rfl, rfl, rfl, rfl, by decide +kernel, fun E S x h => reffit (fun _ => rfl) ⟨rfl, fun _ => rfl⟩ (by decide) x⟩
theorem nw_X8_49_153 : Nw RX8 49 153 3 := ⟨0, fs_153, RJx4a65c, TJx4a65c, tyJx4a65c, rfl, rfl, by decide, rfl, tbs [294, 290, 292] (by decide +kernel), tyJx4a65c_ok, (tbg sg1 125 rfl rfl), (tbg sg1 126 rfl rfl), (tbg sg1 6 rfl rfl), by decide⟩
theorem co_Jx4a65c_init_da8c8 : Co mJx4a65c_init_da8c8 0 := ⟨(tbg sg1 129 rfl rfl), (tbg sg1 6 rfl rfl), by decide, by decide, by decide +kernel, by decide⟩
theorem ci_X8_51 : Ci RX8 51 mJx4a65c_init_da8c8 0 := ⟨co_Jx4a65c_init_da8c8, (tbg sg1 127 rfl rfl), rfl, (tbg sg1 128 rfl rfl), rfl⟩
theorem nf_153 : norf 153 = true := by decide +kernel
theorem fl_X8_52_143 : Fl RX8 52 143 10 (3, 154, 0) := ⟨9, 20, fs_143, RX8, TX8, rfl, rfl, by decide, rfl, by decide, rfl, cf_X8, (tbg sg1 174 rfl rfl)⟩
theorem fq_X8_52_143 : Fpf RX8 52 143 10 (3, 154, 0) := ⟨fl_X8_52_143, 9, 20, fs_143, RX8, TX8, (.object "java/util/ArrayList"), rfl, rfl, rfl, rfl, by decide +kernel, fun E S x h => reffit (fun _ => rfl) ⟨rfl, fun _ => rfl⟩ (by decide) x⟩
theorem fl_X8_56_143 : Fl RX8 56 143 11 (3, 155, 0) := ⟨9, 20, fs_143, RX8, TX8, rfl, rfl, by decide, rfl, by decide, rfl, cf_X8, (tbg sg1 177 rfl rfl)⟩
theorem fq_X8_56_143 : Fpf RX8 56 143 11 (3, 155, 0) := ⟨fl_X8_56_143, 9, 20, fs_143, RX8, TX8, (.object "java/util/ArrayList"), rfl, rfl, rfl, rfl, by decide +kernel, fun E S x h => reffit (fun _ => rfl) ⟨rfl, fun _ => rfl⟩ (by decide) x⟩
theorem fl_X8_59_143 : Fl RX8 59 143 12 (3, 156, 0) := ⟨9, 20, fs_143, RX8, TX8, rfl, rfl, by decide, rfl, by decide, rfl, cf_X8, (tbg sg1 180 rfl rfl)⟩
theorem fq_X8_59_143 : Fpf RX8 59 143 12 (3, 156, 0) := ⟨fl_X8_59_143, 9, 20, fs_143, RX8, TX8, (.object "java/util/ArrayList"), rfl, rfl, rfl, rfl, by decide +kernel, fun E S x h => reffit (fun _ => rfl) ⟨rfl, fun _ => rfl⟩ (by decide) x⟩
theorem fl_X8_62_143 : Fl RX8 62 143 13 (3, 157, 0) := ⟨9, 20, fs_143, RX8, TX8, rfl, rfl, by decide, rfl, by decide, rfl, cf_X8, (tbg sg1 183 rfl rfl)⟩
theorem fq_X8_62_143 : Fpf RX8 62 143 13 (3, 157, 0) := ⟨fl_X8_62_143, 9, 20, fs_143, RX8, TX8, (.object "java/util/ArrayList"), rfl, rfl, rfl, rfl, by decide +kernel, fun E S x h => reffit (fun _ => rfl) ⟨rfl, fun _ => rfl⟩ (by decide) x⟩
theorem fl_X8_65_143 : Fl RX8 65 143 14 (3, 118, 0) := ⟨9, 20, fs_143, RX8, TX8, rfl, rfl, by decide, rfl, by decide, rfl, cf_X8, (tbg sg1 184 rfl rfl)⟩
theorem fq_X8_65_143 : Fpf RX8 65 143 14 (3, 118, 0) := ⟨fl_X8_65_143, 9, 20, fs_143, RX8, TX8, (.array (.int)), rfl, rfl, rfl, rfl, by decide +kernel, fun E S x h => reffit (fun _ => rfl) ⟨rfl, fun _ => rfl⟩ (by decide) x⟩
theorem fl_X8_68_143 : Fl RX8 68 143 17 (3, 95, 0) := ⟨9, 20, fs_143, RX8, TX8, rfl, rfl, by decide, rfl, by decide, rfl, cf_X8, (tbg sg1 190 rfl rfl)⟩
theorem fq_X8_68_143 : Fpf RX8 68 143 17 (3, 95, 0) := ⟨fl_X8_68_143, 9, 20, fs_143, RX8, TX8, (.array (.long)), rfl, rfl, rfl, rfl, by decide +kernel, fun E S x h => reffit (fun _ => rfl) ⟨rfl, fun _ => rfl⟩ (by decide) x⟩
theorem fl_X8_71_143 : Fl RX8 71 143 18 (3, 95, 0) := ⟨9, 20, fs_143, RX8, TX8, rfl, rfl, by decide, rfl, by decide, rfl, cf_X8, (tbg sg1 191 rfl rfl)⟩
theorem fq_X8_71_143 : Fpf RX8 71 143 18 (3, 95, 0) := ⟨fl_X8_71_143, 9, 20, fs_143, RX8, TX8, (.array (.long)), rfl, rfl, rfl, rfl, by decide +kernel, fun E S x h => reffit (fun _ => rfl) ⟨rfl, fun _ => rfl⟩ (by decide) x⟩
theorem fl_X8_74_143 : Fl RX8 74 143 19 (3, 93, 0) := ⟨9, 20, fs_143, RX8, TX8, rfl, rfl, by decide, rfl, by decide, rfl, cf_X8, (tbg sg1 192 rfl rfl)⟩
theorem fq_X8_74_143 : Fpf RX8 74 143 19 (3, 93, 0) := ⟨fl_X8_74_143, 9, 20, fs_143, RX8, TX8, (.array (.int)), rfl, rfl, rfl, rfl, by decide +kernel, fun E S x h => reffit (fun _ => rfl) ⟨rfl, fun _ => rfl⟩ (by decide) x⟩
theorem fl_X11_9_142 : Fl RX11 9 142 4 (1, (-9223372036854775808), 9223372036854775807) := ⟨11, 20, fs_142, RX11, TX11, rfl, rfl, by decide, rfl, by decide, rfl, cf_X11, (tbg sg2 152 rfl rfl)⟩
theorem fp_X11_9_142 : Fp RX11 9 142 4 (1, (-9223372036854775808), 9223372036854775807) := ⟨fl_X11_9_142, 11, 20, fs_142, RX11, TX11, .long, rfl, rfl, rfl, by decide +kernel, fun E S x h => ⟨rfl, rfl⟩⟩
theorem nw_X11_13_143 : Nw RX11 13 143 20 := ⟨9, fs_143, RX8, TX8, tyX8, rfl, rfl, by decide, rfl, tbs [339, 341, 343, 345, 347, 349, 351, 353, 355, 357, 359, 361, 363, 365, 367, 369, 371, 373, 375, 377] (by decide +kernel), tyX8_ok, (tbg sg1 35 rfl rfl), (tbg sg1 36 rfl rfl), (tbg sg1 2 rfl rfl), by decide⟩
theorem co_X8_init : Co mX8_init 0 := ⟨(tbg sg1 39 rfl rfl), (tbg sg1 2 rfl rfl), by decide, by decide, by decide +kernel, by decide⟩
theorem cn_X11_15 : CiN RX11 15 mX8_init 0 := ⟨co_X8_init, ⟨"ShareLife", (List.mem_filter.mpr ⟨sg1 _ (List.mem_of_getElem? (i := 37) rfl), rfl⟩)⟩, rfl, (tbg sg1 38 rfl rfl), rfl⟩
theorem nf_143 : norf 143 = true := by decide +kernel
theorem fl_X11_16_142 : Fl RX11 16 142 17 (3, 129, 0) := ⟨11, 20, fs_142, RX11, TX11, rfl, rfl, by decide, rfl, by decide, rfl, cf_X11, (tbg sg2 165 rfl rfl)⟩
theorem fq_X11_16_142 : Fpf RX11 16 142 17 (3, 129, 0) := ⟨fl_X11_16_142, 11, 20, fs_142, RX11, TX11, (.object "ShareLife$Run"), rfl, rfl, rfl, rfl, by decide +kernel, fun E S x h => reffit (fun _ => rfl) ⟨rfl, fun _ => rfl⟩ (by decide) x⟩
theorem fl_X11_20_129 : Fl RX11 20 129 9 (2, 130, 0) := ⟨9, 20, fs_129, RX8, TX8, rfl, rfl, by decide, rfl, by decide, rfl, cf_X8, (tbg sg1 171 rfl rfl)⟩
theorem fl_X11_24_142 : Fl RX11 24 142 5 (3, 130, 0) := ⟨11, 20, fs_142, RX11, TX11, rfl, rfl, by decide, rfl, by decide, rfl, cf_X11, (tbg sg2 153 rfl rfl)⟩
theorem fq_X11_24_142 : Fpf RX11 24 142 5 (3, 130, 0) := ⟨fl_X11_24_142, 11, 20, fs_142, RX11, TX11, (.object "ShareLife$Accounts"), rfl, rfl, rfl, rfl, by decide +kernel, fun E S x h => reffit (fun _ => rfl) ⟨rfl, fun _ => rfl⟩ (by decide) x⟩
theorem fl_X11_25_129 : Fl RX11 25 129 10 (2, 154, 0) := ⟨9, 20, fs_129, RX8, TX8, rfl, rfl, by decide, rfl, by decide, rfl, cf_X8, (tbg sg1 173 rfl rfl)⟩
theorem fl_X11_29_142 : Fl RX11 29 142 6 (3, 154, 0) := ⟨11, 20, fs_142, RX11, TX11, rfl, rfl, by decide, rfl, by decide, rfl, cf_X11, (tbg sg2 154 rfl rfl)⟩
theorem fq_X11_29_142 : Fpf RX11 29 142 6 (3, 154, 0) := ⟨fl_X11_29_142, 11, 20, fs_142, RX11, TX11, (.object "java/util/ArrayList"), rfl, rfl, rfl, rfl, by decide +kernel, fun E S x h => reffit (fun _ => rfl) ⟨rfl, fun _ => rfl⟩ (by decide) x⟩
theorem fl_X11_30_129 : Fl RX11 30 129 11 (2, 155, 0) := ⟨9, 20, fs_129, RX8, TX8, rfl, rfl, by decide, rfl, by decide, rfl, cf_X8, (tbg sg1 176 rfl rfl)⟩
theorem fl_X11_33_142 : Fl RX11 33 142 7 (3, 155, 0) := ⟨11, 20, fs_142, RX11, TX11, rfl, rfl, by decide, rfl, by decide, rfl, cf_X11, (tbg sg2 155 rfl rfl)⟩
theorem fq_X11_33_142 : Fpf RX11 33 142 7 (3, 155, 0) := ⟨fl_X11_33_142, 11, 20, fs_142, RX11, TX11, (.object "java/util/ArrayList"), rfl, rfl, rfl, rfl, by decide +kernel, fun E S x h => reffit (fun _ => rfl) ⟨rfl, fun _ => rfl⟩ (by decide) x⟩
theorem fl_X11_34_129 : Fl RX11 34 129 12 (2, 156, 0) := ⟨9, 20, fs_129, RX8, TX8, rfl, rfl, by decide, rfl, by decide, rfl, cf_X8, (tbg sg1 179 rfl rfl)⟩
theorem fl_X11_37_142 : Fl RX11 37 142 8 (3, 156, 0) := ⟨11, 20, fs_142, RX11, TX11, rfl, rfl, by decide, rfl, by decide, rfl, cf_X11, (tbg sg2 156 rfl rfl)⟩
theorem fq_X11_37_142 : Fpf RX11 37 142 8 (3, 156, 0) := ⟨fl_X11_37_142, 11, 20, fs_142, RX11, TX11, (.object "java/util/ArrayList"), rfl, rfl, rfl, rfl, by decide +kernel, fun E S x h => reffit (fun _ => rfl) ⟨rfl, fun _ => rfl⟩ (by decide) x⟩
theorem fl_X11_38_129 : Fl RX11 38 129 13 (2, 157, 0) := ⟨9, 20, fs_129, RX8, TX8, rfl, rfl, by decide, rfl, by decide, rfl, cf_X8, (tbg sg1 182 rfl rfl)⟩
theorem fl_X11_41_142 : Fl RX11 41 142 9 (3, 157, 0) := ⟨11, 20, fs_142, RX11, TX11, rfl, rfl, by decide, rfl, by decide, rfl, cf_X11, (tbg sg2 157 rfl rfl)⟩
theorem fq_X11_41_142 : Fpf RX11 41 142 9 (3, 157, 0) := ⟨fl_X11_41_142, 11, 20, fs_142, RX11, TX11, (.object "java/util/ArrayList"), rfl, rfl, rfl, rfl, by decide +kernel, fun E S x h => reffit (fun _ => rfl) ⟨rfl, fun _ => rfl⟩ (by decide) x⟩
theorem nw_X11_42_153 : Nw RX11 42 153 3 := ⟨0, fs_153, RJx4a65c, TJx4a65c, tyJx4a65c, rfl, rfl, by decide, rfl, tbs [294, 290, 292] (by decide +kernel), tyJx4a65c_ok, (tbg sg1 234 rfl rfl), (tbg sg1 126 rfl rfl), (tbg sg1 6 rfl rfl), by decide⟩
theorem ci_X11_44 : Ci RX11 44 mJx4a65c_init_da8c8 0 := ⟨co_Jx4a65c_init_da8c8, (tbg sg1 235 rfl rfl), rfl, (tbg sg1 128 rfl rfl), rfl⟩
theorem fl_X11_45_142 : Fl RX11 45 142 10 (3, 158, 0) := ⟨11, 20, fs_142, RX11, TX11, rfl, rfl, by decide, rfl, by decide, rfl, cf_X11, (tbg sg2 158 rfl rfl)⟩
theorem fq_X11_45_142 : Fpf RX11 45 142 10 (3, 158, 0) := ⟨fl_X11_45_142, 11, 20, fs_142, RX11, TX11, (.object "java/util/ArrayList"), rfl, rfl, rfl, rfl, by decide +kernel, fun E S x h => reffit (fun _ => rfl) ⟨rfl, fun _ => rfl⟩ (by decide) x⟩
theorem fl_X11_48_142 : Fl RX11 48 142 11 (3, 159, 0) := ⟨11, 20, fs_142, RX11, TX11, rfl, rfl, by decide, rfl, by decide, rfl, cf_X11, (tbg sg2 159 rfl rfl)⟩
theorem fq_X11_48_142 : Fpf RX11 48 142 11 (3, 159, 0) := ⟨fl_X11_48_142, 11, 20, fs_142, RX11, TX11, (.object "java/util/ArrayList"), rfl, rfl, rfl, rfl, by decide +kernel, fun E S x h => reffit (fun _ => rfl) ⟨rfl, fun _ => rfl⟩ (by decide) x⟩
theorem fl_X11_51_142 : Fl RX11 51 142 12 (3, 94, 0) := ⟨11, 20, fs_142, RX11, TX11, rfl, rfl, by decide, rfl, by decide, rfl, cf_X11, (tbg sg2 160 rfl rfl)⟩
theorem fq_X11_51_142 : Fpf RX11 51 142 12 (3, 94, 0) := ⟨fl_X11_51_142, 11, 20, fs_142, RX11, TX11, (.array (.int)), rfl, rfl, rfl, rfl, by decide +kernel, fun E S x h => reffit (fun _ => rfl) ⟨rfl, fun _ => rfl⟩ (by decide) x⟩
theorem nw_X11_55_148 : Nw RX11 55 148 6 := ⟨5, fs_148, RX4, TX4, tyX4, rfl, rfl, by decide, rfl, tbs [397, 399, 401, 403, 405, 407] (by decide +kernel), tyX4_ok, (tbg sg1 236 rfl rfl), (tbg sg1 237 rfl rfl), (tbg sg1 7 rfl rfl), by decide⟩
theorem co_X4_init : Co mX4_init 0 := ⟨(tbg sg2 0 rfl rfl), (tbg sg1 7 rfl rfl), by decide, by decide, by decide +kernel, by decide⟩
theorem cn_X11_57 : CiN RX11 57 mX4_init 0 := ⟨co_X4_init, ⟨"ShareLife", (List.mem_filter.mpr ⟨sg1 _ (List.mem_of_getElem? (i := 238) rfl), rfl⟩)⟩, rfl, (tbg sg1 239 rfl rfl), rfl⟩
theorem nf_148 : norf 148 = true := by decide +kernel
theorem fl_X11_58_142 : Fl RX11 58 142 13 (3, 134, 0) := ⟨11, 20, fs_142, RX11, TX11, rfl, rfl, by decide, rfl, by decide, rfl, cf_X11, (tbg sg2 161 rfl rfl)⟩
theorem fq_X11_58_142 : Fpf RX11 58 142 13 (3, 134, 0) := ⟨fl_X11_58_142, 11, 20, fs_142, RX11, TX11, (.object "ShareLife$Fraction"), rfl, rfl, rfl, rfl, by decide +kernel, fun E S x h => reffit (fun _ => rfl) ⟨rfl, fun _ => rfl⟩ (by decide) x⟩
theorem fl_X11_62_142 : Fl RX11 62 142 14 (3, 134, 0) := ⟨11, 20, fs_142, RX11, TX11, rfl, rfl, by decide, rfl, by decide, rfl, cf_X11, (tbg sg2 162 rfl rfl)⟩
theorem fq_X11_62_142 : Fpf RX11 62 142 14 (3, 134, 0) := ⟨fl_X11_62_142, 11, 20, fs_142, RX11, TX11, (.object "ShareLife$Fraction"), rfl, rfl, rfl, rfl, by decide +kernel, fun E S x h => reffit (fun _ => rfl) ⟨rfl, fun _ => rfl⟩ (by decide) x⟩
theorem fl_X11_65_142 : Fl RX11 65 142 15 (3, 134, 0) := ⟨11, 20, fs_142, RX11, TX11, rfl, rfl, by decide, rfl, by decide, rfl, cf_X11, (tbg sg2 163 rfl rfl)⟩
theorem fq_X11_65_142 : Fpf RX11 65 142 15 (3, 134, 0) := ⟨fl_X11_65_142, 11, 20, fs_142, RX11, TX11, (.object "ShareLife$Fraction"), rfl, rfl, rfl, rfl, by decide +kernel, fun E S x h => reffit (fun _ => rfl) ⟨rfl, fun _ => rfl⟩ (by decide) x⟩
theorem nw_X11_68_145 : Nw RX11 68 145 17 := ⟨7, fs_145, RX6, TX6, tyX6, rfl, rfl, by decide, rfl, tbs [436, 438, 440, 442, 444, 446, 448, 450, 452, 454, 456, 458, 460, 462, 464, 466, 468] (by decide +kernel), tyX6_ok, (tbg sg2 24 rfl rfl), (tbg sg2 25 rfl rfl), (tbg sg1 8 rfl rfl), by decide⟩
theorem co_X6_init : Co mX6_init 0 := ⟨(tbg sg2 28 rfl rfl), (tbg sg1 8 rfl rfl), by decide, by decide, by decide +kernel, by decide⟩
theorem cn_X11_70 : CiN RX11 70 mX6_init 0 := ⟨co_X6_init, ⟨"ShareLife", (List.mem_filter.mpr ⟨sg2 _ (List.mem_of_getElem? (i := 26) rfl), rfl⟩)⟩, rfl, (tbg sg2 27 rfl rfl), rfl⟩
theorem nf_145 : norf 145 = true := by decide +kernel
theorem fl_X11_71_142 : Fl RX11 71 142 16 (3, 131, 0) := ⟨11, 20, fs_142, RX11, TX11, rfl, rfl, by decide, rfl, by decide, rfl, cf_X11, (tbg sg2 164 rfl rfl)⟩
theorem fq_X11_71_142 : Fpf RX11 71 142 16 (3, 131, 0) := ⟨fl_X11_71_142, 11, 20, fs_142, RX11, TX11, (.object "ShareLife$Reader"), rfl, rfl, rfl, rfl, by decide +kernel, fun E S x h => reffit (fun _ => rfl) ⟨rfl, fun _ => rfl⟩ (by decide) x⟩
theorem nw_X11_75_146 : Nw RX11 75 146 17 := ⟨8, fs_146, RX7, TX7, tyX7, rfl, rfl, by decide, rfl, tbs [498, 500, 502, 504, 506, 508, 510, 512, 514, 516, 518, 520, 522, 524, 526, 528, 530] (by decide +kernel), tyX7_ok, (tbg sg2 85 rfl rfl), (tbg sg2 86 rfl rfl), (tbg sg1 9 rfl rfl), by decide⟩
theorem co_X7_init : Co mX7_init 0 := ⟨(tbg sg2 89 rfl rfl), (tbg sg1 9 rfl rfl), by decide, by decide, by decide +kernel, by decide⟩
theorem cn_X11_77 : CiN RX11 77 mX7_init 0 := ⟨co_X7_init, ⟨"ShareLife", (List.mem_filter.mpr ⟨sg2 _ (List.mem_of_getElem? (i := 87) rfl), rfl⟩)⟩, rfl, (tbg sg2 88 rfl rfl), rfl⟩
theorem nf_146 : norf 146 = true := by decide +kernel
theorem fl_X11_78_142 : Fl RX11 78 142 18 (3, 132, 0) := ⟨11, 20, fs_142, RX11, TX11, rfl, rfl, by decide, rfl, by decide, rfl, cf_X11, (tbg sg2 166 rfl rfl)⟩
theorem fq_X11_78_142 : Fpf RX11 78 142 18 (3, 132, 0) := ⟨fl_X11_78_142, 11, 20, fs_142, RX11, TX11, (.object "ShareLife$Riddle"), rfl, rfl, rfl, rfl, by decide +kernel, fun E S x h => reffit (fun _ => rfl) ⟨rfl, fun _ => rfl⟩ (by decide) x⟩
set_option maxRecDepth 100000 in
set_option maxHeartbeats 4000000 in
theorem c_X8_init (E : En) (S : Sg) (G : Gh) (this : Int) (hS : S this = 143) (uno : No [130, 154, 155, 156, 157] S) : Calls E mX8_init [(2, this)] S G 6 96 2554 (fun r S' G' => Gr [93, 94, 95, 96, 97, 98, 114, 115, 116, 117, 118, 130, 144, 153, 154, 155, 156, 157] [(143, 0), (143, 1), (143, 3), (143, 4), (143, 5), (143, 6), (143, 7), (143, 8), (143, 9), (143, 10), (143, 11), (143, 12), (143, 13), (143, 14), (143, 17), (143, 18), (143, 19), (144, 1), (144, 2), (144, 3), (144, 4), (144, 5), (144, 6), (144, 7), (144, 8), (144, 9), (144, 10), (144, 11), (144, 12), (144, 13), (144, 14), (144, 15), (144, 16), (144, 17), (153, 0), (153, 1)] S G S' G' ∧ r = none ∧ UqL [157, 156, 155, 154, 130] S' ∧ EmL E [157, 156, 155, 154] S' G' ∧ Fnl E fs_129 143 S' G' this) := by
  refine calls_by [(0, (2, this))] rfl rfl (Nat.le_of_ble_eq_true rfl) (fun X hX => ?_)
  have hP := hPX8_init
  refine r_ex hX hP 1 (pc' := 1) (st' := [(2, this)]) (lo' := [(0, (2, this))]) rfl ?_
  refine r_nn hX hS (by decide) (fun p1 => ?_)
  refine r_objI hX hP rfl (tbg sg1 40 rfl rfl) (tbg sg1 33 rfl rfl) (tbg sg1 34 rfl rfl) p1 (by omega) (Nat.le_of_ble_eq_true rfl) ?_
  refine r_ex hX hP 1 (pc' := 5) (st' := [(2, this)]) (lo' := [(0, (2, this))]) rfl ?_
  refine r_ldc hX hP rfl (v := 40000) (tbg sg1 41 rfl rfl) ?_
  refine r_putIK hX hP rfl fp_X8_10_143 hS (by omega) (by omega) (fun h2 => ?_)
  refine r_ex hX hP 2 (pc' := 12) (st' := [(0, 1), (2, this)]) (lo' := [(0, (2, this))]) rfl ?_
  refine r_putIK hX hP rfl fp_X8_16_143 hS (by omega) (by omega) (fun h3 => ?_)
  refine r_ex hX hP 3 (pc' := 20) (st' := [(0, 20), (0, 20), (2, this)]) (lo' := [(0, (2, this))]) rfl ?_
  have u4 : EmL E [] S (up (up G 143 this 0 40000) 143 this 1 1) := (em_up (em_up (em_nil E S G) rfl) rfl)
  have g5 : Gr [93, 94, 95, 96, 97, 98, 114, 115, 116, 117, 118, 130, 144, 153, 154, 155, 156, 157] [(143, 0), (143, 1), (143, 3), (143, 4), (143, 5), (143, 6), (143, 7), (143, 8), (143, 9), (143, 10), (143, 11), (143, 12), (143, 13), (143, 14), (143, 17), (143, 18), (143, 19), (144, 1), (144, 2), (144, 3), (144, 4), (144, 5), (144, 6), (144, 7), (144, 8), (144, 9), (144, 10), (144, 11), (144, 12), (144, 13), (144, 14), (144, 15), (144, 16), (144, 17), (153, 0), (153, 1)] S G S (up (up G 143 this 0 40000) 143 this 1 1) := (gr_up (gr_up (gr_refl [93, 94, 95, 96, 97, 98, 114, 115, 116, 117, 118, 130, 144, 153, 154, 155, 156, 157] [(143, 0), (143, 1), (143, 3), (143, 4), (143, 5), (143, 6), (143, 7), (143, 8), (143, 9), (143, 10), (143, 11), (143, 12), (143, 13), (143, 14), (143, 17), (143, 18), (143, 19), (144, 1), (144, 2), (144, 3), (144, 4), (144, 5), (144, 6), (144, 7), (144, 8), (144, 9), (144, 10), (144, 11), (144, 12), (144, 13), (144, 14), (144, 15), (144, 16), (144, 17), (153, 0), (153, 1)] S G) rfl) rfl)
  refine r_multiA hX hP rfl (L := 114) (L2 := 95) (n := 20) (k := 20) al_114 al_95 (by decide) (by decide) (by decide) (tbg sg1 42 rfl rfl) (tbg sg1 123 rfl rfl) (by decide) (by decide) (by omega) (by omega) (fun n6 S7 G8 n6z n6n n6l g9 => ?_)
  have z10 : S n6 = 0 := gr_zero g5 n6z
  have s11 : S7 this = 143 := gr_lab g9 hS (by decide)
  have e12 : 40000 = G8 143 this 0 := gr_val g9 h2 hS (by decide) rfl
  have e13 : 1 = G8 143 this 1 := gr_val g9 h3 hS (by decide) rfl
  have g14 : Gr [93, 94, 95, 96, 97, 98, 114, 115, 116, 117, 118, 130, 144, 153, 154, 155, 156, 157] [(143, 0), (143, 1), (143, 3), (143, 4), (143, 5), (143, 6), (143, 7), (143, 8), (143, 9), (143, 10), (143, 11), (143, 12), (143, 13), (143, 14), (143, 17), (143, 18), (143, 19), (144, 1), (144, 2), (144, 3), (144, 4), (144, 5), (144, 6), (144, 7), (144, 8), (144, 9), (144, 10), (144, 11), (144, 12), (144, 13), (144, 14), (144, 15), (144, 16), (144, 17), (153, 0), (153, 1)] S G S7 G8 := gr_call g5 g9 rfl rfl
  have u15 : UqL [] S7 := uq_gr (uq_nil S) g9 rfl
  have u16 : No [130, 154, 155, 156, 157] S7 := no_gr (no_sub uno rfl) g9 rfl
  have u17 : EmL E [] S7 G8 := em_gr u4 g9 rfl
  refine r_putFN hX hP rfl rfl fq_X8_22_143 s11 (by decide) (Or.inr n6l) (fun h18 => ?_)
  refine r_ex hX hP 3 (pc' := 32) (st' := [(0, 20), (0, 20), (2, this)]) (lo' := [(0, (2, this))]) rfl ?_
  have u19 : EmL E [] S7 (up G8 143 this 3 n6) := (em_up u17 rfl)
  have g20 : Gr [93, 94, 95, 96, 97, 98, 114, 115, 116, 117, 118, 130, 144, 153, 154, 155, 156, 157] [(143, 0), (143, 1), (143, 3), (143, 4), (143, 5), (143, 6), (143, 7), (143, 8), (143, 9), (143, 10), (143, 11), (143, 12), (143, 13), (143, 14), (143, 17), (143, 18), (143, 19), (144, 1), (144, 2), (144, 3), (144, 4), (144, 5), (144, 6), (144, 7), (144, 8), (144, 9), (144, 10), (144, 11), (144, 12), (144, 13), (144, 14), (144, 15), (144, 16), (144, 17), (153, 0), (153, 1)] S G S7 (up G8 143 this 3 n6) := (gr_up g14 rfl)
  refine r_multiA hX hP rfl (L := 114) (L2 := 95) (n := 20) (k := 20) al_114 al_95 (by decide) (by decide) (by decide) (tbg sg1 42 rfl rfl) (tbg sg1 123 rfl rfl) (by decide) (by decide) (by omega) (by omega) (fun n21 S22 G23 n21z n21n n21l g24 => ?_)
  have z25 : S n21 = 0 := gr_zero g20 n21z
  have s26 : S22 this = 143 := gr_lab g24 s11 (by decide)
  have s27 : S22 n6 = 114 := gr_lab g24 n6l (by decide)
  have e28 : 40000 = G23 143 this 0 := gr_val g24 e12 s11 (by decide) rfl
  have e29 : 1 = G23 143 this 1 := gr_val g24 e13 s11 (by decide) rfl
  have e30 : n6 = G23 143 this 3 := gr_val g24 h18 s11 (by decide) rfl
  have g31 : Gr [93, 94, 95, 96, 97, 98, 114, 115, 116, 117, 118, 130, 144, 153, 154, 155, 156, 157] [(143, 0), (143, 1), (143, 3), (143, 4), (143, 5), (143, 6), (143, 7), (143, 8), (143, 9), (143, 10), (143, 11), (143, 12), (143, 13), (143, 14), (143, 17), (143, 18), (143, 19), (144, 1), (144, 2), (144, 3), (144, 4), (144, 5), (144, 6), (144, 7), (144, 8), (144, 9), (144, 10), (144, 11), (144, 12), (144, 13), (144, 14), (144, 15), (144, 16), (144, 17), (153, 0), (153, 1)] S G S22 G23 := gr_call g20 g24 rfl rfl
  have u32 : UqL [] S22 := uq_gr u15 g24 rfl
  have u33 : No [130, 154, 155, 156, 157] S22 := no_gr (no_sub u16 rfl) g24 rfl
  have u34 : EmL E [] S22 G23 := em_gr u19 g24 rfl
  refine r_putFN hX hP rfl rfl fq_X8_25_143 s26 (by decide) (Or.inr n21l) (fun h35 => ?_)
  refine r_ex hX hP 2 (pc' := 42) (st' := [(0, 20), (2, this)]) (lo' := [(0, (2, this))]) rfl ?_
  have u36 : EmL E [] S22 (up G23 143 this 4 n21) := (em_up u34 rfl)
  have g37 : Gr [93, 94, 95, 96, 97, 98, 114, 115, 116, 117, 118, 130, 144, 153, 154, 155, 156, 157] [(143, 0), (143, 1), (143, 3), (143, 4), (143, 5), (143, 6), (143, 7), (143, 8), (143, 9), (143, 10), (143, 11), (143, 12), (143, 13), (143, 14), (143, 17), (143, 18), (143, 19), (144, 1), (144, 2), (144, 3), (144, 4), (144, 5), (144, 6), (144, 7), (144, 8), (144, 9), (144, 10), (144, 11), (144, 12), (144, 13), (144, 14), (144, 15), (144, 16), (144, 17), (153, 0), (153, 1)] S G S22 (up G23 143 this 4 n21) := (gr_up g31 rfl)
  refine r_newarrA hX hP rfl (L := 95) (n := 20) al_95 (by decide) rfl rfl rfl (tbg sg1 123 rfl rfl) (by decide) (by omega) (by omega) (fun n38 S39 G40 n38z n38n n38l g41 n38v => ?_)
  have z42 : S n38 = 0 := gr_zero g37 n38z
  have s43 : S39 this = 143 := gr_lab g41 s26 (by decide)
  have s44 : S39 n6 = 114 := gr_lab g41 s27 (by decide)
  have s45 : S39 n21 = 114 := gr_lab g41 n21l (by decide)
  have e46 : 40000 = G40 143 this 0 := gr_val g41 e28 s26 (by decide) rfl
  have e47 : 1 = G40 143 this 1 := gr_val g41 e29 s26 (by decide) rfl
  have e48 : n6 = G40 143 this 3 := gr_val g41 e30 s26 (by decide) rfl
  have e49 : n21 = G40 143 this 4 := gr_val g41 h35 s26 (by decide) rfl
  have g50 : Gr [93, 94, 95, 96, 97, 98, 114, 115, 116, 117, 118, 130, 144, 153, 154, 155, 156, 157] [(143, 0), (143, 1), (143, 3), (143, 4), (143, 5), (143, 6), (143, 7), (143, 8), (143, 9), (143, 10), (143, 11), (143, 12), (143, 13), (143, 14), (143, 17), (143, 18), (143, 19), (144, 1), (144, 2), (144, 3), (144, 4), (144, 5), (144, 6), (144, 7), (144, 8), (144, 9), (144, 10), (144, 11), (144, 12), (144, 13), (144, 14), (144, 15), (144, 16), (144, 17), (153, 0), (153, 1)] S G S39 G40 := gr_call g37 g41 rfl rfl
  have u51 : UqL [] S39 := uq_gr u32 g41 rfl
  have u52 : No [130, 154, 155, 156, 157] S39 := no_gr (no_sub u33 rfl) g41 rfl
  have u53 : EmL E [] S39 G40 := em_gr u36 g41 rfl
  refine r_putFN hX hP rfl rfl fq_X8_28_143 s43 (by decide) (Or.inr n38l) (fun h54 => ?_)
  refine r_ex hX hP 2 (pc' := 50) (st' := [(0, 20), (2, this)]) (lo' := [(0, (2, this))]) rfl ?_
  have u55 : EmL E [] S39 (up G40 143 this 5 n38) := (em_up u53 rfl)
  have g56 : Gr [93, 94, 95, 96, 97, 98, 114, 115, 116, 117, 118, 130, 144, 153, 154, 155, 156, 157] [(143, 0), (143, 1), (143, 3), (143, 4), (143, 5), (143, 6), (143, 7), (143, 8), (143, 9), (143, 10), (143, 11), (143, 12), (143, 13), (143, 14), (143, 17), (143, 18), (143, 19), (144, 1), (144, 2), (144, 3), (144, 4), (144, 5), (144, 6), (144, 7), (144, 8), (144, 9), (144, 10), (144, 11), (144, 12), (144, 13), (144, 14), (144, 15), (144, 16), (144, 17), (153, 0), (153, 1)] S G S39 (up G40 143 this 5 n38) := (gr_up g50 rfl)
  refine r_newarrA hX hP rfl (L := 95) (n := 20) al_95 (by decide) rfl rfl rfl (tbg sg1 123 rfl rfl) (by decide) (by omega) (by omega) (fun n57 S58 G59 n57z n57n n57l g60 n57v => ?_)
  have z61 : S n57 = 0 := gr_zero g56 n57z
  have s62 : S58 this = 143 := gr_lab g60 s43 (by decide)
  have s63 : S58 n6 = 114 := gr_lab g60 s44 (by decide)
  have s64 : S58 n21 = 114 := gr_lab g60 s45 (by decide)
  have s65 : S58 n38 = 95 := gr_lab g60 n38l (by decide)
  have e66 : 40000 = G59 143 this 0 := gr_val g60 e46 s43 (by decide) rfl
  have e67 : 1 = G59 143 this 1 := gr_val g60 e47 s43 (by decide) rfl
  have e68 : n6 = G59 143 this 3 := gr_val g60 e48 s43 (by decide) rfl
  have e69 : n21 = G59 143 this 4 := gr_val g60 e49 s43 (by decide) rfl
  have e70 : n38 = G59 143 this 5 := gr_val g60 h54 s43 (by decide) rfl
  have g71 : Gr [93, 94, 95, 96, 97, 98, 114, 115, 116, 117, 118, 130, 144, 153, 154, 155, 156, 157] [(143, 0), (143, 1), (143, 3), (143, 4), (143, 5), (143, 6), (143, 7), (143, 8), (143, 9), (143, 10), (143, 11), (143, 12), (143, 13), (143, 14), (143, 17), (143, 18), (143, 19), (144, 1), (144, 2), (144, 3), (144, 4), (144, 5), (144, 6), (144, 7), (144, 8), (144, 9), (144, 10), (144, 11), (144, 12), (144, 13), (144, 14), (144, 15), (144, 16), (144, 17), (153, 0), (153, 1)] S G S58 G59 := gr_call g56 g60 rfl rfl
  have u72 : UqL [] S58 := uq_gr u51 g60 rfl
  have u73 : No [130, 154, 155, 156, 157] S58 := no_gr (no_sub u52 rfl) g60 rfl
  have u74 : EmL E [] S58 G59 := em_gr u55 g60 rfl
  refine r_putFN hX hP rfl rfl fq_X8_32_143 s62 (by decide) (Or.inr n57l) (fun h75 => ?_)
  refine r_ex hX hP 2 (pc' := 58) (st' := [(0, 40), (2, this)]) (lo' := [(0, (2, this))]) rfl ?_
  have u76 : EmL E [] S58 (up G59 143 this 6 n57) := (em_up u74 rfl)
  have g77 : Gr [93, 94, 95, 96, 97, 98, 114, 115, 116, 117, 118, 130, 144, 153, 154, 155, 156, 157] [(143, 0), (143, 1), (143, 3), (143, 4), (143, 5), (143, 6), (143, 7), (143, 8), (143, 9), (143, 10), (143, 11), (143, 12), (143, 13), (143, 14), (143, 17), (143, 18), (143, 19), (144, 1), (144, 2), (144, 3), (144, 4), (144, 5), (144, 6), (144, 7), (144, 8), (144, 9), (144, 10), (144, 11), (144, 12), (144, 13), (144, 14), (144, 15), (144, 16), (144, 17), (153, 0), (153, 1)] S G S58 (up G59 143 this 6 n57) := (gr_up g71 rfl)
  refine r_newarrA hX hP rfl (L := 115) (n := 40) al_115 (by decide) rfl rfl rfl (tbg sg1 124 rfl rfl) (by decide) (by omega) (by omega) (fun n78 S79 G80 n78z n78n n78l g81 n78v => ?_)
  have z82 : S n78 = 0 := gr_zero g77 n78z
  have s83 : S79 this = 143 := gr_lab g81 s62 (by decide)
  have s84 : S79 n6 = 114 := gr_lab g81 s63 (by decide)
  have s85 : S79 n21 = 114 := gr_lab g81 s64 (by decide)
  have s86 : S79 n38 = 95 := gr_lab g81 s65 (by decide)
  have s87 : S79 n57 = 95 := gr_lab g81 n57l (by decide)
  have e88 : 40000 = G80 143 this 0 := gr_val g81 e66 s62 (by decide) rfl
  have e89 : 1 = G80 143 this 1 := gr_val g81 e67 s62 (by decide) rfl
  have e90 : n6 = G80 143 this 3 := gr_val g81 e68 s62 (by decide) rfl
  have e91 : n21 = G80 143 this 4 := gr_val g81 e69 s62 (by decide) rfl
  have e92 : n38 = G80 143 this 5 := gr_val g81 e70 s62 (by decide) rfl
  have e93 : n57 = G80 143 this 6 := gr_val g81 h75 s62 (by decide) rfl
  have g94 : Gr [93, 94, 95, 96, 97, 98, 114, 115, 116, 117, 118, 130, 144, 153, 154, 155, 156, 157] [(143, 0), (143, 1), (143, 3), (143, 4), (143, 5), (143, 6), (143, 7), (143, 8), (143, 9), (143, 10), (143, 11), (143, 12), (143, 13), (143, 14), (143, 17), (143, 18), (143, 19), (144, 1), (144, 2), (144, 3), (144, 4), (144, 5), (144, 6), (144, 7), (144, 8), (144, 9), (144, 10), (144, 11), (144, 12), (144, 13), (144, 14), (144, 15), (144, 16), (144, 17), (153, 0), (153, 1)] S G S79 G80 := gr_call g77 g81 rfl rfl
  have u95 : UqL [] S79 := uq_gr u72 g81 rfl
  have u96 : No [130, 154, 155, 156, 157] S79 := no_gr (no_sub u73 rfl) g81 rfl
  have u97 : EmL E [] S79 G80 := em_gr u76 g81 rfl
  refine r_putFN hX hP rfl rfl fq_X8_35_143 s83 (by decide) (Or.inr n78l) (fun h98 => ?_)
  refine r_ex hX hP 3 (pc' := 68) (st' := [(0, 60), (0, 16), (2, this)]) (lo' := [(0, (2, this))]) rfl ?_
  have u99 : EmL E [] S79 (up G80 143 this 7 n78) := (em_up u97 rfl)
  have g100 : Gr [93, 94, 95, 96, 97, 98, 114, 115, 116, 117, 118, 130, 144, 153, 154, 155, 156, 157] [(143, 0), (143, 1), (143, 3), (143, 4), (143, 5), (143, 6), (143, 7), (143, 8), (143, 9), (143, 10), (143, 11), (143, 12), (143, 13), (143, 14), (143, 17), (143, 18), (143, 19), (144, 1), (144, 2), (144, 3), (144, 4), (144, 5), (144, 6), (144, 7), (144, 8), (144, 9), (144, 10), (144, 11), (144, 12), (144, 13), (144, 14), (144, 15), (144, 16), (144, 17), (153, 0), (153, 1)] S G S79 (up G80 143 this 7 n78) := (gr_up g94 rfl)
  refine r_multiA hX hP rfl (L := 117) (L2 := 116) (n := 16) (k := 60) al_117 al_116 (by decide) (by decide) (by decide) (tbg sg1 42 rfl rfl) (tbg sg1 123 rfl rfl) (by decide) (by decide) (by omega) (by omega) (fun n101 S102 G103 n101z n101n n101l g104 => ?_)
  have z105 : S n101 = 0 := gr_zero g100 n101z
  have s106 : S102 this = 143 := gr_lab g104 s83 (by decide)
  have s107 : S102 n6 = 114 := gr_lab g104 s84 (by decide)
  have s108 : S102 n21 = 114 := gr_lab g104 s85 (by decide)
  have s109 : S102 n38 = 95 := gr_lab g104 s86 (by decide)
  have s110 : S102 n57 = 95 := gr_lab g104 s87 (by decide)
  have s111 : S102 n78 = 115 := gr_lab g104 n78l (by decide)
  have e112 : 40000 = G103 143 this 0 := gr_val g104 e88 s83 (by decide) rfl
  have e113 : 1 = G103 143 this 1 := gr_val g104 e89 s83 (by decide) rfl
  have e114 : n6 = G103 143 this 3 := gr_val g104 e90 s83 (by decide) rfl
  have e115 : n21 = G103 143 this 4 := gr_val g104 e91 s83 (by decide) rfl
  have e116 : n38 = G103 143 this 5 := gr_val g104 e92 s83 (by decide) rfl
  have e117 : n57 = G103 143 this 6 := gr_val g104 e93 s83 (by decide) rfl
  have e118 : n78 = G103 143 this 7 := gr_val g104 h98 s83 (by decide) rfl
  have g119 : Gr [93, 94, 95, 96, 97, 98, 114, 115, 116, 117, 118, 130, 144, 153, 154, 155, 156, 157] [(143, 0), (143, 1), (143, 3), (143, 4), (143, 5), (143, 6), (143, 7), (143, 8), (143, 9), (143, 10), (143, 11), (143, 12), (143, 13), (143, 14), (143, 17), (143, 18), (143, 19), (144, 1), (144, 2), (144, 3), (144, 4), (144, 5), (144, 6), (144, 7), (144, 8), (144, 9), (144, 10), (144, 11), (144, 12), (144, 13), (144, 14), (144, 15), (144, 16), (144, 17), (153, 0), (153, 1)] S G S102 G103 := gr_call g100 g104 rfl rfl
  have u120 : UqL [] S102 := uq_gr u95 g104 rfl
  have u121 : No [130, 154, 155, 156, 157] S102 := no_gr (no_sub u96 rfl) g104 rfl
  have u122 : EmL E [] S102 G103 := em_gr u99 g104 rfl
  refine r_putFN hX hP rfl rfl fq_X8_39_143 s106 (by decide) (Or.inr n101l) (fun h123 => ?_)
  refine r_ex hX hP 1 (pc' := 76) (st' := [(2, this)]) (lo' := [(0, (2, this))]) rfl ?_
  have u124 : EmL E [] S102 (up G103 143 this 8 n101) := (em_up u122 rfl)
  have g125 : Gr [93, 94, 95, 96, 97, 98, 114, 115, 116, 117, 118, 130, 144, 153, 154, 155, 156, 157] [(143, 0), (143, 1), (143, 3), (143, 4), (143, 5), (143, 6), (143, 7), (143, 8), (143, 9), (143, 10), (143, 11), (143, 12), (143, 13), (143, 14), (143, 17), (143, 18), (143, 19), (144, 1), (144, 2), (144, 3), (144, 4), (144, 5), (144, 6), (144, 7), (144, 8), (144, 9), (144, 10), (144, 11), (144, 12), (144, 13), (144, 14), (144, 15), (144, 16), (144, 17), (153, 0), (153, 1)] S G S102 (up G103 143 this 8 n101) := (gr_up g119 rfl)
  refine r_newA hX hP rfl (L := 144) (N := 18) nw_X8_42_144 (by omega) (by omega) (fun n126 S127 G128 n126z n126n n126l g129 n126v => ?_)
  have z130 : S n126 = 0 := gr_zero g125 n126z
  have s131 : S127 this = 143 := gr_lab g129 s106 (by decide)
  have s132 : S127 n6 = 114 := gr_lab g129 s107 (by decide)
  have s133 : S127 n21 = 114 := gr_lab g129 s108 (by decide)
  have s134 : S127 n38 = 95 := gr_lab g129 s109 (by decide)
  have s135 : S127 n57 = 95 := gr_lab g129 s110 (by decide)
  have s136 : S127 n78 = 115 := gr_lab g129 s111 (by decide)
  have s137 : S127 n101 = 117 := gr_lab g129 n101l (by decide)
  have e138 : 40000 = G128 143 this 0 := gr_val g129 e112 s106 (by decide) rfl
  have e139 : 1 = G128 143 this 1 := gr_val g129 e113 s106 (by decide) rfl
  have e140 : n6 = G128 143 this 3 := gr_val g129 e114 s106 (by decide) rfl
  have e141 : n21 = G128 143 this 4 := gr_val g129 e115 s106 (by decide) rfl
  have e142 : n38 = G128 143 this 5 := gr_val g129 e116 s106 (by decide) rfl
  have e143 : n57 = G128 143 this 6 := gr_val g129 e117 s106 (by decide) rfl
  have e144 : n78 = G128 143 this 7 := gr_val g129 e118 s106 (by decide) rfl
  have e145 : n101 = G128 143 this 8 := gr_val g129 h123 s106 (by decide) rfl
  have g146 : Gr [93, 94, 95, 96, 97, 98, 114, 115, 116, 117, 118, 130, 144, 153, 154, 155, 156, 157] [(143, 0), (143, 1), (143, 3), (143, 4), (143, 5), (143, 6), (143, 7), (143, 8), (143, 9), (143, 10), (143, 11), (143, 12), (143, 13), (143, 14), (143, 17), (143, 18), (143, 19), (144, 1), (144, 2), (144, 3), (144, 4), (144, 5), (144, 6), (144, 7), (144, 8), (144, 9), (144, 10), (144, 11), (144, 12), (144, 13), (144, 14), (144, 15), (144, 16), (144, 17), (153, 0), (153, 1)] S G S127 G128 := gr_call g125 g129 rfl rfl
  have u147 : UqL [] S127 := uq_gr u120 g129 rfl
  have u148 : No [130, 154, 155, 156, 157] S127 := no_gr (no_sub u121 rfl) g129 rfl
  have u149 : EmL E [] S127 G128 := em_gr u124 g129 rfl
  refine r_ex hX hP 1 (pc' := 80) (st' := [(2, n126), (2, n126), (2, this)]) (lo' := [(0, (2, this))]) rfl ?_
  refine r_callIN gd hX hP rfl cn_X8_44 n126n (d' := 3) (mc' := 25) (ms' := 472) (as' := []) (st := [(2, n126), (2, this)]) (by omega) (by omega) (by omega) rfl rfl (Nat.le_of_ble_eq_true rfl) (c_X0_init E S127 G128 n126  n126l) ?_
  rintro _ S150 G151 ⟨g152, rfl, hf153⟩
  have s154 : S150 this = 143 := gr_lab g152 s131 (by decide)
  have s155 : S150 n6 = 114 := gr_lab g152 s132 (by decide)
  have s156 : S150 n21 = 114 := gr_lab g152 s133 (by decide)
  have s157 : S150 n38 = 95 := gr_lab g152 s134 (by decide)
  have s158 : S150 n57 = 95 := gr_lab g152 s135 (by decide)
  have s159 : S150 n78 = 115 := gr_lab g152 s136 (by decide)
  have s160 : S150 n101 = 117 := gr_lab g152 s137 (by decide)
  have s161 : S150 n126 = 144 := gr_lab g152 n126l (by decide)
  have e162 : 40000 = G151 143 this 0 := gr_val g152 e138 s131 (by decide) rfl
  have e163 : 1 = G151 143 this 1 := gr_val g152 e139 s131 (by decide) rfl
  have e164 : n6 = G151 143 this 3 := gr_val g152 e140 s131 (by decide) rfl
  have e165 : n21 = G151 143 this 4 := gr_val g152 e141 s131 (by decide) rfl
  have e166 : n38 = G151 143 this 5 := gr_val g152 e142 s131 (by decide) rfl
  have e167 : n57 = G151 143 this 6 := gr_val g152 e143 s131 (by decide) rfl
  have e168 : n78 = G151 143 this 7 := gr_val g152 e144 s131 (by decide) rfl
  have e169 : n101 = G151 143 this 8 := gr_val g152 e145 s131 (by decide) rfl
  have g170 : Gr [93, 94, 95, 96, 97, 98, 114, 115, 116, 117, 118, 130, 144, 153, 154, 155, 156, 157] [(143, 0), (143, 1), (143, 3), (143, 4), (143, 5), (143, 6), (143, 7), (143, 8), (143, 9), (143, 10), (143, 11), (143, 12), (143, 13), (143, 14), (143, 17), (143, 18), (143, 19), (144, 1), (144, 2), (144, 3), (144, 4), (144, 5), (144, 6), (144, 7), (144, 8), (144, 9), (144, 10), (144, 11), (144, 12), (144, 13), (144, 14), (144, 15), (144, 16), (144, 17), (153, 0), (153, 1)] S G S150 G151 := gr_call g146 g152 rfl rfl
  have u171 : UqL [] S150 := uq_gr u147 g152 rfl
  have u172 : No [130, 154, 155, 156, 157] S150 := no_gr (no_sub u148 rfl) g152 rfl
  have u173 : EmL E [] S150 G151 := em_gr u149 g152 rfl
  refine r_finA hX (L := 144) (ci := 1) (fs := fs_144) rfl s161 (by decide) (fun hr174 => ?_)
  refine r_relabF hX (L := 144) (L' := 130) (ci := 1) (fs := fs_144) (fs' := fs_130) rfl rfl rfl (by decide) (by decide) nf_144 (by decide) s161 hf153 (fun S177 G178 r176 => ?_)
  have s180 : S177 this = 143 := r176.lab s161 s154 (by decide)
  have s181 : S177 n6 = 114 := r176.lab s161 s155 (by decide)
  have s182 : S177 n21 = 114 := r176.lab s161 s156 (by decide)
  have s183 : S177 n38 = 95 := r176.lab s161 s157 (by decide)
  have s184 : S177 n57 = 95 := r176.lab s161 s158 (by decide)
  have s185 : S177 n78 = 115 := r176.lab s161 s159 (by decide)
  have s186 : S177 n101 = 117 := r176.lab s161 s160 (by decide)
  have e187 : 40000 = G178 143 this 0 := rs_val r176 s161 e162 s154 (by decide)
  have e188 : 1 = G178 143 this 1 := rs_val r176 s161 e163 s154 (by decide)
  have e189 : n6 = G178 143 this 3 := rs_val r176 s161 e164 s154 (by decide)
  have e190 : n21 = G178 143 this 4 := rs_val r176 s161 e165 s154 (by decide)
  have e191 : n38 = G178 143 this 5 := rs_val r176 s161 e166 s154 (by decide)
  have e192 : n57 = G178 143 this 6 := rs_val r176 s161 e167 s154 (by decide)
  have e193 : n78 = G178 143 this 7 := rs_val r176 s161 e168 s154 (by decide)
  have e194 : n101 = G178 143 this 8 := rs_val r176 s161 e169 s154 (by decide)
  have g195 : Gr [93, 94, 95, 96, 97, 98, 114, 115, 116, 117, 118, 130, 144, 153, 154, 155, 156, 157] [(143, 0), (143, 1), (143, 3), (143, 4), (143, 5), (143, 6), (143, 7), (143, 8), (143, 9), (143, 10), (143, 11), (143, 12), (143, 13), (143, 14), (143, 17), (143, 18), (143, 19), (144, 1), (144, 2), (144, 3), (144, 4), (144, 5), (144, 6), (144, 7), (144, 8), (144, 9), (144, 10), (144, 11), (144, 12), (144, 13), (144, 14), (144, 15), (144, 16), (144, 17), (153, 0), (153, 1)] S G S177 G178 := gr_rs g170 r176 z130 rfl
  have u196 : UqL [130] S177 := uq_rs u171 (no_sub u172 rfl) r176 rfl
  have u197 : EmL E [] S177 G178 := em_rsN u173 r176 rfl
  have u198 : No [154, 155, 156, 157] S177 := no_rs u172 r176 rfl
  refine r_putFN hX hP rfl rfl fq_X8_45_143 s180 (by decide) (Or.inr r176.1) (fun h199 => ?_)
  refine r_ex hX hP 1 (pc' := 87) (st' := [(2, this)]) (lo' := [(0, (2, this))]) rfl ?_
  have u200 : EmL E [] S177 (up G178 143 this 9 n126) := (em_up u197 rfl)
  have g201 : Gr [93, 94, 95, 96, 97, 98, 114, 115, 116, 117, 118, 130, 144, 153, 154, 155, 156, 157] [(143, 0), (143, 1), (143, 3), (143, 4), (143, 5), (143, 6), (143, 7), (143, 8), (143, 9), (143, 10), (143, 11), (143, 12), (143, 13), (143, 14), (143, 17), (143, 18), (143, 19), (144, 1), (144, 2), (144, 3), (144, 4), (144, 5), (144, 6), (144, 7), (144, 8), (144, 9), (144, 10), (144, 11), (144, 12), (144, 13), (144, 14), (144, 15), (144, 16), (144, 17), (153, 0), (153, 1)] S G S177 (up G178 143 this 9 n126) := (gr_up g195 rfl)
  refine r_newA hX hP rfl (L := 153) (N := 3) nw_X8_49_153 (by omega) (by omega) (fun n202 S203 G204 n202z n202n n202l g205 n202v => ?_)
  have z206 : S n202 = 0 := gr_zero g201 n202z
  have s207 : S203 this = 143 := gr_lab g205 s180 (by decide)
  have s208 : S203 n6 = 114 := gr_lab g205 s181 (by decide)
  have s209 : S203 n21 = 114 := gr_lab g205 s182 (by decide)
  have s210 : S203 n38 = 95 := gr_lab g205 s183 (by decide)
  have s211 : S203 n57 = 95 := gr_lab g205 s184 (by decide)
  have s212 : S203 n78 = 115 := gr_lab g205 s185 (by decide)
  have s213 : S203 n101 = 117 := gr_lab g205 s186 (by decide)
  have s214 : S203 n126 = 130 := gr_lab g205 r176.1 (by decide)
  have e215 : 40000 = G204 143 this 0 := gr_val g205 e187 s180 (by decide) rfl
  have e216 : 1 = G204 143 this 1 := gr_val g205 e188 s180 (by decide) rfl
  have e217 : n6 = G204 143 this 3 := gr_val g205 e189 s180 (by decide) rfl
  have e218 : n21 = G204 143 this 4 := gr_val g205 e190 s180 (by decide) rfl
  have e219 : n38 = G204 143 this 5 := gr_val g205 e191 s180 (by decide) rfl
  have e220 : n57 = G204 143 this 6 := gr_val g205 e192 s180 (by decide) rfl
  have e221 : n78 = G204 143 this 7 := gr_val g205 e193 s180 (by decide) rfl
  have e222 : n101 = G204 143 this 8 := gr_val g205 e194 s180 (by decide) rfl
  have e223 : n126 = G204 143 this 9 := gr_val g205 h199 s180 (by decide) rfl
  have g224 : Gr [93, 94, 95, 96, 97, 98, 114, 115, 116, 117, 118, 130, 144, 153, 154, 155, 156, 157] [(143, 0), (143, 1), (143, 3), (143, 4), (143, 5), (143, 6), (143, 7), (143, 8), (143, 9), (143, 10), (143, 11), (143, 12), (143, 13), (143, 14), (143, 17), (143, 18), (143, 19), (144, 1), (144, 2), (144, 3), (144, 4), (144, 5), (144, 6), (144, 7), (144, 8), (144, 9), (144, 10), (144, 11), (144, 12), (144, 13), (144, 14), (144, 15), (144, 16), (144, 17), (153, 0), (153, 1)] S G S203 G204 := gr_call g201 g205 rfl rfl
  have u225 : UqL [130] S203 := uq_gr u196 g205 rfl
  have u226 : No [154, 155, 156, 157] S203 := no_gr (no_sub u198 rfl) g205 rfl
  have u227 : EmL E [] S203 G204 := em_gr u200 g205 rfl
  refine r_ex hX hP 1 (pc' := 91) (st' := [(2, n202), (2, n202), (2, this)]) (lo' := [(0, (2, this))]) rfl ?_
  refine r_callI gd hX hP rfl ci_X8_51 n202n (d' := 5) (mc' := 0) (ms' := 0) (as' := []) (st := [(2, n202), (2, this)]) (by omega) (by omega) (by omega) rfl rfl (Nat.le_of_ble_eq_true rfl) (c_Jx4a65c_init_da8c8 E S203 G204 n202  n202l) ?_
  rintro _ _ _ ⟨rfl, ⟨G228, rfl⟩, rfl, elh229, elh229e, f230⟩
  have e232 : Ad E 0 = (hw [(153, 0), (153, 1)] G204 G228) 153 n202 1 := by rw [← f230]; exact elh229e
  have u233 : EmL E [] S203 (hw [(153, 0), (153, 1)] G204 G228) := (em_hw u227 rfl)
  have g234 : Gr [93, 94, 95, 96, 97, 98, 114, 115, 116, 117, 118, 130, 144, 153, 154, 155, 156, 157] [(143, 0), (143, 1), (143, 3), (143, 4), (143, 5), (143, 6), (143, 7), (143, 8), (143, 9), (143, 10), (143, 11), (143, 12), (143, 13), (143, 14), (143, 17), (143, 18), (143, 19), (144, 1), (144, 2), (144, 3), (144, 4), (144, 5), (144, 6), (144, 7), (144, 8), (144, 9), (144, 10), (144, 11), (144, 12), (144, 13), (144, 14), (144, 15), (144, 16), (144, 17), (153, 0), (153, 1)] S G S203 (hw [(153, 0), (153, 1)] G204 G228) := (gr_hw g224 rfl)
  refine r_finA hX (L := 153) (ci := 0) (fs := fs_153) rfl n202l (by decide) (fun hr235 => ?_)
  have hf236 : Fnl E fs_154 153 S203 (hw [(153, 0), (153, 1)] G204 G228) n202 := by
    intro j hj
    rcases (by have : j < 3 := hj; omega : j = 0 ∨ j = 1 ∨ j = 2) with rfl | rfl | rfl
    · exact hr235 0 (by decide)
    · exact Or.inl e232.symm
    · have e : (0 : Int) ≤ (hw [(153, 0), (153, 1)] G204 G228) 153 n202 2 ∧ (hw [(153, 0), (153, 1)] G204 G228) 153 n202 2 ≤ 0 := hr235 2 (by decide); show (0 : Int) ≤ (hw [(153, 0), (153, 1)] G204 G228) 153 n202 2 ∧ (hw [(153, 0), (153, 1)] G204 G228) 153 n202 2 ≤ 40; omega
  refine r_relabF hX (L := 153) (L' := 154) (ci := 0) (fs := fs_153) (fs' := fs_154) rfl rfl rfl (by decide) (by decide) nf_153 (by decide) n202l hf236 (fun S238 G239 r237 => ?_)
  have s241 : S238 this = 143 := r237.lab n202l s207 (by decide)
  have s242 : S238 n6 = 114 := r237.lab n202l s208 (by decide)
  have s243 : S238 n21 = 114 := r237.lab n202l s209 (by decide)
  have s244 : S238 n38 = 95 := r237.lab n202l s210 (by decide)
  have s245 : S238 n57 = 95 := r237.lab n202l s211 (by decide)
  have s246 : S238 n78 = 115 := r237.lab n202l s212 (by decide)
  have s247 : S238 n101 = 117 := r237.lab n202l s213 (by decide)
  have s248 : S238 n126 = 130 := r237.lab n202l s214 (by decide)
  have e249 : 40000 = G239 143 this 0 := rs_val r237 n202l e215 s207 (by decide)
  have e250 : 1 = G239 143 this 1 := rs_val r237 n202l e216 s207 (by decide)
  have e251 : n6 = G239 143 this 3 := rs_val r237 n202l e217 s207 (by decide)
  have e252 : n21 = G239 143 this 4 := rs_val r237 n202l e218 s207 (by decide)
  have e253 : n38 = G239 143 this 5 := rs_val r237 n202l e219 s207 (by decide)
  have e254 : n57 = G239 143 this 6 := rs_val r237 n202l e220 s207 (by decide)
  have e255 : n78 = G239 143 this 7 := rs_val r237 n202l e221 s207 (by decide)
  have e256 : n101 = G239 143 this 8 := rs_val r237 n202l e222 s207 (by decide)
  have e257 : n126 = G239 143 this 9 := rs_val r237 n202l e223 s207 (by decide)
  have e258 : (Ad E 0) = G239 154 n202 1 := e232.trans (r237.2.2.1 1).symm
  have g259 : Gr [93, 94, 95, 96, 97, 98, 114, 115, 116, 117, 118, 130, 144, 153, 154, 155, 156, 157] [(143, 0), (143, 1), (143, 3), (143, 4), (143, 5), (143, 6), (143, 7), (143, 8), (143, 9), (143, 10), (143, 11), (143, 12), (143, 13), (143, 14), (143, 17), (143, 18), (143, 19), (144, 1), (144, 2), (144, 3), (144, 4), (144, 5), (144, 6), (144, 7), (144, 8), (144, 9), (144, 10), (144, 11), (144, 12), (144, 13), (144, 14), (144, 15), (144, 16), (144, 17), (153, 0), (153, 1)] S G S238 G239 := gr_rs g234 r237 z206 rfl
  have u260 : UqL [154, 130] S238 := uq_rs u225 (no_sub u226 rfl) r237 rfl
  have u261 : EmL E [154] S238 G239 := em_rs u233 (no_sub u226 rfl) r237 e232 (by have e : (0 : Int) ≤ (hw [(153, 0), (153, 1)] G204 G228) 153 n202 2 ∧ (hw [(153, 0), (153, 1)] G204 G228) 153 n202 2 ≤ 0 := hr235 2 (by decide); omega) rfl
  have u262 : No [155, 156, 157] S238 := no_rs u226 r237 rfl
  refine r_putFN hX hP rfl rfl fq_X8_52_143 s241 (by decide) (Or.inr r237.1) (fun h263 => ?_)
  refine r_ex hX hP 1 (pc' := 98) (st' := [(2, this)]) (lo' := [(0, (2, this))]) rfl ?_
  have u264 : EmL E [154] S238 (up G239 143 this 10 n202) := (em_up u261 rfl)
  have g265 : Gr [93, 94, 95, 96, 97, 98, 114, 115, 116, 117, 118, 130, 144, 153, 154, 155, 156, 157] [(143, 0), (143, 1), (143, 3), (143, 4), (143, 5), (143, 6), (143, 7), (143, 8), (143, 9), (143, 10), (143, 11), (143, 12), (143, 13), (143, 14), (143, 17), (143, 18), (143, 19), (144, 1), (144, 2), (144, 3), (144, 4), (144, 5), (144, 6), (144, 7), (144, 8), (144, 9), (144, 10), (144, 11), (144, 12), (144, 13), (144, 14), (144, 15), (144, 16), (144, 17), (153, 0), (153, 1)] S G S238 (up G239 143 this 10 n202) := (gr_up g259 rfl)
  refine r_newA hX hP rfl (L := 153) (N := 3) nw_X8_49_153 (by omega) (by omega) (fun n266 S267 G268 n266z n266n n266l g269 n266v => ?_)
  have z270 : S n266 = 0 := gr_zero g265 n266z
  have s271 : S267 this = 143 := gr_lab g269 s241 (by decide)
  have s272 : S267 n6 = 114 := gr_lab g269 s242 (by decide)
  have s273 : S267 n21 = 114 := gr_lab g269 s243 (by decide)
  have s274 : S267 n38 = 95 := gr_lab g269 s244 (by decide)
  have s275 : S267 n57 = 95 := gr_lab g269 s245 (by decide)
  have s276 : S267 n78 = 115 := gr_lab g269 s246 (by decide)
  have s277 : S267 n101 = 117 := gr_lab g269 s247 (by decide)
  have s278 : S267 n126 = 130 := gr_lab g269 s248 (by decide)
  have s279 : S267 n202 = 154 := gr_lab g269 r237.1 (by decide)
  have e280 : 40000 = G268 143 this 0 := gr_val g269 e249 s241 (by decide) rfl
  have e281 : 1 = G268 143 this 1 := gr_val g269 e250 s241 (by decide) rfl
  have e282 : n6 = G268 143 this 3 := gr_val g269 e251 s241 (by decide) rfl
  have e283 : n21 = G268 143 this 4 := gr_val g269 e252 s241 (by decide) rfl
  have e284 : n38 = G268 143 this 5 := gr_val g269 e253 s241 (by decide) rfl
  have e285 : n57 = G268 143 this 6 := gr_val g269 e254 s241 (by decide) rfl
  have e286 : n78 = G268 143 this 7 := gr_val g269 e255 s241 (by decide) rfl
  have e287 : n101 = G268 143 this 8 := gr_val g269 e256 s241 (by decide) rfl
  have e288 : n126 = G268 143 this 9 := gr_val g269 e257 s241 (by decide) rfl
  have e289 : (Ad E 0) = G268 154 n202 1 := gr_val g269 e258 r237.1 (by decide) rfl
  have e290 : n202 = G268 143 this 10 := gr_val g269 h263 s241 (by decide) rfl
  have g291 : Gr [93, 94, 95, 96, 97, 98, 114, 115, 116, 117, 118, 130, 144, 153, 154, 155, 156, 157] [(143, 0), (143, 1), (143, 3), (143, 4), (143, 5), (143, 6), (143, 7), (143, 8), (143, 9), (143, 10), (143, 11), (143, 12), (143, 13), (143, 14), (143, 17), (143, 18), (143, 19), (144, 1), (144, 2), (144, 3), (144, 4), (144, 5), (144, 6), (144, 7), (144, 8), (144, 9), (144, 10), (144, 11), (144, 12), (144, 13), (144, 14), (144, 15), (144, 16), (144, 17), (153, 0), (153, 1)] S G S267 G268 := gr_call g265 g269 rfl rfl
  have u292 : UqL [154, 130] S267 := uq_gr u260 g269 rfl
  have u293 : No [155, 156, 157] S267 := no_gr (no_sub u262 rfl) g269 rfl
  have u294 : EmL E [154] S267 G268 := em_gr u264 g269 rfl
  refine r_ex hX hP 1 (pc' := 102) (st' := [(2, n266), (2, n266), (2, this)]) (lo' := [(0, (2, this))]) rfl ?_
  refine r_callI gd hX hP rfl ci_X8_51 n266n (d' := 5) (mc' := 0) (ms' := 0) (as' := []) (st := [(2, n266), (2, this)]) (by omega) (by omega) (by omega) rfl rfl (Nat.le_of_ble_eq_true rfl) (c_Jx4a65c_init_da8c8 E S267 G268 n266  n266l) ?_
  rintro _ _ _ ⟨rfl, ⟨G295, rfl⟩, rfl, elh296, elh296e, f297⟩
  have e299 : Ad E 0 = (hw [(153, 0), (153, 1)] G268 G295) 153 n266 1 := by rw [← f297]; exact elh296e
  have u300 : EmL E [154] S267 (hw [(153, 0), (153, 1)] G268 G295) := (em_hw u294 rfl)
  have g301 : Gr [93, 94, 95, 96, 97, 98, 114, 115, 116, 117, 118, 130, 144, 153, 154, 155, 156, 157] [(143, 0), (143, 1), (143, 3), (143, 4), (143, 5), (143, 6), (143, 7), (143, 8), (143, 9), (143, 10), (143, 11), (143, 12), (143, 13), (143, 14), (143, 17), (143, 18), (143, 19), (144, 1), (144, 2), (144, 3), (144, 4), (144, 5), (144, 6), (144, 7), (144, 8), (144, 9), (144, 10), (144, 11), (144, 12), (144, 13), (144, 14), (144, 15), (144, 16), (144, 17), (153, 0), (153, 1)] S G S267 (hw [(153, 0), (153, 1)] G268 G295) := (gr_hw g291 rfl)
  refine r_finA hX (L := 153) (ci := 0) (fs := fs_153) rfl n266l (by decide) (fun hr302 => ?_)
  have hf303 : Fnl E fs_155 153 S267 (hw [(153, 0), (153, 1)] G268 G295) n266 := by
    intro j hj
    rcases (by have : j < 3 := hj; omega : j = 0 ∨ j = 1 ∨ j = 2) with rfl | rfl | rfl
    · exact hr302 0 (by decide)
    · exact Or.inl e299.symm
    · have e : (0 : Int) ≤ (hw [(153, 0), (153, 1)] G268 G295) 153 n266 2 ∧ (hw [(153, 0), (153, 1)] G268 G295) 153 n266 2 ≤ 0 := hr302 2 (by decide); show (0 : Int) ≤ (hw [(153, 0), (153, 1)] G268 G295) 153 n266 2 ∧ (hw [(153, 0), (153, 1)] G268 G295) 153 n266 2 ≤ 40; omega
  refine r_relabF hX (L := 153) (L' := 155) (ci := 0) (fs := fs_153) (fs' := fs_155) rfl rfl rfl (by decide) (by decide) nf_153 (by decide) n266l hf303 (fun S305 G306 r304 => ?_)
  have s308 : S305 this = 143 := r304.lab n266l s271 (by decide)
  have s309 : S305 n6 = 114 := r304.lab n266l s272 (by decide)
  have s310 : S305 n21 = 114 := r304.lab n266l s273 (by decide)
  have s311 : S305 n38 = 95 := r304.lab n266l s274 (by decide)
  have s312 : S305 n57 = 95 := r304.lab n266l s275 (by decide)
  have s313 : S305 n78 = 115 := r304.lab n266l s276 (by decide)
  have s314 : S305 n101 = 117 := r304.lab n266l s277 (by decide)
  have s315 : S305 n126 = 130 := r304.lab n266l s278 (by decide)
  have s316 : S305 n202 = 154 := r304.lab n266l s279 (by decide)
  have e317 : 40000 = G306 143 this 0 := rs_val r304 n266l e280 s271 (by decide)
  have e318 : 1 = G306 143 this 1 := rs_val r304 n266l e281 s271 (by decide)
  have e319 : n6 = G306 143 this 3 := rs_val r304 n266l e282 s271 (by decide)
  have e320 : n21 = G306 143 this 4 := rs_val r304 n266l e283 s271 (by decide)
  have e321 : n38 = G306 143 this 5 := rs_val r304 n266l e284 s271 (by decide)
  have e322 : n57 = G306 143 this 6 := rs_val r304 n266l e285 s271 (by decide)
  have e323 : n78 = G306 143 this 7 := rs_val r304 n266l e286 s271 (by decide)
  have e324 : n101 = G306 143 this 8 := rs_val r304 n266l e287 s271 (by decide)
  have e325 : n126 = G306 143 this 9 := rs_val r304 n266l e288 s271 (by decide)
  have e326 : (Ad E 0) = G306 154 n202 1 := rs_val r304 n266l e289 s279 (by decide)
  have e327 : n202 = G306 143 this 10 := rs_val r304 n266l e290 s271 (by decide)
  have e328 : (Ad E 0) = G306 155 n266 1 := e299.trans (r304.2.2.1 1).symm
  have g329 : Gr [93, 94, 95, 96, 97, 98, 114, 115, 116, 117, 118, 130, 144, 153, 154, 155, 156, 157] [(143, 0), (143, 1), (143, 3), (143, 4), (143, 5), (143, 6), (143, 7), (143, 8), (143, 9), (143, 10), (143, 11), (143, 12), (143, 13), (143, 14), (143, 17), (143, 18), (143, 19), (144, 1), (144, 2), (144, 3), (144, 4), (144, 5), (144, 6), (144, 7), (144, 8), (144, 9), (144, 10), (144, 11), (144, 12), (144, 13), (144, 14), (144, 15), (144, 16), (144, 17), (153, 0), (153, 1)] S G S305 G306 := gr_rs g301 r304 z270 rfl
  have u330 : UqL [155, 154, 130] S305 := uq_rs u292 (no_sub u293 rfl) r304 rfl
  have u331 : EmL E [155, 154] S305 G306 := em_rs u300 (no_sub u293 rfl) r304 e299 (by have e : (0 : Int) ≤ (hw [(153, 0), (153, 1)] G268 G295) 153 n266 2 ∧ (hw [(153, 0), (153, 1)] G268 G295) 153 n266 2 ≤ 0 := hr302 2 (by decide); omega) rfl
  have u332 : No [156, 157] S305 := no_rs u293 r304 rfl
  refine r_putFN hX hP rfl rfl fq_X8_56_143 s308 (by decide) (Or.inr r304.1) (fun h333 => ?_)
  refine r_ex hX hP 1 (pc' := 109) (st' := [(2, this)]) (lo' := [(0, (2, this))]) rfl ?_
  have u334 : EmL E [155, 154] S305 (up G306 143 this 11 n266) := (em_up u331 rfl)
  have g335 : Gr [93, 94, 95, 96, 97, 98, 114, 115, 116, 117, 118, 130, 144, 153, 154, 155, 156, 157] [(143, 0), (143, 1), (143, 3), (143, 4), (143, 5), (143, 6), (143, 7), (143, 8), (143, 9), (143, 10), (143, 11), (143, 12), (143, 13), (143, 14), (143, 17), (143, 18), (143, 19), (144, 1), (144, 2), (144, 3), (144, 4), (144, 5), (144, 6), (144, 7), (144, 8), (144, 9), (144, 10), (144, 11), (144, 12), (144, 13), (144, 14), (144, 15), (144, 16), (144, 17), (153, 0), (153, 1)] S G S305 (up G306 143 this 11 n266) := (gr_up g329 rfl)
  refine r_newA hX hP rfl (L := 153) (N := 3) nw_X8_49_153 (by omega) (by omega) (fun n336 S337 G338 n336z n336n n336l g339 n336v => ?_)
  have z340 : S n336 = 0 := gr_zero g335 n336z
  have s341 : S337 this = 143 := gr_lab g339 s308 (by decide)
  have s342 : S337 n6 = 114 := gr_lab g339 s309 (by decide)
  have s343 : S337 n21 = 114 := gr_lab g339 s310 (by decide)
  have s344 : S337 n38 = 95 := gr_lab g339 s311 (by decide)
  have s345 : S337 n57 = 95 := gr_lab g339 s312 (by decide)
  have s346 : S337 n78 = 115 := gr_lab g339 s313 (by decide)
  have s347 : S337 n101 = 117 := gr_lab g339 s314 (by decide)
  have s348 : S337 n126 = 130 := gr_lab g339 s315 (by decide)
  have s349 : S337 n202 = 154 := gr_lab g339 s316 (by decide)
  have s350 : S337 n266 = 155 := gr_lab g339 r304.1 (by decide)
  have e351 : 40000 = G338 143 this 0 := gr_val g339 e317 s308 (by decide) rfl
  have e352 : 1 = G338 143 this 1 := gr_val g339 e318 s308 (by decide) rfl
  have e353 : n6 = G338 143 this 3 := gr_val g339 e319 s308 (by decide) rfl
  have e354 : n21 = G338 143 this 4 := gr_val g339 e320 s308 (by decide) rfl
  have e355 : n38 = G338 143 this 5 := gr_val g339 e321 s308 (by decide) rfl
  have e356 : n57 = G338 143 this 6 := gr_val g339 e322 s308 (by decide) rfl
  have e357 : n78 = G338 143 this 7 := gr_val g339 e323 s308 (by decide) rfl
  have e358 : n101 = G338 143 this 8 := gr_val g339 e324 s308 (by decide) rfl
  have e359 : n126 = G338 143 this 9 := gr_val g339 e325 s308 (by decide) rfl
  have e360 : (Ad E 0) = G338 154 n202 1 := gr_val g339 e326 s316 (by decide) rfl
  have e361 : n202 = G338 143 this 10 := gr_val g339 e327 s308 (by decide) rfl
  have e362 : (Ad E 0) = G338 155 n266 1 := gr_val g339 e328 r304.1 (by decide) rfl
  have e363 : n266 = G338 143 this 11 := gr_val g339 h333 s308 (by decide) rfl
  have g364 : Gr [93, 94, 95, 96, 97, 98, 114, 115, 116, 117, 118, 130, 144, 153, 154, 155, 156, 157] [(143, 0), (143, 1), (143, 3), (143, 4), (143, 5), (143, 6), (143, 7), (143, 8), (143, 9), (143, 10), (143, 11), (143, 12), (143, 13), (143, 14), (143, 17), (143, 18), (143, 19), (144, 1), (144, 2), (144, 3), (144, 4), (144, 5), (144, 6), (144, 7), (144, 8), (144, 9), (144, 10), (144, 11), (144, 12), (144, 13), (144, 14), (144, 15), (144, 16), (144, 17), (153, 0), (153, 1)] S G S337 G338 := gr_call g335 g339 rfl rfl
  have u365 : UqL [155, 154, 130] S337 := uq_gr u330 g339 rfl
  have u366 : No [156, 157] S337 := no_gr (no_sub u332 rfl) g339 rfl
  have u367 : EmL E [155, 154] S337 G338 := em_gr u334 g339 rfl
  refine r_ex hX hP 1 (pc' := 113) (st' := [(2, n336), (2, n336), (2, this)]) (lo' := [(0, (2, this))]) rfl ?_
  refine r_callI gd hX hP rfl ci_X8_51 n336n (d' := 5) (mc' := 0) (ms' := 0) (as' := []) (st := [(2, n336), (2, this)]) (by omega) (by omega) (by omega) rfl rfl (Nat.le_of_ble_eq_true rfl) (c_Jx4a65c_init_da8c8 E S337 G338 n336  n336l) ?_
  rintro _ _ _ ⟨rfl, ⟨G368, rfl⟩, rfl, elh369, elh369e, f370⟩
  have e372 : Ad E 0 = (hw [(153, 0), (153, 1)] G338 G368) 153 n336 1 := by rw [← f370]; exact elh369e
  have u373 : EmL E [155, 154] S337 (hw [(153, 0), (153, 1)] G338 G368) := (em_hw u367 rfl)
  have g374 : Gr [93, 94, 95, 96, 97, 98, 114, 115, 116, 117, 118, 130, 144, 153, 154, 155, 156, 157] [(143, 0), (143, 1), (143, 3), (143, 4), (143, 5), (143, 6), (143, 7), (143, 8), (143, 9), (143, 10), (143, 11), (143, 12), (143, 13), (143, 14), (143, 17), (143, 18), (143, 19), (144, 1), (144, 2), (144, 3), (144, 4), (144, 5), (144, 6), (144, 7), (144, 8), (144, 9), (144, 10), (144, 11), (144, 12), (144, 13), (144, 14), (144, 15), (144, 16), (144, 17), (153, 0), (153, 1)] S G S337 (hw [(153, 0), (153, 1)] G338 G368) := (gr_hw g364 rfl)
  refine r_finA hX (L := 153) (ci := 0) (fs := fs_153) rfl n336l (by decide) (fun hr375 => ?_)
  have hf376 : Fnl E fs_156 153 S337 (hw [(153, 0), (153, 1)] G338 G368) n336 := by
    intro j hj
    rcases (by have : j < 3 := hj; omega : j = 0 ∨ j = 1 ∨ j = 2) with rfl | rfl | rfl
    · exact hr375 0 (by decide)
    · exact Or.inl e372.symm
    · have e : (0 : Int) ≤ (hw [(153, 0), (153, 1)] G338 G368) 153 n336 2 ∧ (hw [(153, 0), (153, 1)] G338 G368) 153 n336 2 ≤ 0 := hr375 2 (by decide); show (0 : Int) ≤ (hw [(153, 0), (153, 1)] G338 G368) 153 n336 2 ∧ (hw [(153, 0), (153, 1)] G338 G368) 153 n336 2 ≤ 16; omega
  refine r_relabF hX (L := 153) (L' := 156) (ci := 0) (fs := fs_153) (fs' := fs_156) rfl rfl rfl (by decide) (by decide) nf_153 (by decide) n336l hf376 (fun S378 G379 r377 => ?_)
  have s381 : S378 this = 143 := r377.lab n336l s341 (by decide)
  have s382 : S378 n6 = 114 := r377.lab n336l s342 (by decide)
  have s383 : S378 n21 = 114 := r377.lab n336l s343 (by decide)
  have s384 : S378 n38 = 95 := r377.lab n336l s344 (by decide)
  have s385 : S378 n57 = 95 := r377.lab n336l s345 (by decide)
  have s386 : S378 n78 = 115 := r377.lab n336l s346 (by decide)
  have s387 : S378 n101 = 117 := r377.lab n336l s347 (by decide)
  have s388 : S378 n126 = 130 := r377.lab n336l s348 (by decide)
  have s389 : S378 n202 = 154 := r377.lab n336l s349 (by decide)
  have s390 : S378 n266 = 155 := r377.lab n336l s350 (by decide)
  have e391 : 40000 = G379 143 this 0 := rs_val r377 n336l e351 s341 (by decide)
  have e392 : 1 = G379 143 this 1 := rs_val r377 n336l e352 s341 (by decide)
  have e393 : n6 = G379 143 this 3 := rs_val r377 n336l e353 s341 (by decide)
  have e394 : n21 = G379 143 this 4 := rs_val r377 n336l e354 s341 (by decide)
  have e395 : n38 = G379 143 this 5 := rs_val r377 n336l e355 s341 (by decide)
  have e396 : n57 = G379 143 this 6 := rs_val r377 n336l e356 s341 (by decide)
  have e397 : n78 = G379 143 this 7 := rs_val r377 n336l e357 s341 (by decide)
  have e398 : n101 = G379 143 this 8 := rs_val r377 n336l e358 s341 (by decide)
  have e399 : n126 = G379 143 this 9 := rs_val r377 n336l e359 s341 (by decide)
  have e400 : (Ad E 0) = G379 154 n202 1 := rs_val r377 n336l e360 s349 (by decide)
  have e401 : n202 = G379 143 this 10 := rs_val r377 n336l e361 s341 (by decide)
  have e402 : (Ad E 0) = G379 155 n266 1 := rs_val r377 n336l e362 s350 (by decide)
  have e403 : n266 = G379 143 this 11 := rs_val r377 n336l e363 s341 (by decide)
  have e404 : (Ad E 0) = G379 156 n336 1 := e372.trans (r377.2.2.1 1).symm
  have g405 : Gr [93, 94, 95, 96, 97, 98, 114, 115, 116, 117, 118, 130, 144, 153, 154, 155, 156, 157] [(143, 0), (143, 1), (143, 3), (143, 4), (143, 5), (143, 6), (143, 7), (143, 8), (143, 9), (143, 10), (143, 11), (143, 12), (143, 13), (143, 14), (143, 17), (143, 18), (143, 19), (144, 1), (144, 2), (144, 3), (144, 4), (144, 5), (144, 6), (144, 7), (144, 8), (144, 9), (144, 10), (144, 11), (144, 12), (144, 13), (144, 14), (144, 15), (144, 16), (144, 17), (153, 0), (153, 1)] S G S378 G379 := gr_rs g374 r377 z340 rfl
  have u406 : UqL [156, 155, 154, 130] S378 := uq_rs u365 (no_sub u366 rfl) r377 rfl
  have u407 : EmL E [156, 155, 154] S378 G379 := em_rs u373 (no_sub u366 rfl) r377 e372 (by have e : (0 : Int) ≤ (hw [(153, 0), (153, 1)] G338 G368) 153 n336 2 ∧ (hw [(153, 0), (153, 1)] G338 G368) 153 n336 2 ≤ 0 := hr375 2 (by decide); omega) rfl
  have u408 : No [157] S378 := no_rs u366 r377 rfl
  refine r_putFN hX hP rfl rfl fq_X8_59_143 s381 (by decide) (Or.inr r377.1) (fun h409 => ?_)
  refine r_ex hX hP 1 (pc' := 120) (st' := [(2, this)]) (lo' := [(0, (2, this))]) rfl ?_
  have u410 : EmL E [156, 155, 154] S378 (up G379 143 this 12 n336) := (em_up u407 rfl)
  have g411 : Gr [93, 94, 95, 96, 97, 98, 114, 115, 116, 117, 118, 130, 144, 153, 154, 155, 156, 157] [(143, 0), (143, 1), (143, 3), (143, 4), (143, 5), (143, 6), (143, 7), (143, 8), (143, 9), (143, 10), (143, 11), (143, 12), (143, 13), (143, 14), (143, 17), (143, 18), (143, 19), (144, 1), (144, 2), (144, 3), (144, 4), (144, 5), (144, 6), (144, 7), (144, 8), (144, 9), (144, 10), (144, 11), (144, 12), (144, 13), (144, 14), (144, 15), (144, 16), (144, 17), (153, 0), (153, 1)] S G S378 (up G379 143 this 12 n336) := (gr_up g405 rfl)
  refine r_newA hX hP rfl (L := 153) (N := 3) nw_X8_49_153 (by omega) (by omega) (fun n412 S413 G414 n412z n412n n412l g415 n412v => ?_)
  have z416 : S n412 = 0 := gr_zero g411 n412z
  have s417 : S413 this = 143 := gr_lab g415 s381 (by decide)
  have s418 : S413 n6 = 114 := gr_lab g415 s382 (by decide)
  have s419 : S413 n21 = 114 := gr_lab g415 s383 (by decide)
  have s420 : S413 n38 = 95 := gr_lab g415 s384 (by decide)
  have s421 : S413 n57 = 95 := gr_lab g415 s385 (by decide)
  have s422 : S413 n78 = 115 := gr_lab g415 s386 (by decide)
  have s423 : S413 n101 = 117 := gr_lab g415 s387 (by decide)
  have s424 : S413 n126 = 130 := gr_lab g415 s388 (by decide)
  have s425 : S413 n202 = 154 := gr_lab g415 s389 (by decide)
  have s426 : S413 n266 = 155 := gr_lab g415 s390 (by decide)
  have s427 : S413 n336 = 156 := gr_lab g415 r377.1 (by decide)
  have e428 : 40000 = G414 143 this 0 := gr_val g415 e391 s381 (by decide) rfl
  have e429 : 1 = G414 143 this 1 := gr_val g415 e392 s381 (by decide) rfl
  have e430 : n6 = G414 143 this 3 := gr_val g415 e393 s381 (by decide) rfl
  have e431 : n21 = G414 143 this 4 := gr_val g415 e394 s381 (by decide) rfl
  have e432 : n38 = G414 143 this 5 := gr_val g415 e395 s381 (by decide) rfl
  have e433 : n57 = G414 143 this 6 := gr_val g415 e396 s381 (by decide) rfl
  have e434 : n78 = G414 143 this 7 := gr_val g415 e397 s381 (by decide) rfl
  have e435 : n101 = G414 143 this 8 := gr_val g415 e398 s381 (by decide) rfl
  have e436 : n126 = G414 143 this 9 := gr_val g415 e399 s381 (by decide) rfl
  have e437 : (Ad E 0) = G414 154 n202 1 := gr_val g415 e400 s389 (by decide) rfl
  have e438 : n202 = G414 143 this 10 := gr_val g415 e401 s381 (by decide) rfl
  have e439 : (Ad E 0) = G414 155 n266 1 := gr_val g415 e402 s390 (by decide) rfl
  have e440 : n266 = G414 143 this 11 := gr_val g415 e403 s381 (by decide) rfl
  have e441 : (Ad E 0) = G414 156 n336 1 := gr_val g415 e404 r377.1 (by decide) rfl
  have e442 : n336 = G414 143 this 12 := gr_val g415 h409 s381 (by decide) rfl
  have g443 : Gr [93, 94, 95, 96, 97, 98, 114, 115, 116, 117, 118, 130, 144, 153, 154, 155, 156, 157] [(143, 0), (143, 1), (143, 3), (143, 4), (143, 5), (143, 6), (143, 7), (143, 8), (143, 9), (143, 10), (143, 11), (143, 12), (143, 13), (143, 14), (143, 17), (143, 18), (143, 19), (144, 1), (144, 2), (144, 3), (144, 4), (144, 5), (144, 6), (144, 7), (144, 8), (144, 9), (144, 10), (144, 11), (144, 12), (144, 13), (144, 14), (144, 15), (144, 16), (144, 17), (153, 0), (153, 1)] S G S413 G414 := gr_call g411 g415 rfl rfl
  have u444 : UqL [156, 155, 154, 130] S413 := uq_gr u406 g415 rfl
  have u445 : No [157] S413 := no_gr (no_sub u408 rfl) g415 rfl
  have u446 : EmL E [156, 155, 154] S413 G414 := em_gr u410 g415 rfl
  refine r_ex hX hP 1 (pc' := 124) (st' := [(2, n412), (2, n412), (2, this)]) (lo' := [(0, (2, this))]) rfl ?_
  refine r_callI gd hX hP rfl ci_X8_51 n412n (d' := 5) (mc' := 0) (ms' := 0) (as' := []) (st := [(2, n412), (2, this)]) (by omega) (by omega) (by omega) rfl rfl (Nat.le_of_ble_eq_true rfl) (c_Jx4a65c_init_da8c8 E S413 G414 n412  n412l) ?_
  rintro _ _ _ ⟨rfl, ⟨G447, rfl⟩, rfl, elh448, elh448e, f449⟩
  have e451 : Ad E 0 = (hw [(153, 0), (153, 1)] G414 G447) 153 n412 1 := by rw [← f449]; exact elh448e
  have u452 : EmL E [156, 155, 154] S413 (hw [(153, 0), (153, 1)] G414 G447) := (em_hw u446 rfl)
  have g453 : Gr [93, 94, 95, 96, 97, 98, 114, 115, 116, 117, 118, 130, 144, 153, 154, 155, 156, 157] [(143, 0), (143, 1), (143, 3), (143, 4), (143, 5), (143, 6), (143, 7), (143, 8), (143, 9), (143, 10), (143, 11), (143, 12), (143, 13), (143, 14), (143, 17), (143, 18), (143, 19), (144, 1), (144, 2), (144, 3), (144, 4), (144, 5), (144, 6), (144, 7), (144, 8), (144, 9), (144, 10), (144, 11), (144, 12), (144, 13), (144, 14), (144, 15), (144, 16), (144, 17), (153, 0), (153, 1)] S G S413 (hw [(153, 0), (153, 1)] G414 G447) := (gr_hw g443 rfl)
  refine r_finA hX (L := 153) (ci := 0) (fs := fs_153) rfl n412l (by decide) (fun hr454 => ?_)
  have hf455 : Fnl E fs_157 153 S413 (hw [(153, 0), (153, 1)] G414 G447) n412 := by
    intro j hj
    rcases (by have : j < 3 := hj; omega : j = 0 ∨ j = 1 ∨ j = 2) with rfl | rfl | rfl
    · exact hr454 0 (by decide)
    · exact Or.inl e451.symm
    · have e : (0 : Int) ≤ (hw [(153, 0), (153, 1)] G414 G447) 153 n412 2 ∧ (hw [(153, 0), (153, 1)] G414 G447) 153 n412 2 ≤ 0 := hr454 2 (by decide); show (0 : Int) ≤ (hw [(153, 0), (153, 1)] G414 G447) 153 n412 2 ∧ (hw [(153, 0), (153, 1)] G414 G447) 153 n412 2 ≤ 60; omega
  refine r_relabF hX (L := 153) (L' := 157) (ci := 0) (fs := fs_153) (fs' := fs_157) rfl rfl rfl (by decide) (by decide) nf_153 (by decide) n412l hf455 (fun S457 G458 r456 => ?_)
  have s460 : S457 this = 143 := r456.lab n412l s417 (by decide)
  have s461 : S457 n6 = 114 := r456.lab n412l s418 (by decide)
  have s462 : S457 n21 = 114 := r456.lab n412l s419 (by decide)
  have s463 : S457 n38 = 95 := r456.lab n412l s420 (by decide)
  have s464 : S457 n57 = 95 := r456.lab n412l s421 (by decide)
  have s465 : S457 n78 = 115 := r456.lab n412l s422 (by decide)
  have s466 : S457 n101 = 117 := r456.lab n412l s423 (by decide)
  have s467 : S457 n126 = 130 := r456.lab n412l s424 (by decide)
  have s468 : S457 n202 = 154 := r456.lab n412l s425 (by decide)
  have s469 : S457 n266 = 155 := r456.lab n412l s426 (by decide)
  have s470 : S457 n336 = 156 := r456.lab n412l s427 (by decide)
  have e471 : 40000 = G458 143 this 0 := rs_val r456 n412l e428 s417 (by decide)
  have e472 : 1 = G458 143 this 1 := rs_val r456 n412l e429 s417 (by decide)
  have e473 : n6 = G458 143 this 3 := rs_val r456 n412l e430 s417 (by decide)
  have e474 : n21 = G458 143 this 4 := rs_val r456 n412l e431 s417 (by decide)
  have e475 : n38 = G458 143 this 5 := rs_val r456 n412l e432 s417 (by decide)
  have e476 : n57 = G458 143 this 6 := rs_val r456 n412l e433 s417 (by decide)
  have e477 : n78 = G458 143 this 7 := rs_val r456 n412l e434 s417 (by decide)
  have e478 : n101 = G458 143 this 8 := rs_val r456 n412l e435 s417 (by decide)
  have e479 : n126 = G458 143 this 9 := rs_val r456 n412l e436 s417 (by decide)
  have e480 : (Ad E 0) = G458 154 n202 1 := rs_val r456 n412l e437 s425 (by decide)
  have e481 : n202 = G458 143 this 10 := rs_val r456 n412l e438 s417 (by decide)
  have e482 : (Ad E 0) = G458 155 n266 1 := rs_val r456 n412l e439 s426 (by decide)
  have e483 : n266 = G458 143 this 11 := rs_val r456 n412l e440 s417 (by decide)
  have e484 : (Ad E 0) = G458 156 n336 1 := rs_val r456 n412l e441 s427 (by decide)
  have e485 : n336 = G458 143 this 12 := rs_val r456 n412l e442 s417 (by decide)
  have e486 : (Ad E 0) = G458 157 n412 1 := e451.trans (r456.2.2.1 1).symm
  have g487 : Gr [93, 94, 95, 96, 97, 98, 114, 115, 116, 117, 118, 130, 144, 153, 154, 155, 156, 157] [(143, 0), (143, 1), (143, 3), (143, 4), (143, 5), (143, 6), (143, 7), (143, 8), (143, 9), (143, 10), (143, 11), (143, 12), (143, 13), (143, 14), (143, 17), (143, 18), (143, 19), (144, 1), (144, 2), (144, 3), (144, 4), (144, 5), (144, 6), (144, 7), (144, 8), (144, 9), (144, 10), (144, 11), (144, 12), (144, 13), (144, 14), (144, 15), (144, 16), (144, 17), (153, 0), (153, 1)] S G S457 G458 := gr_rs g453 r456 z416 rfl
  have u488 : UqL [157, 156, 155, 154, 130] S457 := uq_rs u444 (no_sub u445 rfl) r456 rfl
  have u489 : EmL E [157, 156, 155, 154] S457 G458 := em_rs u452 (no_sub u445 rfl) r456 e451 (by have e : (0 : Int) ≤ (hw [(153, 0), (153, 1)] G414 G447) 153 n412 2 ∧ (hw [(153, 0), (153, 1)] G414 G447) 153 n412 2 ≤ 0 := hr454 2 (by decide); omega) rfl
  have u490 : No [] S457 := no_rs u445 r456 rfl
  refine r_putFN hX hP rfl rfl fq_X8_62_143 s460 (by decide) (Or.inr r456.1) (fun h491 => ?_)
  refine r_ex hX hP 2 (pc' := 133) (st' := [(0, 96), (2, this)]) (lo' := [(0, (2, this))]) rfl ?_
  have u492 : EmL E [157, 156, 155, 154] S457 (up G458 143 this 13 n412) := (em_up u489 rfl)
  have g493 : Gr [93, 94, 95, 96, 97, 98, 114, 115, 116, 117, 118, 130, 144, 153, 154, 155, 156, 157] [(143, 0), (143, 1), (143, 3), (143, 4), (143, 5), (143, 6), (143, 7), (143, 8), (143, 9), (143, 10), (143, 11), (143, 12), (143, 13), (143, 14), (143, 17), (143, 18), (143, 19), (144, 1), (144, 2), (144, 3), (144, 4), (144, 5), (144, 6), (144, 7), (144, 8), (144, 9), (144, 10), (144, 11), (144, 12), (144, 13), (144, 14), (144, 15), (144, 16), (144, 17), (153, 0), (153, 1)] S G S457 (up G458 143 this 13 n412) := (gr_up g487 rfl)
  refine r_newarrA hX hP rfl (L := 118) (n := 96) al_118 (by decide) rfl rfl rfl (tbg sg1 124 rfl rfl) (by decide) (by omega) (by omega) (fun n494 S495 G496 n494z n494n n494l g497 n494v => ?_)
  have z498 : S n494 = 0 := gr_zero g493 n494z
  have s499 : S495 this = 143 := gr_lab g497 s460 (by decide)
  have s500 : S495 n6 = 114 := gr_lab g497 s461 (by decide)
  have s501 : S495 n21 = 114 := gr_lab g497 s462 (by decide)
  have s502 : S495 n38 = 95 := gr_lab g497 s463 (by decide)
  have s503 : S495 n57 = 95 := gr_lab g497 s464 (by decide)
  have s504 : S495 n78 = 115 := gr_lab g497 s465 (by decide)
  have s505 : S495 n101 = 117 := gr_lab g497 s466 (by decide)
  have s506 : S495 n126 = 130 := gr_lab g497 s467 (by decide)
  have s507 : S495 n202 = 154 := gr_lab g497 s468 (by decide)
  have s508 : S495 n266 = 155 := gr_lab g497 s469 (by decide)
  have s509 : S495 n336 = 156 := gr_lab g497 s470 (by decide)
  have s510 : S495 n412 = 157 := gr_lab g497 r456.1 (by decide)
  have e511 : 40000 = G496 143 this 0 := gr_val g497 e471 s460 (by decide) rfl
  have e512 : 1 = G496 143 this 1 := gr_val g497 e472 s460 (by decide) rfl
  have e513 : n6 = G496 143 this 3 := gr_val g497 e473 s460 (by decide) rfl
  have e514 : n21 = G496 143 this 4 := gr_val g497 e474 s460 (by decide) rfl
  have e515 : n38 = G496 143 this 5 := gr_val g497 e475 s460 (by decide) rfl
  have e516 : n57 = G496 143 this 6 := gr_val g497 e476 s460 (by decide) rfl
  have e517 : n78 = G496 143 this 7 := gr_val g497 e477 s460 (by decide) rfl
  have e518 : n101 = G496 143 this 8 := gr_val g497 e478 s460 (by decide) rfl
  have e519 : n126 = G496 143 this 9 := gr_val g497 e479 s460 (by decide) rfl
  have e520 : (Ad E 0) = G496 154 n202 1 := gr_val g497 e480 s468 (by decide) rfl
  have e521 : n202 = G496 143 this 10 := gr_val g497 e481 s460 (by decide) rfl
  have e522 : (Ad E 0) = G496 155 n266 1 := gr_val g497 e482 s469 (by decide) rfl
  have e523 : n266 = G496 143 this 11 := gr_val g497 e483 s460 (by decide) rfl
  have e524 : (Ad E 0) = G496 156 n336 1 := gr_val g497 e484 s470 (by decide) rfl
  have e525 : n336 = G496 143 this 12 := gr_val g497 e485 s460 (by decide) rfl
  have e526 : (Ad E 0) = G496 157 n412 1 := gr_val g497 e486 r456.1 (by decide) rfl
  have e527 : n412 = G496 143 this 13 := gr_val g497 h491 s460 (by decide) rfl
  have g528 : Gr [93, 94, 95, 96, 97, 98, 114, 115, 116, 117, 118, 130, 144, 153, 154, 155, 156, 157] [(143, 0), (143, 1), (143, 3), (143, 4), (143, 5), (143, 6), (143, 7), (143, 8), (143, 9), (143, 10), (143, 11), (143, 12), (143, 13), (143, 14), (143, 17), (143, 18), (143, 19), (144, 1), (144, 2), (144, 3), (144, 4), (144, 5), (144, 6), (144, 7), (144, 8), (144, 9), (144, 10), (144, 11), (144, 12), (144, 13), (144, 14), (144, 15), (144, 16), (144, 17), (153, 0), (153, 1)] S G S495 G496 := gr_call g493 g497 rfl rfl
  have u529 : UqL [157, 156, 155, 154, 130] S495 := uq_gr u488 g497 rfl
  have u530 : No [] S495 := no_gr (no_sub u490 rfl) g497 rfl
  have u531 : EmL E [157, 156, 155, 154] S495 G496 := em_gr u492 g497 rfl
  refine r_putFN hX hP rfl rfl fq_X8_65_143 s499 (by decide) (Or.inr n494l) (fun h532 => ?_)
  refine r_ex hX hP 2 (pc' := 141) (st' := [(0, 20), (2, this)]) (lo' := [(0, (2, this))]) rfl ?_
  have u533 : EmL E [157, 156, 155, 154] S495 (up G496 143 this 14 n494) := (em_up u531 rfl)
  have g534 : Gr [93, 94, 95, 96, 97, 98, 114, 115, 116, 117, 118, 130, 144, 153, 154, 155, 156, 157] [(143, 0), (143, 1), (143, 3), (143, 4), (143, 5), (143, 6), (143, 7), (143, 8), (143, 9), (143, 10), (143, 11), (143, 12), (143, 13), (143, 14), (143, 17), (143, 18), (143, 19), (144, 1), (144, 2), (144, 3), (144, 4), (144, 5), (144, 6), (144, 7), (144, 8), (144, 9), (144, 10), (144, 11), (144, 12), (144, 13), (144, 14), (144, 15), (144, 16), (144, 17), (153, 0), (153, 1)] S G S495 (up G496 143 this 14 n494) := (gr_up g528 rfl)
  refine r_newarrA hX hP rfl (L := 95) (n := 20) al_95 (by decide) rfl rfl rfl (tbg sg1 123 rfl rfl) (by decide) (by omega) (by omega) (fun n535 S536 G537 n535z n535n n535l g538 n535v => ?_)
  have z539 : S n535 = 0 := gr_zero g534 n535z
  have s540 : S536 this = 143 := gr_lab g538 s499 (by decide)
  have s541 : S536 n6 = 114 := gr_lab g538 s500 (by decide)
  have s542 : S536 n21 = 114 := gr_lab g538 s501 (by decide)
  have s543 : S536 n38 = 95 := gr_lab g538 s502 (by decide)
  have s544 : S536 n57 = 95 := gr_lab g538 s503 (by decide)
  have s545 : S536 n78 = 115 := gr_lab g538 s504 (by decide)
  have s546 : S536 n101 = 117 := gr_lab g538 s505 (by decide)
  have s547 : S536 n126 = 130 := gr_lab g538 s506 (by decide)
  have s548 : S536 n202 = 154 := gr_lab g538 s507 (by decide)
  have s549 : S536 n266 = 155 := gr_lab g538 s508 (by decide)
  have s550 : S536 n336 = 156 := gr_lab g538 s509 (by decide)
  have s551 : S536 n412 = 157 := gr_lab g538 s510 (by decide)
  have s552 : S536 n494 = 118 := gr_lab g538 n494l (by decide)
  have e553 : 40000 = G537 143 this 0 := gr_val g538 e511 s499 (by decide) rfl
  have e554 : 1 = G537 143 this 1 := gr_val g538 e512 s499 (by decide) rfl
  have e555 : n6 = G537 143 this 3 := gr_val g538 e513 s499 (by decide) rfl
  have e556 : n21 = G537 143 this 4 := gr_val g538 e514 s499 (by decide) rfl
  have e557 : n38 = G537 143 this 5 := gr_val g538 e515 s499 (by decide) rfl
  have e558 : n57 = G537 143 this 6 := gr_val g538 e516 s499 (by decide) rfl
  have e559 : n78 = G537 143 this 7 := gr_val g538 e517 s499 (by decide) rfl
  have e560 : n101 = G537 143 this 8 := gr_val g538 e518 s499 (by decide) rfl
  have e561 : n126 = G537 143 this 9 := gr_val g538 e519 s499 (by decide) rfl
  have e562 : (Ad E 0) = G537 154 n202 1 := gr_val g538 e520 s507 (by decide) rfl
  have e563 : n202 = G537 143 this 10 := gr_val g538 e521 s499 (by decide) rfl
  have e564 : (Ad E 0) = G537 155 n266 1 := gr_val g538 e522 s508 (by decide) rfl
  have e565 : n266 = G537 143 this 11 := gr_val g538 e523 s499 (by decide) rfl
  have e566 : (Ad E 0) = G537 156 n336 1 := gr_val g538 e524 s509 (by decide) rfl
  have e567 : n336 = G537 143 this 12 := gr_val g538 e525 s499 (by decide) rfl
  have e568 : (Ad E 0) = G537 157 n412 1 := gr_val g538 e526 s510 (by decide) rfl
  have e569 : n412 = G537 143 this 13 := gr_val g538 e527 s499 (by decide) rfl
  have e570 : n494 = G537 143 this 14 := gr_val g538 h532 s499 (by decide) rfl
  have g571 : Gr [93, 94, 95, 96, 97, 98, 114, 115, 116, 117, 118, 130, 144, 153, 154, 155, 156, 157] [(143, 0), (143, 1), (143, 3), (143, 4), (143, 5), (143, 6), (143, 7), (143, 8), (143, 9), (143, 10), (143, 11), (143, 12), (143, 13), (143, 14), (143, 17), (143, 18), (143, 19), (144, 1), (144, 2), (144, 3), (144, 4), (144, 5), (144, 6), (144, 7), (144, 8), (144, 9), (144, 10), (144, 11), (144, 12), (144, 13), (144, 14), (144, 15), (144, 16), (144, 17), (153, 0), (153, 1)] S G S536 G537 := gr_call g534 g538 rfl rfl
  have u572 : UqL [157, 156, 155, 154, 130] S536 := uq_gr u529 g538 rfl
  have u573 : No [] S536 := no_gr (no_sub u530 rfl) g538 rfl
  have u574 : EmL E [157, 156, 155, 154] S536 G537 := em_gr u533 g538 rfl
  refine r_putFN hX hP rfl rfl fq_X8_68_143 s540 (by decide) (Or.inr n535l) (fun h575 => ?_)
  refine r_ex hX hP 2 (pc' := 149) (st' := [(0, 20), (2, this)]) (lo' := [(0, (2, this))]) rfl ?_
  have u576 : EmL E [157, 156, 155, 154] S536 (up G537 143 this 17 n535) := (em_up u574 rfl)
  have g577 : Gr [93, 94, 95, 96, 97, 98, 114, 115, 116, 117, 118, 130, 144, 153, 154, 155, 156, 157] [(143, 0), (143, 1), (143, 3), (143, 4), (143, 5), (143, 6), (143, 7), (143, 8), (143, 9), (143, 10), (143, 11), (143, 12), (143, 13), (143, 14), (143, 17), (143, 18), (143, 19), (144, 1), (144, 2), (144, 3), (144, 4), (144, 5), (144, 6), (144, 7), (144, 8), (144, 9), (144, 10), (144, 11), (144, 12), (144, 13), (144, 14), (144, 15), (144, 16), (144, 17), (153, 0), (153, 1)] S G S536 (up G537 143 this 17 n535) := (gr_up g571 rfl)
  refine r_newarrA hX hP rfl (L := 95) (n := 20) al_95 (by decide) rfl rfl rfl (tbg sg1 123 rfl rfl) (by decide) (by omega) (by omega) (fun n578 S579 G580 n578z n578n n578l g581 n578v => ?_)
  have z582 : S n578 = 0 := gr_zero g577 n578z
  have s583 : S579 this = 143 := gr_lab g581 s540 (by decide)
  have s584 : S579 n6 = 114 := gr_lab g581 s541 (by decide)
  have s585 : S579 n21 = 114 := gr_lab g581 s542 (by decide)
  have s586 : S579 n38 = 95 := gr_lab g581 s543 (by decide)
  have s587 : S579 n57 = 95 := gr_lab g581 s544 (by decide)
  have s588 : S579 n78 = 115 := gr_lab g581 s545 (by decide)
  have s589 : S579 n101 = 117 := gr_lab g581 s546 (by decide)
  have s590 : S579 n126 = 130 := gr_lab g581 s547 (by decide)
  have s591 : S579 n202 = 154 := gr_lab g581 s548 (by decide)
  have s592 : S579 n266 = 155 := gr_lab g581 s549 (by decide)
  have s593 : S579 n336 = 156 := gr_lab g581 s550 (by decide)
  have s594 : S579 n412 = 157 := gr_lab g581 s551 (by decide)
  have s595 : S579 n494 = 118 := gr_lab g581 s552 (by decide)
  have s596 : S579 n535 = 95 := gr_lab g581 n535l (by decide)
  have e597 : 40000 = G580 143 this 0 := gr_val g581 e553 s540 (by decide) rfl
  have e598 : 1 = G580 143 this 1 := gr_val g581 e554 s540 (by decide) rfl
  have e599 : n6 = G580 143 this 3 := gr_val g581 e555 s540 (by decide) rfl
  have e600 : n21 = G580 143 this 4 := gr_val g581 e556 s540 (by decide) rfl
  have e601 : n38 = G580 143 this 5 := gr_val g581 e557 s540 (by decide) rfl
  have e602 : n57 = G580 143 this 6 := gr_val g581 e558 s540 (by decide) rfl
  have e603 : n78 = G580 143 this 7 := gr_val g581 e559 s540 (by decide) rfl
  have e604 : n101 = G580 143 this 8 := gr_val g581 e560 s540 (by decide) rfl
  have e605 : n126 = G580 143 this 9 := gr_val g581 e561 s540 (by decide) rfl
  have e606 : (Ad E 0) = G580 154 n202 1 := gr_val g581 e562 s548 (by decide) rfl
  have e607 : n202 = G580 143 this 10 := gr_val g581 e563 s540 (by decide) rfl
  have e608 : (Ad E 0) = G580 155 n266 1 := gr_val g581 e564 s549 (by decide) rfl
  have e609 : n266 = G580 143 this 11 := gr_val g581 e565 s540 (by decide) rfl
  have e610 : (Ad E 0) = G580 156 n336 1 := gr_val g581 e566 s550 (by decide) rfl
  have e611 : n336 = G580 143 this 12 := gr_val g581 e567 s540 (by decide) rfl
  have e612 : (Ad E 0) = G580 157 n412 1 := gr_val g581 e568 s551 (by decide) rfl
  have e613 : n412 = G580 143 this 13 := gr_val g581 e569 s540 (by decide) rfl
  have e614 : n494 = G580 143 this 14 := gr_val g581 e570 s540 (by decide) rfl
  have e615 : n535 = G580 143 this 17 := gr_val g581 h575 s540 (by decide) rfl
  have g616 : Gr [93, 94, 95, 96, 97, 98, 114, 115, 116, 117, 118, 130, 144, 153, 154, 155, 156, 157] [(143, 0), (143, 1), (143, 3), (143, 4), (143, 5), (143, 6), (143, 7), (143, 8), (143, 9), (143, 10), (143, 11), (143, 12), (143, 13), (143, 14), (143, 17), (143, 18), (143, 19), (144, 1), (144, 2), (144, 3), (144, 4), (144, 5), (144, 6), (144, 7), (144, 8), (144, 9), (144, 10), (144, 11), (144, 12), (144, 13), (144, 14), (144, 15), (144, 16), (144, 17), (153, 0), (153, 1)] S G S579 G580 := gr_call g577 g581 rfl rfl
  have u617 : UqL [157, 156, 155, 154, 130] S579 := uq_gr u572 g581 rfl
  have u618 : No [] S579 := no_gr (no_sub u573 rfl) g581 rfl
  have u619 : EmL E [157, 156, 155, 154] S579 G580 := em_gr u576 g581 rfl
  refine r_putFN hX hP rfl rfl fq_X8_71_143 s583 (by decide) (Or.inr n578l) (fun h620 => ?_)
  refine r_ex hX hP 2 (pc' := 157) (st' := [(0, 20), (2, this)]) (lo' := [(0, (2, this))]) rfl ?_
  have u621 : EmL E [157, 156, 155, 154] S579 (up G580 143 this 18 n578) := (em_up u619 rfl)
  have g622 : Gr [93, 94, 95, 96, 97, 98, 114, 115, 116, 117, 118, 130, 144, 153, 154, 155, 156, 157] [(143, 0), (143, 1), (143, 3), (143, 4), (143, 5), (143, 6), (143, 7), (143, 8), (143, 9), (143, 10), (143, 11), (143, 12), (143, 13), (143, 14), (143, 17), (143, 18), (143, 19), (144, 1), (144, 2), (144, 3), (144, 4), (144, 5), (144, 6), (144, 7), (144, 8), (144, 9), (144, 10), (144, 11), (144, 12), (144, 13), (144, 14), (144, 15), (144, 16), (144, 17), (153, 0), (153, 1)] S G S579 (up G580 143 this 18 n578) := (gr_up g616 rfl)
  refine r_newarrA hX hP rfl (L := 93) (n := 20) al_93 (by decide) rfl rfl rfl (tbg sg1 124 rfl rfl) (by decide) (by omega) (by omega) (fun n623 S624 G625 n623z n623n n623l g626 n623v => ?_)
  have z627 : S n623 = 0 := gr_zero g622 n623z
  have s628 : S624 this = 143 := gr_lab g626 s583 (by decide)
  have s629 : S624 n6 = 114 := gr_lab g626 s584 (by decide)
  have s630 : S624 n21 = 114 := gr_lab g626 s585 (by decide)
  have s631 : S624 n38 = 95 := gr_lab g626 s586 (by decide)
  have s632 : S624 n57 = 95 := gr_lab g626 s587 (by decide)
  have s633 : S624 n78 = 115 := gr_lab g626 s588 (by decide)
  have s634 : S624 n101 = 117 := gr_lab g626 s589 (by decide)
  have s635 : S624 n126 = 130 := gr_lab g626 s590 (by decide)
  have s636 : S624 n202 = 154 := gr_lab g626 s591 (by decide)
  have s637 : S624 n266 = 155 := gr_lab g626 s592 (by decide)
  have s638 : S624 n336 = 156 := gr_lab g626 s593 (by decide)
  have s639 : S624 n412 = 157 := gr_lab g626 s594 (by decide)
  have s640 : S624 n494 = 118 := gr_lab g626 s595 (by decide)
  have s641 : S624 n535 = 95 := gr_lab g626 s596 (by decide)
  have s642 : S624 n578 = 95 := gr_lab g626 n578l (by decide)
  have e643 : 40000 = G625 143 this 0 := gr_val g626 e597 s583 (by decide) rfl
  have e644 : 1 = G625 143 this 1 := gr_val g626 e598 s583 (by decide) rfl
  have e645 : n6 = G625 143 this 3 := gr_val g626 e599 s583 (by decide) rfl
  have e646 : n21 = G625 143 this 4 := gr_val g626 e600 s583 (by decide) rfl
  have e647 : n38 = G625 143 this 5 := gr_val g626 e601 s583 (by decide) rfl
  have e648 : n57 = G625 143 this 6 := gr_val g626 e602 s583 (by decide) rfl
  have e649 : n78 = G625 143 this 7 := gr_val g626 e603 s583 (by decide) rfl
  have e650 : n101 = G625 143 this 8 := gr_val g626 e604 s583 (by decide) rfl
  have e651 : n126 = G625 143 this 9 := gr_val g626 e605 s583 (by decide) rfl
  have e652 : (Ad E 0) = G625 154 n202 1 := gr_val g626 e606 s591 (by decide) rfl
  have e653 : n202 = G625 143 this 10 := gr_val g626 e607 s583 (by decide) rfl
  have e654 : (Ad E 0) = G625 155 n266 1 := gr_val g626 e608 s592 (by decide) rfl
  have e655 : n266 = G625 143 this 11 := gr_val g626 e609 s583 (by decide) rfl
  have e656 : (Ad E 0) = G625 156 n336 1 := gr_val g626 e610 s593 (by decide) rfl
  have e657 : n336 = G625 143 this 12 := gr_val g626 e611 s583 (by decide) rfl
  have e658 : (Ad E 0) = G625 157 n412 1 := gr_val g626 e612 s594 (by decide) rfl
  have e659 : n412 = G625 143 this 13 := gr_val g626 e613 s583 (by decide) rfl
  have e660 : n494 = G625 143 this 14 := gr_val g626 e614 s583 (by decide) rfl
  have e661 : n535 = G625 143 this 17 := gr_val g626 e615 s583 (by decide) rfl
  have e662 : n578 = G625 143 this 18 := gr_val g626 h620 s583 (by decide) rfl
  have g663 : Gr [93, 94, 95, 96, 97, 98, 114, 115, 116, 117, 118, 130, 144, 153, 154, 155, 156, 157] [(143, 0), (143, 1), (143, 3), (143, 4), (143, 5), (143, 6), (143, 7), (143, 8), (143, 9), (143, 10), (143, 11), (143, 12), (143, 13), (143, 14), (143, 17), (143, 18), (143, 19), (144, 1), (144, 2), (144, 3), (144, 4), (144, 5), (144, 6), (144, 7), (144, 8), (144, 9), (144, 10), (144, 11), (144, 12), (144, 13), (144, 14), (144, 15), (144, 16), (144, 17), (153, 0), (153, 1)] S G S624 G625 := gr_call g622 g626 rfl rfl
  have u664 : UqL [157, 156, 155, 154, 130] S624 := uq_gr u617 g626 rfl
  have u665 : No [] S624 := no_gr (no_sub u618 rfl) g626 rfl
  have u666 : EmL E [157, 156, 155, 154] S624 G625 := em_gr u621 g626 rfl
  refine r_putFN hX hP rfl rfl fq_X8_74_143 s628 (by decide) (Or.inr n623l) (fun h667 => ?_)
  refine r_finA hX (L := 143) (ci := 9) (fs := fs_143) rfl s628 (by decide) (fun hr668 => ?_)
  have hf669 : Fnl E fs_129 143 S624 (up G625 143 this 19 n623) this := by
    intro j hj
    rcases (by have : j < 20 := hj; omega : j = 0 ∨ j = 1 ∨ j = 2 ∨ j = 3 ∨ j = 4 ∨ j = 5 ∨ j = 6 ∨ j = 7 ∨ j = 8 ∨ j = 9 ∨ j = 10 ∨ j = 11 ∨ j = 12 ∨ j = 13 ∨ j = 14 ∨ j = 15 ∨ j = 16 ∨ j = 17 ∨ j = 18 ∨ j = 19) with rfl | rfl | rfl | rfl | rfl | rfl | rfl | rfl | rfl | rfl | rfl | rfl | rfl | rfl | rfl | rfl | rfl | rfl | rfl | rfl
    · exact hr668 0 (by decide)
    · exact hr668 1 (by decide)
    · exact hr668 2 (by decide)
    · exact ⟨lab_of e645 s629, by decide⟩
    · exact ⟨lab_of e646 s630, by decide⟩
    · exact ⟨lab_of e647 s631, by decide⟩
    · exact ⟨lab_of e648 s632, by decide⟩
    · exact ⟨lab_of e649 s633, by decide⟩
    · exact ⟨lab_of e650 s634, by decide⟩
    · exact ⟨lab_of e651 s635, by decide⟩
    · exact ⟨lab_of e653 s636, by decide⟩
    · exact ⟨lab_of e655 s637, by decide⟩
    · exact ⟨lab_of e657 s638, by decide⟩
    · exact ⟨lab_of e659 s639, by decide⟩
    · exact ⟨lab_of e660 s640, by decide⟩
    · exact hr668 15 (by decide)
    · exact hr668 16 (by decide)
    · exact ⟨lab_of e661 s641, by decide⟩
    · exact ⟨lab_of e662 s642, by decide⟩
    · exact ⟨lab_of h667 n623l, by decide⟩
  have u670 : EmL E [157, 156, 155, 154] S624 (up G625 143 this 19 n623) := (em_up u666 rfl)
  have g671 : Gr [93, 94, 95, 96, 97, 98, 114, 115, 116, 117, 118, 130, 144, 153, 154, 155, 156, 157] [(143, 0), (143, 1), (143, 3), (143, 4), (143, 5), (143, 6), (143, 7), (143, 8), (143, 9), (143, 10), (143, 11), (143, 12), (143, 13), (143, 14), (143, 17), (143, 18), (143, 19), (144, 1), (144, 2), (144, 3), (144, 4), (144, 5), (144, 6), (144, 7), (144, 8), (144, 9), (144, 10), (144, 11), (144, 12), (144, 13), (144, 14), (144, 15), (144, 16), (144, 17), (153, 0), (153, 1)] S G S624 (up G625 143 this 19 n623) := (gr_up g663 rfl)
  exact r_retV hX hP rfl rfl (by omega) (by omega) ⟨g671, rfl, u664, u670, hf669⟩
set_option maxRecDepth 100000 in
set_option maxHeartbeats 4000000 in
theorem c_X11_init (E : En) (S : Sg) (G : Gh) (this : Int) (hS : S this = 142) (uno : No [128, 129, 130, 131, 132, 154, 155, 156, 157, 158, 159, 136, 138] S) : Calls E mX11_init [(2, this)] S G 7 129 3278 (fun r S' G' => Gr [93, 94, 95, 96, 97, 98, 99, 105, 106, 107, 108, 109, 110, 111, 112, 113, 114, 115, 116, 117, 118, 129, 130, 131, 132, 134, 143, 144, 145, 146, 148, 153, 154, 155, 156, 157, 158, 159] [(142, 4), (142, 5), (142, 6), (142, 7), (142, 8), (142, 9), (142, 10), (142, 11), (142, 12), (142, 13), (142, 14), (142, 15), (142, 16), (142, 17), (142, 18), (143, 0), (143, 1), (143, 3), (143, 4), (143, 5), (143, 6), (143, 7), (143, 8), (143, 9), (143, 10), (143, 11), (143, 12), (143, 13), (143, 14), (143, 17), (143, 18), (143, 19), (144, 1), (144, 2), (144, 3), (144, 4), (144, 5), (144, 6), (144, 7), (144, 8), (144, 9), (144, 10), (144, 11), (144, 12), (144, 13), (144, 14), (144, 15), (144, 16), (144, 17), (145, 1), (145, 2), (145, 3), (145, 12), (145, 15), (145, 16), (146, 5), (146, 6), (146, 7), (146, 8), (146, 9), (146, 10), (146, 11), (146, 13), (146, 14), (146, 15), (146, 16), (148, 1), (148, 3), (148, 4), (148, 5), (153, 0), (153, 1)] S G S' G' ∧ r = none ∧ UqL [132, 131, 159, 158, 129, 157, 156, 155, 154, 130] S' ∧ EmL E [159, 158, 157, 156, 155, 154] S' G' ∧ No [128, 136, 138] S' ∧ Fnl E fs_128 142 S' G' this) := by
  refine calls_by [(0, (2, this))] rfl rfl (Nat.le_of_ble_eq_true rfl) (fun X hX => ?_)
  have hP := hPX11_init
  refine r_ex hX hP 1 (pc' := 1) (st' := [(2, this)]) (lo' := [(0, (2, this))]) rfl ?_
  refine r_nn hX hS (by decide) (fun p1 => ?_)
  refine r_objI hX hP rfl (tbg sg1 32 rfl rfl) (tbg sg1 33 rfl rfl) (tbg sg1 34 rfl rfl) p1 (by omega) (Nat.le_of_ble_eq_true rfl) ?_
  refine r_ex hX hP 2 (pc' := 6) (st' := [(1, 1), (2, this)]) (lo' := [(0, (2, this))]) rfl ?_
  refine r_putLK hX hP rfl fp_X11_9_142 hS (by omega) (by omega) (fun h2 => ?_)
  refine r_ex hX hP 1 (pc' := 10) (st' := [(2, this)]) (lo' := [(0, (2, this))]) rfl ?_
  have u3 : EmL E [] S (up G 142 this 4 1) := (em_up (em_nil E S G) rfl)
  have g4 : Gr [93, 94, 95, 96, 97, 98, 99, 105, 106, 107, 108, 109, 110, 111, 112, 113, 114, 115, 116, 117, 118, 129, 130, 131, 132, 134, 143, 144, 145, 146, 148, 153, 154, 155, 156, 157, 158, 159] [(142, 4), (142, 5), (142, 6), (142, 7), (142, 8), (142, 9), (142, 10), (142, 11), (142, 12), (142, 13), (142, 14), (142, 15), (142, 16), (142, 17), (142, 18), (143, 0), (143, 1), (143, 3), (143, 4), (143, 5), (143, 6), (143, 7), (143, 8), (143, 9), (143, 10), (143, 11), (143, 12), (143, 13), (143, 14), (143, 17), (143, 18), (143, 19), (144, 1), (144, 2), (144, 3), (144, 4), (144, 5), (144, 6), (144, 7), (144, 8), (144, 9), (144, 10), (144, 11), (144, 12), (144, 13), (144, 14), (144, 15), (144, 16), (144, 17), (145, 1), (145, 2), (145, 3), (145, 12), (145, 15), (145, 16), (146, 5), (146, 6), (146, 7), (146, 8), (146, 9), (146, 10), (146, 11), (146, 13), (146, 14), (146, 15), (146, 16), (148, 1), (148, 3), (148, 4), (148, 5), (153, 0), (153, 1)] S G S (up G 142 this 4 1) := (gr_up (gr_refl [93, 94, 95, 96, 97, 98, 99, 105, 106, 107, 108, 109, 110, 111, 112, 113, 114, 115, 116, 117, 118, 129, 130, 131, 132, 134, 143, 144, 145, 146, 148, 153, 154, 155, 156, 157, 158, 159] [(142, 4), (142, 5), (142, 6), (142, 7), (142, 8), (142, 9), (142, 10), (142, 11), (142, 12), (142, 13), (142, 14), (142, 15), (142, 16), (142, 17), (142, 18), (143, 0), (143, 1), (143, 3), (143, 4), (143, 5), (143, 6), (143, 7), (143, 8), (143, 9), (143, 10), (143, 11), (143, 12), (143, 13), (143, 14), (143, 17), (143, 18), (143, 19), (144, 1), (144, 2), (144, 3), (144, 4), (144, 5), (144, 6), (144, 7), (144, 8), (144, 9), (144, 10), (144, 11), (144, 12), (144, 13), (144, 14), (144, 15), (144, 16), (144, 17), (145, 1), (145, 2), (145, 3), (145, 12), (145, 15), (145, 16), (146, 5), (146, 6), (146, 7), (146, 8), (146, 9), (146, 10), (146, 11), (146, 13), (146, 14), (146, 15), (146, 16), (148, 1), (148, 3), (148, 4), (148, 5), (153, 0), (153, 1)] S G) rfl)
  refine r_newA hX hP rfl (L := 143) (N := 20) nw_X11_13_143 (by omega) (by omega) (fun n5 S6 G7 n5z n5n n5l g8 n5v => ?_)
  have z9 : S n5 = 0 := gr_zero g4 n5z
  have s10 : S6 this = 142 := gr_lab g8 hS (by decide)
  have e11 : 1 = G7 142 this 4 := gr_val g8 h2 hS (by decide) rfl
  have g12 : Gr [93, 94, 95, 96, 97, 98, 99, 105, 106, 107, 108, 109, 110, 111, 112, 113, 114, 115, 116, 117, 118, 129, 130, 131, 132, 134, 143, 144, 145, 146, 148, 153, 154, 155, 156, 157, 158, 159] [(142, 4), (142, 5), (142, 6), (142, 7), (142, 8), (142, 9), (142, 10), (142, 11), (142, 12), (142, 13), (142, 14), (142, 15), (142, 16), (142, 17), (142, 18), (143, 0), (143, 1), (143, 3), (143, 4), (143, 5), (143, 6), (143, 7), (143, 8), (143, 9), (143, 10), (143, 11), (143, 12), (143, 13), (143, 14), (143, 17), (143, 18), (143, 19), (144, 1), (144, 2), (144, 3), (144, 4), (144, 5), (144, 6), (144, 7), (144, 8), (144, 9), (144, 10), (144, 11), (144, 12), (144, 13), (144, 14), (144, 15), (144, 16), (144, 17), (145, 1), (145, 2), (145, 3), (145, 12), (145, 15), (145, 16), (146, 5), (146, 6), (146, 7), (146, 8), (146, 9), (146, 10), (146, 11), (146, 13), (146, 14), (146, 15), (146, 16), (148, 1), (148, 3), (148, 4), (148, 5), (153, 0), (153, 1)] S G S6 G7 := gr_call g4 g8 rfl rfl
  have u13 : UqL [] S6 := uq_gr (uq_nil S) g8 rfl
  have u14 : No [128, 129, 130, 131, 132, 154, 155, 156, 157, 158, 159, 136, 138] S6 := no_gr (no_sub uno rfl) g8 rfl
  have u15 : EmL E [] S6 G7 := em_gr u3 g8 rfl
  refine r_ex hX hP 1 (pc' := 14) (st' := [(2, n5), (2, n5), (2, this)]) (lo' := [(0, (2, this))]) rfl ?_
  refine r_callIN gd hX hP rfl cn_X11_15 n5n (d' := 6) (mc' := 96) (ms' := 2554) (as' := []) (st := [(2, n5), (2, this)]) (by omega) (by omega) (by omega) rfl rfl (Nat.le_of_ble_eq_true rfl) (c_X8_init E S6 G7 n5  n5l (no_sub u14 rfl)) ?_
  rintro _ S16 G17 ⟨g18, rfl, q19, q20, hf21⟩
  have s22 : S16 this = 142 := gr_lab g18 s10 (by decide)
  have s23 : S16 n5 = 143 := gr_lab g18 n5l (by decide)
  have e24 : 1 = G17 142 this 4 := gr_val g18 e11 s10 (by decide) rfl
  have g25 : Gr [93, 94, 95, 96, 97, 98, 99, 105, 106, 107, 108, 109, 110, 111, 112, 113, 114, 115, 116, 117, 118, 129, 130, 131, 132, 134, 143, 144, 145, 146, 148, 153, 154, 155, 156, 157, 158, 159] [(142, 4), (142, 5), (142, 6), (142, 7), (142, 8), (142, 9), (142, 10), (142, 11), (142, 12), (142, 13), (142, 14), (142, 15), (142, 16), (142, 17), (142, 18), (143, 0), (143, 1), (143, 3), (143, 4), (143, 5), (143, 6), (143, 7), (143, 8), (143, 9), (143, 10), (143, 11), (143, 12), (143, 13), (143, 14), (143, 17), (143, 18), (143, 19), (144, 1), (144, 2), (144, 3), (144, 4), (144, 5), (144, 6), (144, 7), (144, 8), (144, 9), (144, 10), (144, 11), (144, 12), (144, 13), (144, 14), (144, 15), (144, 16), (144, 17), (145, 1), (145, 2), (145, 3), (145, 12), (145, 15), (145, 16), (146, 5), (146, 6), (146, 7), (146, 8), (146, 9), (146, 10), (146, 11), (146, 13), (146, 14), (146, 15), (146, 16), (148, 1), (148, 3), (148, 4), (148, 5), (153, 0), (153, 1)] S G S16 G17 := gr_call g12 g18 rfl rfl
  have u26 : UqL [] S16 := uq_gr u13 g18 rfl
  have u27 : No [128, 129, 131, 132, 158, 159, 136, 138] S16 := no_gr (no_sub u14 rfl) g18 rfl
  have u28 : EmL E [] S16 G17 := em_gr u15 g18 rfl
  have u29 : UqL [157, 156, 155, 154, 130] S16 := uq_app q19 u26
  have u30 : EmL E [157, 156, 155, 154] S16 G17 := em_app q20 u28
  refine r_finA hX (L := 143) (ci := 9) (fs := fs_143) rfl s23 (by decide) (fun hr31 => ?_)
  refine r_relabF hX (L := 143) (L' := 129) (ci := 9) (fs := fs_143) (fs' := fs_129) rfl rfl rfl (by decide) (by decide) nf_143 (by decide) s23 hf21 (fun S34 G35 r33 => ?_)
  have s37 : S34 this = 142 := r33.lab s23 s22 (by decide)
  have e38 : 1 = G35 142 this 4 := rs_val r33 s23 e24 s22 (by decide)
  have g39 : Gr [93, 94, 95, 96, 97, 98, 99, 105, 106, 107, 108, 109, 110, 111, 112, 113, 114, 115, 116, 117, 118, 129, 130, 131, 132, 134, 143, 144, 145, 146, 148, 153, 154, 155, 156, 157, 158, 159] [(142, 4), (142, 5), (142, 6), (142, 7), (142, 8), (142, 9), (142, 10), (142, 11), (142, 12), (142, 13), (142, 14), (142, 15), (142, 16), (142, 17), (142, 18), (143, 0), (143, 1), (143, 3), (143, 4), (143, 5), (143, 6), (143, 7), (143, 8), (143, 9), (143, 10), (143, 11), (143, 12), (143, 13), (143, 14), (143, 17), (143, 18), (143, 19), (144, 1), (144, 2), (144, 3), (144, 4), (144, 5), (144, 6), (144, 7), (144, 8), (144, 9), (144, 10), (144, 11), (144, 12), (144, 13), (144, 14), (144, 15), (144, 16), (144, 17), (145, 1), (145, 2), (145, 3), (145, 12), (145, 15), (145, 16), (146, 5), (146, 6), (146, 7), (146, 8), (146, 9), (146, 10), (146, 11), (146, 13), (146, 14), (146, 15), (146, 16), (148, 1), (148, 3), (148, 4), (148, 5), (153, 0), (153, 1)] S G S34 G35 := gr_rs g25 r33 z9 rfl
  have u40 : UqL [129, 157, 156, 155, 154, 130] S34 := uq_rs u29 (no_sub u27 rfl) r33 rfl
  have u41 : EmL E [157, 156, 155, 154] S34 G35 := em_rsN u30 r33 rfl
  have u42 : No [128, 131, 132, 158, 159, 136, 138] S34 := no_rs u27 r33 rfl
  refine r_putFN hX hP rfl rfl fq_X11_16_142 s37 (by decide) (Or.inr r33.1) (fun h43 => ?_)
  refine r_ex hX hP 2 (pc' := 22) (st' := [(2, this), (2, this)]) (lo' := [(0, (2, this))]) rfl ?_
  refine r_getKN hX hP rfl fl_X11_16_142 s37 (x := n5) h43 ?_
  refine r_getR hX hP rfl fl_X11_20_129 r33.1 (fun af44 af44e af44s => ?_)
  refine r_putFN hX hP rfl rfl fq_X11_24_142 s37 (by decide) (Or.inr af44s) (fun h45 => ?_)
  refine r_ex hX hP 2 (pc' := 33) (st' := [(2, this), (2, this)]) (lo' := [(0, (2, this))]) rfl ?_
  refine r_getKN hX hP rfl fl_X11_16_142 s37 (x := n5) h43 ?_
  refine r_getR hX hP rfl fl_X11_25_129 r33.1 (fun if46 if46e if46s => ?_)
  refine r_putFN hX hP rfl rfl fq_X11_29_142 s37 (by decide) (Or.inr if46s) (fun h47 => ?_)
  refine r_ex hX hP 2 (pc' := 44) (st' := [(2, this), (2, this)]) (lo' := [(0, (2, this))]) rfl ?_
  refine r_getKN hX hP rfl fl_X11_16_142 s37 (x := n5) h43 ?_
  refine r_getR hX hP rfl fl_X11_30_129 r33.1 (fun tf48 tf48e tf48s => ?_)
  refine r_putFN hX hP rfl rfl fq_X11_33_142 s37 (by decide) (Or.inr tf48s) (fun h49 => ?_)
  refine r_ex hX hP 2 (pc' := 55) (st' := [(2, this), (2, this)]) (lo' := [(0, (2, this))]) rfl ?_
  refine r_getKN hX hP rfl fl_X11_16_142 s37 (x := n5) h43 ?_
  refine r_getR hX hP rfl fl_X11_34_129 r33.1 (fun ef50 ef50e ef50s => ?_)
  refine r_putFN hX hP rfl rfl fq_X11_37_142 s37 (by decide) (Or.inr ef50s) (fun h51 => ?_)
  refine r_ex hX hP 2 (pc' := 66) (st' := [(2, this), (2, this)]) (lo' := [(0, (2, this))]) rfl ?_
  refine r_getKN hX hP rfl fl_X11_16_142 s37 (x := n5) h43 ?_
  refine r_getR hX hP rfl fl_X11_38_129 r33.1 (fun pf52 pf52e pf52s => ?_)
  refine r_putFN hX hP rfl rfl fq_X11_41_142 s37 (by decide) (Or.inr pf52s) (fun h53 => ?_)
  refine r_ex hX hP 1 (pc' := 76) (st' := [(2, this)]) (lo' := [(0, (2, this))]) rfl ?_
  have u54 : EmL E [157, 156, 155, 154] S34 (up (up (up (up (up (up G35 142 this 17 n5) 142 this 5 af44) 142 this 6 if46) 142 this 7 tf48) 142 this 8 ef50) 142 this 9 pf52) := (em_up (em_up (em_up (em_up (em_up (em_up u41 rfl) rfl) rfl) rfl) rfl) rfl)
  have g55 : Gr [93, 94, 95, 96, 97, 98, 99, 105, 106, 107, 108, 109, 110, 111, 112, 113, 114, 115, 116, 117, 118, 129, 130, 131, 132, 134, 143, 144, 145, 146, 148, 153, 154, 155, 156, 157, 158, 159] [(142, 4), (142, 5), (142, 6), (142, 7), (142, 8), (142, 9), (142, 10), (142, 11), (142, 12), (142, 13), (142, 14), (142, 15), (142, 16), (142, 17), (142, 18), (143, 0), (143, 1), (143, 3), (143, 4), (143, 5), (143, 6), (143, 7), (143, 8), (143, 9), (143, 10), (143, 11), (143, 12), (143, 13), (143, 14), (143, 17), (143, 18), (143, 19), (144, 1), (144, 2), (144, 3), (144, 4), (144, 5), (144, 6), (144, 7), (144, 8), (144, 9), (144, 10), (144, 11), (144, 12), (144, 13), (144, 14), (144, 15), (144, 16), (144, 17), (145, 1), (145, 2), (145, 3), (145, 12), (145, 15), (145, 16), (146, 5), (146, 6), (146, 7), (146, 8), (146, 9), (146, 10), (146, 11), (146, 13), (146, 14), (146, 15), (146, 16), (148, 1), (148, 3), (148, 4), (148, 5), (153, 0), (153, 1)] S G S34 (up (up (up (up (up (up G35 142 this 17 n5) 142 this 5 af44) 142 this 6 if46) 142 this 7 tf48) 142 this 8 ef50) 142 this 9 pf52) := (gr_up (gr_up (gr_up (gr_up (gr_up (gr_up g39 rfl) rfl) rfl) rfl) rfl) rfl)
  refine r_newA hX hP rfl (L := 153) (N := 3) nw_X11_42_153 (by omega) (by omega) (fun n56 S57 G58 n56z n56n n56l g59 n56v => ?_)
  have z60 : S n56 = 0 := gr_zero g55 n56z
  have s61 : S57 this = 142 := gr_lab g59 s37 (by decide)
  have s62 : S57 n5 = 129 := gr_lab g59 r33.1 (by decide)
  have s63 : S57 af44 = 130 := gr_lab g59 af44s (by decide)
  have s64 : S57 if46 = 154 := gr_lab g59 if46s (by decide)
  have s65 : S57 tf48 = 155 := gr_lab g59 tf48s (by decide)
  have s66 : S57 ef50 = 156 := gr_lab g59 ef50s (by decide)
  have s67 : S57 pf52 = 157 := gr_lab g59 pf52s (by decide)
  have e68 : 1 = G58 142 this 4 := gr_val g59 e38 s37 (by decide) rfl
  have e69 : n5 = G58 142 this 17 := gr_val g59 h43 s37 (by decide) rfl
  have e70 : af44 = G58 129 n5 9 := gr_val g59 af44e r33.1 (by decide) rfl
  have e71 : af44 = G58 142 this 5 := gr_val g59 h45 s37 (by decide) rfl
  have e72 : if46 = G58 129 n5 10 := gr_val g59 if46e r33.1 (by decide) rfl
  have e73 : if46 = G58 142 this 6 := gr_val g59 h47 s37 (by decide) rfl
  have e74 : tf48 = G58 129 n5 11 := gr_val g59 tf48e r33.1 (by decide) rfl
  have e75 : tf48 = G58 142 this 7 := gr_val g59 h49 s37 (by decide) rfl
  have e76 : ef50 = G58 129 n5 12 := gr_val g59 ef50e r33.1 (by decide) rfl
  have e77 : ef50 = G58 142 this 8 := gr_val g59 h51 s37 (by decide) rfl
  have e78 : pf52 = G58 129 n5 13 := gr_val g59 pf52e r33.1 (by decide) rfl
  have e79 : pf52 = G58 142 this 9 := gr_val g59 h53 s37 (by decide) rfl
  have g80 : Gr [93, 94, 95, 96, 97, 98, 99, 105, 106, 107, 108, 109, 110, 111, 112, 113, 114, 115, 116, 117, 118, 129, 130, 131, 132, 134, 143, 144, 145, 146, 148, 153, 154, 155, 156, 157, 158, 159] [(142, 4), (142, 5), (142, 6), (142, 7), (142, 8), (142, 9), (142, 10), (142, 11), (142, 12), (142, 13), (142, 14), (142, 15), (142, 16), (142, 17), (142, 18), (143, 0), (143, 1), (143, 3), (143, 4), (143, 5), (143, 6), (143, 7), (143, 8), (143, 9), (143, 10), (143, 11), (143, 12), (143, 13), (143, 14), (143, 17), (143, 18), (143, 19), (144, 1), (144, 2), (144, 3), (144, 4), (144, 5), (144, 6), (144, 7), (144, 8), (144, 9), (144, 10), (144, 11), (144, 12), (144, 13), (144, 14), (144, 15), (144, 16), (144, 17), (145, 1), (145, 2), (145, 3), (145, 12), (145, 15), (145, 16), (146, 5), (146, 6), (146, 7), (146, 8), (146, 9), (146, 10), (146, 11), (146, 13), (146, 14), (146, 15), (146, 16), (148, 1), (148, 3), (148, 4), (148, 5), (153, 0), (153, 1)] S G S57 G58 := gr_call g55 g59 rfl rfl
  have u81 : UqL [129, 157, 156, 155, 154, 130] S57 := uq_gr u40 g59 rfl
  have u82 : No [128, 131, 132, 158, 159, 136, 138] S57 := no_gr (no_sub u42 rfl) g59 rfl
  have u83 : EmL E [157, 156, 155, 154] S57 G58 := em_gr u54 g59 rfl
  refine r_ex hX hP 1 (pc' := 80) (st' := [(2, n56), (2, n56), (2, this)]) (lo' := [(0, (2, this))]) rfl ?_
  refine r_callI gd hX hP rfl ci_X11_44 n56n (d' := 5) (mc' := 0) (ms' := 0) (as' := []) (st := [(2, n56), (2, this)]) (by omega) (by omega) (by omega) rfl rfl (Nat.le_of_ble_eq_true rfl) (c_Jx4a65c_init_da8c8 E S57 G58 n56  n56l) ?_
  rintro _ _ _ ⟨rfl, ⟨G84, rfl⟩, rfl, elh85, elh85e, f86⟩
  have e88 : Ad E 0 = (hw [(153, 0), (153, 1)] G58 G84) 153 n56 1 := by rw [← f86]; exact elh85e
  have u89 : EmL E [157, 156, 155, 154] S57 (hw [(153, 0), (153, 1)] G58 G84) := (em_hw u83 rfl)
  have g90 : Gr [93, 94, 95, 96, 97, 98, 99, 105, 106, 107, 108, 109, 110, 111, 112, 113, 114, 115, 116, 117, 118, 129, 130, 131, 132, 134, 143, 144, 145, 146, 148, 153, 154, 155, 156, 157, 158, 159] [(142, 4), (142, 5), (142, 6), (142, 7), (142, 8), (142, 9), (142, 10), (142, 11), (142, 12), (142, 13), (142, 14), (142, 15), (142, 16), (142, 17), (142, 18), (143, 0), (143, 1), (143, 3), (143, 4), (143, 5), (143, 6), (143, 7), (143, 8), (143, 9), (143, 10), (143, 11), (143, 12), (143, 13), (143, 14), (143, 17), (143, 18), (143, 19), (144, 1), (144, 2), (144, 3), (144, 4), (144, 5), (144, 6), (144, 7), (144, 8), (144, 9), (144, 10), (144, 11), (144, 12), (144, 13), (144, 14), (144, 15), (144, 16), (144, 17), (145, 1), (145, 2), (145, 3), (145, 12), (145, 15), (145, 16), (146, 5), (146, 6), (146, 7), (146, 8), (146, 9), (146, 10), (146, 11), (146, 13), (146, 14), (146, 15), (146, 16), (148, 1), (148, 3), (148, 4), (148, 5), (153, 0), (153, 1)] S G S57 (hw [(153, 0), (153, 1)] G58 G84) := (gr_hw g80 rfl)
  refine r_finA hX (L := 153) (ci := 0) (fs := fs_153) rfl n56l (by decide) (fun hr91 => ?_)
  have hf92 : Fnl E fs_158 153 S57 (hw [(153, 0), (153, 1)] G58 G84) n56 := by
    intro j hj
    rcases (by have : j < 3 := hj; omega : j = 0 ∨ j = 1 ∨ j = 2) with rfl | rfl | rfl
    · exact hr91 0 (by decide)
    · exact Or.inl e88.symm
    · have e : (0 : Int) ≤ (hw [(153, 0), (153, 1)] G58 G84) 153 n56 2 ∧ (hw [(153, 0), (153, 1)] G58 G84) 153 n56 2 ≤ 0 := hr91 2 (by decide); show (0 : Int) ≤ (hw [(153, 0), (153, 1)] G58 G84) 153 n56 2 ∧ (hw [(153, 0), (153, 1)] G58 G84) 153 n56 2 ≤ 10; omega
  refine r_relabF hX (L := 153) (L' := 158) (ci := 0) (fs := fs_153) (fs' := fs_158) rfl rfl rfl (by decide) (by decide) nf_153 (by decide) n56l hf92 (fun S94 G95 r93 => ?_)
  have s97 : S94 this = 142 := r93.lab n56l s61 (by decide)
  have s98 : S94 n5 = 129 := r93.lab n56l s62 (by decide)
  have s99 : S94 af44 = 130 := r93.lab n56l s63 (by decide)
  have s100 : S94 if46 = 154 := r93.lab n56l s64 (by decide)
  have s101 : S94 tf48 = 155 := r93.lab n56l s65 (by decide)
  have s102 : S94 ef50 = 156 := r93.lab n56l s66 (by decide)
  have s103 : S94 pf52 = 157 := r93.lab n56l s67 (by decide)
  have e104 : 1 = G95 142 this 4 := rs_val r93 n56l e68 s61 (by decide)
  have e105 : n5 = G95 142 this 17 := rs_val r93 n56l e69 s61 (by decide)
  have e106 : af44 = G95 129 n5 9 := rs_val r93 n56l e70 s62 (by decide)
  have e107 : af44 = G95 142 this 5 := rs_val r93 n56l e71 s61 (by decide)
  have e108 : if46 = G95 129 n5 10 := rs_val r93 n56l e72 s62 (by decide)
  have e109 : if46 = G95 142 this 6 := rs_val r93 n56l e73 s61 (by decide)
  have e110 : tf48 = G95 129 n5 11 := rs_val r93 n56l e74 s62 (by decide)
  have e111 : tf48 = G95 142 this 7 := rs_val r93 n56l e75 s61 (by decide)
  have e112 : ef50 = G95 129 n5 12 := rs_val r93 n56l e76 s62 (by decide)
  have e113 : ef50 = G95 142 this 8 := rs_val r93 n56l e77 s61 (by decide)
  have e114 : pf52 = G95 129 n5 13 := rs_val r93 n56l e78 s62 (by decide)
  have e115 : pf52 = G95 142 this 9 := rs_val r93 n56l e79 s61 (by decide)
  have e116 : (Ad E 0) = G95 158 n56 1 := e88.trans (r93.2.2.1 1).symm
  have g117 : Gr [93, 94, 95, 96, 97, 98, 99, 105, 106, 107, 108, 109, 110, 111, 112, 113, 114, 115, 116, 117, 118, 129, 130, 131, 132, 134, 143, 144, 145, 146, 148, 153, 154, 155, 156, 157, 158, 159] [(142, 4), (142, 5), (142, 6), (142, 7), (142, 8), (142, 9), (142, 10), (142, 11), (142, 12), (142, 13), (142, 14), (142, 15), (142, 16), (142, 17), (142, 18), (143, 0), (143, 1), (143, 3), (143, 4), (143, 5), (143, 6), (143, 7), (143, 8), (143, 9), (143, 10), (143, 11), (143, 12), (143, 13), (143, 14), (143, 17), (143, 18), (143, 19), (144, 1), (144, 2), (144, 3), (144, 4), (144, 5), (144, 6), (144, 7), (144, 8), (144, 9), (144, 10), (144, 11), (144, 12), (144, 13), (144, 14), (144, 15), (144, 16), (144, 17), (145, 1), (145, 2), (145, 3), (145, 12), (145, 15), (145, 16), (146, 5), (146, 6), (146, 7), (146, 8), (146, 9), (146, 10), (146, 11), (146, 13), (146, 14), (146, 15), (146, 16), (148, 1), (148, 3), (148, 4), (148, 5), (153, 0), (153, 1)] S G S94 G95 := gr_rs g90 r93 z60 rfl
  have u118 : UqL [158, 129, 157, 156, 155, 154, 130] S94 := uq_rs u81 (no_sub u82 rfl) r93 rfl
  have u119 : EmL E [158, 157, 156, 155, 154] S94 G95 := em_rs u89 (no_sub u82 rfl) r93 e88 (by have e : (0 : Int) ≤ (hw [(153, 0), (153, 1)] G58 G84) 153 n56 2 ∧ (hw [(153, 0), (153, 1)] G58 G84) 153 n56 2 ≤ 0 := hr91 2 (by decide); omega) rfl
  have u120 : No [128, 131, 132, 159, 136, 138] S94 := no_rs u82 r93 rfl
  refine r_putFN hX hP rfl rfl fq_X11_45_142 s97 (by decide) (Or.inr r93.1) (fun h121 => ?_)
  refine r_ex hX hP 1 (pc' := 87) (st' := [(2, this)]) (lo' := [(0, (2, this))]) rfl ?_
  have u122 : EmL E [158, 157, 156, 155, 154] S94 (up G95 142 this 10 n56) := (em_up u119 rfl)
  have g123 : Gr [93, 94, 95, 96, 97, 98, 99, 105, 106, 107, 108, 109, 110, 111, 112, 113, 114, 115, 116, 117, 118, 129, 130, 131, 132, 134, 143, 144, 145, 146, 148, 153, 154, 155, 156, 157, 158, 159] [(142, 4), (142, 5), (142, 6), (142, 7), (142, 8), (142, 9), (142, 10), (142, 11), (142, 12), (142, 13), (142, 14), (142, 15), (142, 16), (142, 17), (142, 18), (143, 0), (143, 1), (143, 3), (143, 4), (143, 5), (143, 6), (143, 7), (143, 8), (143, 9), (143, 10), (143, 11), (143, 12), (143, 13), (143, 14), (143, 17), (143, 18), (143, 19), (144, 1), (144, 2), (144, 3), (144, 4), (144, 5), (144, 6), (144, 7), (144, 8), (144, 9), (144, 10), (144, 11), (144, 12), (144, 13), (144, 14), (144, 15), (144, 16), (144, 17), (145, 1), (145, 2), (145, 3), (145, 12), (145, 15), (145, 16), (146, 5), (146, 6), (146, 7), (146, 8), (146, 9), (146, 10), (146, 11), (146, 13), (146, 14), (146, 15), (146, 16), (148, 1), (148, 3), (148, 4), (148, 5), (153, 0), (153, 1)] S G S94 (up G95 142 this 10 n56) := (gr_up g117 rfl)
  refine r_newA hX hP rfl (L := 153) (N := 3) nw_X11_42_153 (by omega) (by omega) (fun n124 S125 G126 n124z n124n n124l g127 n124v => ?_)
  have z128 : S n124 = 0 := gr_zero g123 n124z
  have s129 : S125 this = 142 := gr_lab g127 s97 (by decide)
  have s130 : S125 n5 = 129 := gr_lab g127 s98 (by decide)
  have s131 : S125 af44 = 130 := gr_lab g127 s99 (by decide)
  have s132 : S125 if46 = 154 := gr_lab g127 s100 (by decide)
  have s133 : S125 tf48 = 155 := gr_lab g127 s101 (by decide)
  have s134 : S125 ef50 = 156 := gr_lab g127 s102 (by decide)
  have s135 : S125 pf52 = 157 := gr_lab g127 s103 (by decide)
  have s136 : S125 n56 = 158 := gr_lab g127 r93.1 (by decide)
  have e137 : 1 = G126 142 this 4 := gr_val g127 e104 s97 (by decide) rfl
  have e138 : n5 = G126 142 this 17 := gr_val g127 e105 s97 (by decide) rfl
  have e139 : af44 = G126 129 n5 9 := gr_val g127 e106 s98 (by decide) rfl
  have e140 : af44 = G126 142 this 5 := gr_val g127 e107 s97 (by decide) rfl
  have e141 : if46 = G126 129 n5 10 := gr_val g127 e108 s98 (by decide) rfl
  have e142 : if46 = G126 142 this 6 := gr_val g127 e109 s97 (by decide) rfl
  have e143 : tf48 = G126 129 n5 11 := gr_val g127 e110 s98 (by decide) rfl
  have e144 : tf48 = G126 142 this 7 := gr_val g127 e111 s97 (by decide) rfl
  have e145 : ef50 = G126 129 n5 12 := gr_val g127 e112 s98 (by decide) rfl
  have e146 : ef50 = G126 142 this 8 := gr_val g127 e113 s97 (by decide) rfl
  have e147 : pf52 = G126 129 n5 13 := gr_val g127 e114 s98 (by decide) rfl
  have e148 : pf52 = G126 142 this 9 := gr_val g127 e115 s97 (by decide) rfl
  have e149 : (Ad E 0) = G126 158 n56 1 := gr_val g127 e116 r93.1 (by decide) rfl
  have e150 : n56 = G126 142 this 10 := gr_val g127 h121 s97 (by decide) rfl
  have g151 : Gr [93, 94, 95, 96, 97, 98, 99, 105, 106, 107, 108, 109, 110, 111, 112, 113, 114, 115, 116, 117, 118, 129, 130, 131, 132, 134, 143, 144, 145, 146, 148, 153, 154, 155, 156, 157, 158, 159] [(142, 4), (142, 5), (142, 6), (142, 7), (142, 8), (142, 9), (142, 10), (142, 11), (142, 12), (142, 13), (142, 14), (142, 15), (142, 16), (142, 17), (142, 18), (143, 0), (143, 1), (143, 3), (143, 4), (143, 5), (143, 6), (143, 7), (143, 8), (143, 9), (143, 10), (143, 11), (143, 12), (143, 13), (143, 14), (143, 17), (143, 18), (143, 19), (144, 1), (144, 2), (144, 3), (144, 4), (144, 5), (144, 6), (144, 7), (144, 8), (144, 9), (144, 10), (144, 11), (144, 12), (144, 13), (144, 14), (144, 15), (144, 16), (144, 17), (145, 1), (145, 2), (145, 3), (145, 12), (145, 15), (145, 16), (146, 5), (146, 6), (146, 7), (146, 8), (146, 9), (146, 10), (146, 11), (146, 13), (146, 14), (146, 15), (146, 16), (148, 1), (148, 3), (148, 4), (148, 5), (153, 0), (153, 1)] S G S125 G126 := gr_call g123 g127 rfl rfl
  have u152 : UqL [158, 129, 157, 156, 155, 154, 130] S125 := uq_gr u118 g127 rfl
  have u153 : No [128, 131, 132, 159, 136, 138] S125 := no_gr (no_sub u120 rfl) g127 rfl
  have u154 : EmL E [158, 157, 156, 155, 154] S125 G126 := em_gr u122 g127 rfl
  refine r_ex hX hP 1 (pc' := 91) (st' := [(2, n124), (2, n124), (2, this)]) (lo' := [(0, (2, this))]) rfl ?_
  refine r_callI gd hX hP rfl ci_X11_44 n124n (d' := 5) (mc' := 0) (ms' := 0) (as' := []) (st := [(2, n124), (2, this)]) (by omega) (by omega) (by omega) rfl rfl (Nat.le_of_ble_eq_true rfl) (c_Jx4a65c_init_da8c8 E S125 G126 n124  n124l) ?_
  rintro _ _ _ ⟨rfl, ⟨G155, rfl⟩, rfl, elh156, elh156e, f157⟩
  have e159 : Ad E 0 = (hw [(153, 0), (153, 1)] G126 G155) 153 n124 1 := by rw [← f157]; exact elh156e
  have u160 : EmL E [158, 157, 156, 155, 154] S125 (hw [(153, 0), (153, 1)] G126 G155) := (em_hw u154 rfl)
  have g161 : Gr [93, 94, 95, 96, 97, 98, 99, 105, 106, 107, 108, 109, 110, 111, 112, 113, 114, 115, 116, 117, 118, 129, 130, 131, 132, 134, 143, 144, 145, 146, 148, 153, 154, 155, 156, 157, 158, 159] [(142, 4), (142, 5), (142, 6), (142, 7), (142, 8), (142, 9), (142, 10), (142, 11), (142, 12), (142, 13), (142, 14), (142, 15), (142, 16), (142, 17), (142, 18), (143, 0), (143, 1), (143, 3), (143, 4), (143, 5), (143, 6), (143, 7), (143, 8), (143, 9), (143, 10), (143, 11), (143, 12), (143, 13), (143, 14), (143, 17), (143, 18), (143, 19), (144, 1), (144, 2), (144, 3), (144, 4), (144, 5), (144, 6), (144, 7), (144, 8), (144, 9), (144, 10), (144, 11), (144, 12), (144, 13), (144, 14), (144, 15), (144, 16), (144, 17), (145, 1), (145, 2), (145, 3), (145, 12), (145, 15), (145, 16), (146, 5), (146, 6), (146, 7), (146, 8), (146, 9), (146, 10), (146, 11), (146, 13), (146, 14), (146, 15), (146, 16), (148, 1), (148, 3), (148, 4), (148, 5), (153, 0), (153, 1)] S G S125 (hw [(153, 0), (153, 1)] G126 G155) := (gr_hw g151 rfl)
  refine r_finA hX (L := 153) (ci := 0) (fs := fs_153) rfl n124l (by decide) (fun hr162 => ?_)
  have hf163 : Fnl E fs_159 153 S125 (hw [(153, 0), (153, 1)] G126 G155) n124 := by
    intro j hj
    rcases (by have : j < 3 := hj; omega : j = 0 ∨ j = 1 ∨ j = 2) with rfl | rfl | rfl
    · exact hr162 0 (by decide)
    · exact Or.inl e159.symm
    · have e : (0 : Int) ≤ (hw [(153, 0), (153, 1)] G126 G155) 153 n124 2 ∧ (hw [(153, 0), (153, 1)] G126 G155) 153 n124 2 ≤ 0 := hr162 2 (by decide); show (0 : Int) ≤ (hw [(153, 0), (153, 1)] G126 G155) 153 n124 2 ∧ (hw [(153, 0), (153, 1)] G126 G155) 153 n124 2 ≤ 60; omega
  refine r_relabF hX (L := 153) (L' := 159) (ci := 0) (fs := fs_153) (fs' := fs_159) rfl rfl rfl (by decide) (by decide) nf_153 (by decide) n124l hf163 (fun S165 G166 r164 => ?_)
  have s168 : S165 this = 142 := r164.lab n124l s129 (by decide)
  have s169 : S165 n5 = 129 := r164.lab n124l s130 (by decide)
  have s170 : S165 af44 = 130 := r164.lab n124l s131 (by decide)
  have s171 : S165 if46 = 154 := r164.lab n124l s132 (by decide)
  have s172 : S165 tf48 = 155 := r164.lab n124l s133 (by decide)
  have s173 : S165 ef50 = 156 := r164.lab n124l s134 (by decide)
  have s174 : S165 pf52 = 157 := r164.lab n124l s135 (by decide)
  have s175 : S165 n56 = 158 := r164.lab n124l s136 (by decide)
  have e176 : 1 = G166 142 this 4 := rs_val r164 n124l e137 s129 (by decide)
  have e177 : n5 = G166 142 this 17 := rs_val r164 n124l e138 s129 (by decide)
  have e178 : af44 = G166 129 n5 9 := rs_val r164 n124l e139 s130 (by decide)
  have e179 : af44 = G166 142 this 5 := rs_val r164 n124l e140 s129 (by decide)
  have e180 : if46 = G166 129 n5 10 := rs_val r164 n124l e141 s130 (by decide)
  have e181 : if46 = G166 142 this 6 := rs_val r164 n124l e142 s129 (by decide)
  have e182 : tf48 = G166 129 n5 11 := rs_val r164 n124l e143 s130 (by decide)
  have e183 : tf48 = G166 142 this 7 := rs_val r164 n124l e144 s129 (by decide)
  have e184 : ef50 = G166 129 n5 12 := rs_val r164 n124l e145 s130 (by decide)
  have e185 : ef50 = G166 142 this 8 := rs_val r164 n124l e146 s129 (by decide)
  have e186 : pf52 = G166 129 n5 13 := rs_val r164 n124l e147 s130 (by decide)
  have e187 : pf52 = G166 142 this 9 := rs_val r164 n124l e148 s129 (by decide)
  have e188 : (Ad E 0) = G166 158 n56 1 := rs_val r164 n124l e149 s136 (by decide)
  have e189 : n56 = G166 142 this 10 := rs_val r164 n124l e150 s129 (by decide)
  have e190 : (Ad E 0) = G166 159 n124 1 := e159.trans (r164.2.2.1 1).symm
  have g191 : Gr [93, 94, 95, 96, 97, 98, 99, 105, 106, 107, 108, 109, 110, 111, 112, 113, 114, 115, 116, 117, 118, 129, 130, 131, 132, 134, 143, 144, 145, 146, 148, 153, 154, 155, 156, 157, 158, 159] [(142, 4), (142, 5), (142, 6), (142, 7), (142, 8), (142, 9), (142, 10), (142, 11), (142, 12), (142, 13), (142, 14), (142, 15), (142, 16), (142, 17), (142, 18), (143, 0), (143, 1), (143, 3), (143, 4), (143, 5), (143, 6), (143, 7), (143, 8), (143, 9), (143, 10), (143, 11), (143, 12), (143, 13), (143, 14), (143, 17), (143, 18), (143, 19), (144, 1), (144, 2), (144, 3), (144, 4), (144, 5), (144, 6), (144, 7), (144, 8), (144, 9), (144, 10), (144, 11), (144, 12), (144, 13), (144, 14), (144, 15), (144, 16), (144, 17), (145, 1), (145, 2), (145, 3), (145, 12), (145, 15), (145, 16), (146, 5), (146, 6), (146, 7), (146, 8), (146, 9), (146, 10), (146, 11), (146, 13), (146, 14), (146, 15), (146, 16), (148, 1), (148, 3), (148, 4), (148, 5), (153, 0), (153, 1)] S G S165 G166 := gr_rs g161 r164 z128 rfl
  have u192 : UqL [159, 158, 129, 157, 156, 155, 154, 130] S165 := uq_rs u152 (no_sub u153 rfl) r164 rfl
  have u193 : EmL E [159, 158, 157, 156, 155, 154] S165 G166 := em_rs u160 (no_sub u153 rfl) r164 e159 (by have e : (0 : Int) ≤ (hw [(153, 0), (153, 1)] G126 G155) 153 n124 2 ∧ (hw [(153, 0), (153, 1)] G126 G155) 153 n124 2 ≤ 0 := hr162 2 (by decide); omega) rfl
  have u194 : No [128, 131, 132, 136, 138] S165 := no_rs u153 r164 rfl
  refine r_putFN hX hP rfl rfl fq_X11_48_142 s168 (by decide) (Or.inr r164.1) (fun h195 => ?_)
  refine r_ex hX hP 2 (pc' := 100) (st' := [(0, 20), (2, this)]) (lo' := [(0, (2, this))]) rfl ?_
  have u196 : EmL E [159, 158, 157, 156, 155, 154] S165 (up G166 142 this 11 n124) := (em_up u193 rfl)
  have g197 : Gr [93, 94, 95, 96, 97, 98, 99, 105, 106, 107, 108, 109, 110, 111, 112, 113, 114, 115, 116, 117, 118, 129, 130, 131, 132, 134, 143, 144, 145, 146, 148, 153, 154, 155, 156, 157, 158, 159] [(142, 4), (142, 5), (142, 6), (142, 7), (142, 8), (142, 9), (142, 10), (142, 11), (142, 12), (142, 13), (142, 14), (142, 15), (142, 16), (142, 17), (142, 18), (143, 0), (143, 1), (143, 3), (143, 4), (143, 5), (143, 6), (143, 7), (143, 8), (143, 9), (143, 10), (143, 11), (143, 12), (143, 13), (143, 14), (143, 17), (143, 18), (143, 19), (144, 1), (144, 2), (144, 3), (144, 4), (144, 5), (144, 6), (144, 7), (144, 8), (144, 9), (144, 10), (144, 11), (144, 12), (144, 13), (144, 14), (144, 15), (144, 16), (144, 17), (145, 1), (145, 2), (145, 3), (145, 12), (145, 15), (145, 16), (146, 5), (146, 6), (146, 7), (146, 8), (146, 9), (146, 10), (146, 11), (146, 13), (146, 14), (146, 15), (146, 16), (148, 1), (148, 3), (148, 4), (148, 5), (153, 0), (153, 1)] S G S165 (up G166 142 this 11 n124) := (gr_up g191 rfl)
  refine r_newarrA hX hP rfl (L := 94) (n := 20) al_94 (by decide) rfl rfl rfl (tbg sg1 124 rfl rfl) (by decide) (by omega) (by omega) (fun n198 S199 G200 n198z n198n n198l g201 n198v => ?_)
  have z202 : S n198 = 0 := gr_zero g197 n198z
  have s203 : S199 this = 142 := gr_lab g201 s168 (by decide)
  have s204 : S199 n5 = 129 := gr_lab g201 s169 (by decide)
  have s205 : S199 af44 = 130 := gr_lab g201 s170 (by decide)
  have s206 : S199 if46 = 154 := gr_lab g201 s171 (by decide)
  have s207 : S199 tf48 = 155 := gr_lab g201 s172 (by decide)
  have s208 : S199 ef50 = 156 := gr_lab g201 s173 (by decide)
  have s209 : S199 pf52 = 157 := gr_lab g201 s174 (by decide)
  have s210 : S199 n56 = 158 := gr_lab g201 s175 (by decide)
  have s211 : S199 n124 = 159 := gr_lab g201 r164.1 (by decide)
  have e212 : 1 = G200 142 this 4 := gr_val g201 e176 s168 (by decide) rfl
  have e213 : n5 = G200 142 this 17 := gr_val g201 e177 s168 (by decide) rfl
  have e214 : af44 = G200 129 n5 9 := gr_val g201 e178 s169 (by decide) rfl
  have e215 : af44 = G200 142 this 5 := gr_val g201 e179 s168 (by decide) rfl
  have e216 : if46 = G200 129 n5 10 := gr_val g201 e180 s169 (by decide) rfl
  have e217 : if46 = G200 142 this 6 := gr_val g201 e181 s168 (by decide) rfl
  have e218 : tf48 = G200 129 n5 11 := gr_val g201 e182 s169 (by decide) rfl
  have e219 : tf48 = G200 142 this 7 := gr_val g201 e183 s168 (by decide) rfl
  have e220 : ef50 = G200 129 n5 12 := gr_val g201 e184 s169 (by decide) rfl
  have e221 : ef50 = G200 142 this 8 := gr_val g201 e185 s168 (by decide) rfl
  have e222 : pf52 = G200 129 n5 13 := gr_val g201 e186 s169 (by decide) rfl
  have e223 : pf52 = G200 142 this 9 := gr_val g201 e187 s168 (by decide) rfl
  have e224 : (Ad E 0) = G200 158 n56 1 := gr_val g201 e188 s175 (by decide) rfl
  have e225 : n56 = G200 142 this 10 := gr_val g201 e189 s168 (by decide) rfl
  have e226 : (Ad E 0) = G200 159 n124 1 := gr_val g201 e190 r164.1 (by decide) rfl
  have e227 : n124 = G200 142 this 11 := gr_val g201 h195 s168 (by decide) rfl
  have g228 : Gr [93, 94, 95, 96, 97, 98, 99, 105, 106, 107, 108, 109, 110, 111, 112, 113, 114, 115, 116, 117, 118, 129, 130, 131, 132, 134, 143, 144, 145, 146, 148, 153, 154, 155, 156, 157, 158, 159] [(142, 4), (142, 5), (142, 6), (142, 7), (142, 8), (142, 9), (142, 10), (142, 11), (142, 12), (142, 13), (142, 14), (142, 15), (142, 16), (142, 17), (142, 18), (143, 0), (143, 1), (143, 3), (143, 4), (143, 5), (143, 6), (143, 7), (143, 8), (143, 9), (143, 10), (143, 11), (143, 12), (143, 13), (143, 14), (143, 17), (143, 18), (143, 19), (144, 1), (144, 2), (144, 3), (144, 4), (144, 5), (144, 6), (144, 7), (144, 8), (144, 9), (144, 10), (144, 11), (144, 12), (144, 13), (144, 14), (144, 15), (144, 16), (144, 17), (145, 1), (145, 2), (145, 3), (145, 12), (145, 15), (145, 16), (146, 5), (146, 6), (146, 7), (146, 8), (146, 9), (146, 10), (146, 11), (146, 13), (146, 14), (146, 15), (146, 16), (148, 1), (148, 3), (148, 4), (148, 5), (153, 0), (153, 1)] S G S199 G200 := gr_call g197 g201 rfl rfl
  have u229 : UqL [159, 158, 129, 157, 156, 155, 154, 130] S199 := uq_gr u192 g201 rfl
  have u230 : No [128, 131, 132, 136, 138] S199 := no_gr (no_sub u194 rfl) g201 rfl
  have u231 : EmL E [159, 158, 157, 156, 155, 154] S199 G200 := em_gr u196 g201 rfl
  refine r_putFN hX hP rfl rfl fq_X11_51_142 s203 (by decide) (Or.inr n198l) (fun h232 => ?_)
  refine r_ex hX hP 1 (pc' := 106) (st' := [(2, this)]) (lo' := [(0, (2, this))]) rfl ?_
  have u233 : EmL E [159, 158, 157, 156, 155, 154] S199 (up G200 142 this 12 n198) := (em_up u231 rfl)
  have g234 : Gr [93, 94, 95, 96, 97, 98, 99, 105, 106, 107, 108, 109, 110, 111, 112, 113, 114, 115, 116, 117, 118, 129, 130, 131, 132, 134, 143, 144, 145, 146, 148, 153, 154, 155, 156, 157, 158, 159] [(142, 4), (142, 5), (142, 6), (142, 7), (142, 8), (142, 9), (142, 10), (142, 11), (142, 12), (142, 13), (142, 14), (142, 15), (142, 16), (142, 17), (142, 18), (143, 0), (143, 1), (143, 3), (143, 4), (143, 5), (143, 6), (143, 7), (143, 8), (143, 9), (143, 10), (143, 11), (143, 12), (143, 13), (143, 14), (143, 17), (143, 18), (143, 19), (144, 1), (144, 2), (144, 3), (144, 4), (144, 5), (144, 6), (144, 7), (144, 8), (144, 9), (144, 10), (144, 11), (144, 12), (144, 13), (144, 14), (144, 15), (144, 16), (144, 17), (145, 1), (145, 2), (145, 3), (145, 12), (145, 15), (145, 16), (146, 5), (146, 6), (146, 7), (146, 8), (146, 9), (146, 10), (146, 11), (146, 13), (146, 14), (146, 15), (146, 16), (148, 1), (148, 3), (148, 4), (148, 5), (153, 0), (153, 1)] S G S199 (up G200 142 this 12 n198) := (gr_up g228 rfl)
  refine r_newA hX hP rfl (L := 148) (N := 6) nw_X11_55_148 (by omega) (by omega) (fun n235 S236 G237 n235z n235n n235l g238 n235v => ?_)
  have z239 : S n235 = 0 := gr_zero g234 n235z
  have s240 : S236 this = 142 := gr_lab g238 s203 (by decide)
  have s241 : S236 n5 = 129 := gr_lab g238 s204 (by decide)
  have s242 : S236 af44 = 130 := gr_lab g238 s205 (by decide)
  have s243 : S236 if46 = 154 := gr_lab g238 s206 (by decide)
  have s244 : S236 tf48 = 155 := gr_lab g238 s207 (by decide)
  have s245 : S236 ef50 = 156 := gr_lab g238 s208 (by decide)
  have s246 : S236 pf52 = 157 := gr_lab g238 s209 (by decide)
  have s247 : S236 n56 = 158 := gr_lab g238 s210 (by decide)
  have s248 : S236 n124 = 159 := gr_lab g238 s211 (by decide)
  have s249 : S236 n198 = 94 := gr_lab g238 n198l (by decide)
  have e250 : 1 = G237 142 this 4 := gr_val g238 e212 s203 (by decide) rfl
  have e251 : n5 = G237 142 this 17 := gr_val g238 e213 s203 (by decide) rfl
  have e252 : af44 = G237 129 n5 9 := gr_val g238 e214 s204 (by decide) rfl
  have e253 : af44 = G237 142 this 5 := gr_val g238 e215 s203 (by decide) rfl
  have e254 : if46 = G237 129 n5 10 := gr_val g238 e216 s204 (by decide) rfl
  have e255 : if46 = G237 142 this 6 := gr_val g238 e217 s203 (by decide) rfl
  have e256 : tf48 = G237 129 n5 11 := gr_val g238 e218 s204 (by decide) rfl
  have e257 : tf48 = G237 142 this 7 := gr_val g238 e219 s203 (by decide) rfl
  have e258 : ef50 = G237 129 n5 12 := gr_val g238 e220 s204 (by decide) rfl
  have e259 : ef50 = G237 142 this 8 := gr_val g238 e221 s203 (by decide) rfl
  have e260 : pf52 = G237 129 n5 13 := gr_val g238 e222 s204 (by decide) rfl
  have e261 : pf52 = G237 142 this 9 := gr_val g238 e223 s203 (by decide) rfl
  have e262 : (Ad E 0) = G237 158 n56 1 := gr_val g238 e224 s210 (by decide) rfl
  have e263 : n56 = G237 142 this 10 := gr_val g238 e225 s203 (by decide) rfl
  have e264 : (Ad E 0) = G237 159 n124 1 := gr_val g238 e226 s211 (by decide) rfl
  have e265 : n124 = G237 142 this 11 := gr_val g238 e227 s203 (by decide) rfl
  have e266 : n198 = G237 142 this 12 := gr_val g238 h232 s203 (by decide) rfl
  have g267 : Gr [93, 94, 95, 96, 97, 98, 99, 105, 106, 107, 108, 109, 110, 111, 112, 113, 114, 115, 116, 117, 118, 129, 130, 131, 132, 134, 143, 144, 145, 146, 148, 153, 154, 155, 156, 157, 158, 159] [(142, 4), (142, 5), (142, 6), (142, 7), (142, 8), (142, 9), (142, 10), (142, 11), (142, 12), (142, 13), (142, 14), (142, 15), (142, 16), (142, 17), (142, 18), (143, 0), (143, 1), (143, 3), (143, 4), (143, 5), (143, 6), (143, 7), (143, 8), (143, 9), (143, 10), (143, 11), (143, 12), (143, 13), (143, 14), (143, 17), (143, 18), (143, 19), (144, 1), (144, 2), (144, 3), (144, 4), (144, 5), (144, 6), (144, 7), (144, 8), (144, 9), (144, 10), (144, 11), (144, 12), (144, 13), (144, 14), (144, 15), (144, 16), (144, 17), (145, 1), (145, 2), (145, 3), (145, 12), (145, 15), (145, 16), (146, 5), (146, 6), (146, 7), (146, 8), (146, 9), (146, 10), (146, 11), (146, 13), (146, 14), (146, 15), (146, 16), (148, 1), (148, 3), (148, 4), (148, 5), (153, 0), (153, 1)] S G S236 G237 := gr_call g234 g238 rfl rfl
  have u268 : UqL [159, 158, 129, 157, 156, 155, 154, 130] S236 := uq_gr u229 g238 rfl
  have u269 : No [128, 131, 132, 136, 138] S236 := no_gr (no_sub u230 rfl) g238 rfl
  have u270 : EmL E [159, 158, 157, 156, 155, 154] S236 G237 := em_gr u233 g238 rfl
  refine r_ex hX hP 1 (pc' := 110) (st' := [(2, n235), (2, n235), (2, this)]) (lo' := [(0, (2, this))]) rfl ?_
  refine r_callIN gd hX hP rfl cn_X11_57 n235n (d' := 3) (mc' := 3) (ms' := 27) (as' := []) (st := [(2, n235), (2, this)]) (by omega) (by omega) (by omega) rfl rfl (Nat.le_of_ble_eq_true rfl) (c_X4_init E S236 G237 n235  n235l) ?_
  rintro _ S271 G272 ⟨g273, rfl, hf274⟩
  have s275 : S271 this = 142 := gr_lab g273 s240 (by decide)
  have s276 : S271 n5 = 129 := gr_lab g273 s241 (by decide)
  have s277 : S271 af44 = 130 := gr_lab g273 s242 (by decide)
  have s278 : S271 if46 = 154 := gr_lab g273 s243 (by decide)
  have s279 : S271 tf48 = 155 := gr_lab g273 s244 (by decide)
  have s280 : S271 ef50 = 156 := gr_lab g273 s245 (by decide)
  have s281 : S271 pf52 = 157 := gr_lab g273 s246 (by decide)
  have s282 : S271 n56 = 158 := gr_lab g273 s247 (by decide)
  have s283 : S271 n124 = 159 := gr_lab g273 s248 (by decide)
  have s284 : S271 n198 = 94 := gr_lab g273 s249 (by decide)
  have s285 : S271 n235 = 148 := gr_lab g273 n235l (by decide)
  have e286 : 1 = G272 142 this 4 := gr_val g273 e250 s240 (by decide) rfl
  have e287 : n5 = G272 142 this 17 := gr_val g273 e251 s240 (by decide) rfl
  have e288 : af44 = G272 129 n5 9 := gr_val g273 e252 s241 (by decide) rfl
  have e289 : af44 = G272 142 this 5 := gr_val g273 e253 s240 (by decide) rfl
  have e290 : if46 = G272 129 n5 10 := gr_val g273 e254 s241 (by decide) rfl
  have e291 : if46 = G272 142 this 6 := gr_val g273 e255 s240 (by decide) rfl
  have e292 : tf48 = G272 129 n5 11 := gr_val g273 e256 s241 (by decide) rfl
  have e293 : tf48 = G272 142 this 7 := gr_val g273 e257 s240 (by decide) rfl
  have e294 : ef50 = G272 129 n5 12 := gr_val g273 e258 s241 (by decide) rfl
  have e295 : ef50 = G272 142 this 8 := gr_val g273 e259 s240 (by decide) rfl
  have e296 : pf52 = G272 129 n5 13 := gr_val g273 e260 s241 (by decide) rfl
  have e297 : pf52 = G272 142 this 9 := gr_val g273 e261 s240 (by decide) rfl
  have e298 : (Ad E 0) = G272 158 n56 1 := gr_val g273 e262 s247 (by decide) rfl
  have e299 : n56 = G272 142 this 10 := gr_val g273 e263 s240 (by decide) rfl
  have e300 : (Ad E 0) = G272 159 n124 1 := gr_val g273 e264 s248 (by decide) rfl
  have e301 : n124 = G272 142 this 11 := gr_val g273 e265 s240 (by decide) rfl
  have e302 : n198 = G272 142 this 12 := gr_val g273 e266 s240 (by decide) rfl
  have g303 : Gr [93, 94, 95, 96, 97, 98, 99, 105, 106, 107, 108, 109, 110, 111, 112, 113, 114, 115, 116, 117, 118, 129, 130, 131, 132, 134, 143, 144, 145, 146, 148, 153, 154, 155, 156, 157, 158, 159] [(142, 4), (142, 5), (142, 6), (142, 7), (142, 8), (142, 9), (142, 10), (142, 11), (142, 12), (142, 13), (142, 14), (142, 15), (142, 16), (142, 17), (142, 18), (143, 0), (143, 1), (143, 3), (143, 4), (143, 5), (143, 6), (143, 7), (143, 8), (143, 9), (143, 10), (143, 11), (143, 12), (143, 13), (143, 14), (143, 17), (143, 18), (143, 19), (144, 1), (144, 2), (144, 3), (144, 4), (144, 5), (144, 6), (144, 7), (144, 8), (144, 9), (144, 10), (144, 11), (144, 12), (144, 13), (144, 14), (144, 15), (144, 16), (144, 17), (145, 1), (145, 2), (145, 3), (145, 12), (145, 15), (145, 16), (146, 5), (146, 6), (146, 7), (146, 8), (146, 9), (146, 10), (146, 11), (146, 13), (146, 14), (146, 15), (146, 16), (148, 1), (148, 3), (148, 4), (148, 5), (153, 0), (153, 1)] S G S271 G272 := gr_call g267 g273 rfl rfl
  have u304 : UqL [159, 158, 129, 157, 156, 155, 154, 130] S271 := uq_gr u268 g273 rfl
  have u305 : No [128, 131, 132, 136, 138] S271 := no_gr (no_sub u269 rfl) g273 rfl
  have u306 : EmL E [159, 158, 157, 156, 155, 154] S271 G272 := em_gr u270 g273 rfl
  refine r_finA hX (L := 148) (ci := 5) (fs := fs_148) rfl s285 (by decide) (fun hr307 => ?_)
  refine r_relabF hX (L := 148) (L' := 134) (ci := 5) (fs := fs_148) (fs' := fs_134) rfl rfl rfl (by decide) (by decide) nf_148 (by decide) s285 hf274 (fun S310 G311 r309 => ?_)
  have s313 : S310 this = 142 := r309.lab s285 s275 (by decide)
  have s314 : S310 n5 = 129 := r309.lab s285 s276 (by decide)
  have s315 : S310 af44 = 130 := r309.lab s285 s277 (by decide)
  have s316 : S310 if46 = 154 := r309.lab s285 s278 (by decide)
  have s317 : S310 tf48 = 155 := r309.lab s285 s279 (by decide)
  have s318 : S310 ef50 = 156 := r309.lab s285 s280 (by decide)
  have s319 : S310 pf52 = 157 := r309.lab s285 s281 (by decide)
  have s320 : S310 n56 = 158 := r309.lab s285 s282 (by decide)
  have s321 : S310 n124 = 159 := r309.lab s285 s283 (by decide)
  have s322 : S310 n198 = 94 := r309.lab s285 s284 (by decide)
  have e323 : 1 = G311 142 this 4 := rs_val r309 s285 e286 s275 (by decide)
  have e324 : n5 = G311 142 this 17 := rs_val r309 s285 e287 s275 (by decide)
  have e325 : af44 = G311 129 n5 9 := rs_val r309 s285 e288 s276 (by decide)
  have e326 : af44 = G311 142 this 5 := rs_val r309 s285 e289 s275 (by decide)
  have e327 : if46 = G311 129 n5 10 := rs_val r309 s285 e290 s276 (by decide)
  have e328 : if46 = G311 142 this 6 := rs_val r309 s285 e291 s275 (by decide)
  have e329 : tf48 = G311 129 n5 11 := rs_val r309 s285 e292 s276 (by decide)
  have e330 : tf48 = G311 142 this 7 := rs_val r309 s285 e293 s275 (by decide)
  have e331 : ef50 = G311 129 n5 12 := rs_val r309 s285 e294 s276 (by decide)
  have e332 : ef50 = G311 142 this 8 := rs_val r309 s285 e295 s275 (by decide)
  have e333 : pf52 = G311 129 n5 13 := rs_val r309 s285 e296 s276 (by decide)
  have e334 : pf52 = G311 142 this 9 := rs_val r309 s285 e297 s275 (by decide)
  have e335 : (Ad E 0) = G311 158 n56 1 := rs_val r309 s285 e298 s282 (by decide)
  have e336 : n56 = G311 142 this 10 := rs_val r309 s285 e299 s275 (by decide)
  have e337 : (Ad E 0) = G311 159 n124 1 := rs_val r309 s285 e300 s283 (by decide)
  have e338 : n124 = G311 142 this 11 := rs_val r309 s285 e301 s275 (by decide)
  have e339 : n198 = G311 142 this 12 := rs_val r309 s285 e302 s275 (by decide)
  have g340 : Gr [93, 94, 95, 96, 97, 98, 99, 105, 106, 107, 108, 109, 110, 111, 112, 113, 114, 115, 116, 117, 118, 129, 130, 131, 132, 134, 143, 144, 145, 146, 148, 153, 154, 155, 156, 157, 158, 159] [(142, 4), (142, 5), (142, 6), (142, 7), (142, 8), (142, 9), (142, 10), (142, 11), (142, 12), (142, 13), (142, 14), (142, 15), (142, 16), (142, 17), (142, 18), (143, 0), (143, 1), (143, 3), (143, 4), (143, 5), (143, 6), (143, 7), (143, 8), (143, 9), (143, 10), (143, 11), (143, 12), (143, 13), (143, 14), (143, 17), (143, 18), (143, 19), (144, 1), (144, 2), (144, 3), (144, 4), (144, 5), (144, 6), (144, 7), (144, 8), (144, 9), (144, 10), (144, 11), (144, 12), (144, 13), (144, 14), (144, 15), (144, 16), (144, 17), (145, 1), (145, 2), (145, 3), (145, 12), (145, 15), (145, 16), (146, 5), (146, 6), (146, 7), (146, 8), (146, 9), (146, 10), (146, 11), (146, 13), (146, 14), (146, 15), (146, 16), (148, 1), (148, 3), (148, 4), (148, 5), (153, 0), (153, 1)] S G S310 G311 := gr_rs g303 r309 z239 rfl
  have u341 : UqL [159, 158, 129, 157, 156, 155, 154, 130] S310 := uq_rsN u304 r309 rfl
  have u342 : EmL E [159, 158, 157, 156, 155, 154] S310 G311 := em_rsN u306 r309 rfl
  have u343 : No [128, 131, 132, 136, 138] S310 := no_rs u305 r309 rfl
  refine r_putFN hX hP rfl rfl fq_X11_58_142 s313 (by decide) (Or.inr r309.1) (fun h344 => ?_)
  refine r_ex hX hP 1 (pc' := 117) (st' := [(2, this)]) (lo' := [(0, (2, this))]) rfl ?_
  have u345 : EmL E [159, 158, 157, 156, 155, 154] S310 (up G311 142 this 13 n235) := (em_up u342 rfl)
  have g346 : Gr [93, 94, 95, 96, 97, 98, 99, 105, 106, 107, 108, 109, 110, 111, 112, 113, 114, 115, 116, 117, 118, 129, 130, 131, 132, 134, 143, 144, 145, 146, 148, 153, 154, 155, 156, 157, 158, 159] [(142, 4), (142, 5), (142, 6), (142, 7), (142, 8), (142, 9), (142, 10), (142, 11), (142, 12), (142, 13), (142, 14), (142, 15), (142, 16), (142, 17), (142, 18), (143, 0), (143, 1), (143, 3), (143, 4), (143, 5), (143, 6), (143, 7), (143, 8), (143, 9), (143, 10), (143, 11), (143, 12), (143, 13), (143, 14), (143, 17), (143, 18), (143, 19), (144, 1), (144, 2), (144, 3), (144, 4), (144, 5), (144, 6), (144, 7), (144, 8), (144, 9), (144, 10), (144, 11), (144, 12), (144, 13), (144, 14), (144, 15), (144, 16), (144, 17), (145, 1), (145, 2), (145, 3), (145, 12), (145, 15), (145, 16), (146, 5), (146, 6), (146, 7), (146, 8), (146, 9), (146, 10), (146, 11), (146, 13), (146, 14), (146, 15), (146, 16), (148, 1), (148, 3), (148, 4), (148, 5), (153, 0), (153, 1)] S G S310 (up G311 142 this 13 n235) := (gr_up g340 rfl)
  refine r_newA hX hP rfl (L := 148) (N := 6) nw_X11_55_148 (by omega) (by omega) (fun n347 S348 G349 n347z n347n n347l g350 n347v => ?_)
  have z351 : S n347 = 0 := gr_zero g346 n347z
  have s352 : S348 this = 142 := gr_lab g350 s313 (by decide)
  have s353 : S348 n5 = 129 := gr_lab g350 s314 (by decide)
  have s354 : S348 af44 = 130 := gr_lab g350 s315 (by decide)
  have s355 : S348 if46 = 154 := gr_lab g350 s316 (by decide)
  have s356 : S348 tf48 = 155 := gr_lab g350 s317 (by decide)
  have s357 : S348 ef50 = 156 := gr_lab g350 s318 (by decide)
  have s358 : S348 pf52 = 157 := gr_lab g350 s319 (by decide)
  have s359 : S348 n56 = 158 := gr_lab g350 s320 (by decide)
  have s360 : S348 n124 = 159 := gr_lab g350 s321 (by decide)
  have s361 : S348 n198 = 94 := gr_lab g350 s322 (by decide)
  have s362 : S348 n235 = 134 := gr_lab g350 r309.1 (by decide)
  have e363 : 1 = G349 142 this 4 := gr_val g350 e323 s313 (by decide) rfl
  have e364 : n5 = G349 142 this 17 := gr_val g350 e324 s313 (by decide) rfl
  have e365 : af44 = G349 129 n5 9 := gr_val g350 e325 s314 (by decide) rfl
  have e366 : af44 = G349 142 this 5 := gr_val g350 e326 s313 (by decide) rfl
  have e367 : if46 = G349 129 n5 10 := gr_val g350 e327 s314 (by decide) rfl
  have e368 : if46 = G349 142 this 6 := gr_val g350 e328 s313 (by decide) rfl
  have e369 : tf48 = G349 129 n5 11 := gr_val g350 e329 s314 (by decide) rfl
  have e370 : tf48 = G349 142 this 7 := gr_val g350 e330 s313 (by decide) rfl
  have e371 : ef50 = G349 129 n5 12 := gr_val g350 e331 s314 (by decide) rfl
  have e372 : ef50 = G349 142 this 8 := gr_val g350 e332 s313 (by decide) rfl
  have e373 : pf52 = G349 129 n5 13 := gr_val g350 e333 s314 (by decide) rfl
  have e374 : pf52 = G349 142 this 9 := gr_val g350 e334 s313 (by decide) rfl
  have e375 : (Ad E 0) = G349 158 n56 1 := gr_val g350 e335 s320 (by decide) rfl
  have e376 : n56 = G349 142 this 10 := gr_val g350 e336 s313 (by decide) rfl
  have e377 : (Ad E 0) = G349 159 n124 1 := gr_val g350 e337 s321 (by decide) rfl
  have e378 : n124 = G349 142 this 11 := gr_val g350 e338 s313 (by decide) rfl
  have e379 : n198 = G349 142 this 12 := gr_val g350 e339 s313 (by decide) rfl
  have e380 : n235 = G349 142 this 13 := gr_val g350 h344 s313 (by decide) rfl
  have g381 : Gr [93, 94, 95, 96, 97, 98, 99, 105, 106, 107, 108, 109, 110, 111, 112, 113, 114, 115, 116, 117, 118, 129, 130, 131, 132, 134, 143, 144, 145, 146, 148, 153, 154, 155, 156, 157, 158, 159] [(142, 4), (142, 5), (142, 6), (142, 7), (142, 8), (142, 9), (142, 10), (142, 11), (142, 12), (142, 13), (142, 14), (142, 15), (142, 16), (142, 17), (142, 18), (143, 0), (143, 1), (143, 3), (143, 4), (143, 5), (143, 6), (143, 7), (143, 8), (143, 9), (143, 10), (143, 11), (143, 12), (143, 13), (143, 14), (143, 17), (143, 18), (143, 19), (144, 1), (144, 2), (144, 3), (144, 4), (144, 5), (144, 6), (144, 7), (144, 8), (144, 9), (144, 10), (144, 11), (144, 12), (144, 13), (144, 14), (144, 15), (144, 16), (144, 17), (145, 1), (145, 2), (145, 3), (145, 12), (145, 15), (145, 16), (146, 5), (146, 6), (146, 7), (146, 8), (146, 9), (146, 10), (146, 11), (146, 13), (146, 14), (146, 15), (146, 16), (148, 1), (148, 3), (148, 4), (148, 5), (153, 0), (153, 1)] S G S348 G349 := gr_call g346 g350 rfl rfl
  have u382 : UqL [159, 158, 129, 157, 156, 155, 154, 130] S348 := uq_gr u341 g350 rfl
  have u383 : No [128, 131, 132, 136, 138] S348 := no_gr (no_sub u343 rfl) g350 rfl
  have u384 : EmL E [159, 158, 157, 156, 155, 154] S348 G349 := em_gr u345 g350 rfl
  refine r_ex hX hP 1 (pc' := 121) (st' := [(2, n347), (2, n347), (2, this)]) (lo' := [(0, (2, this))]) rfl ?_
  refine r_callIN gd hX hP rfl cn_X11_57 n347n (d' := 3) (mc' := 3) (ms' := 27) (as' := []) (st := [(2, n347), (2, this)]) (by omega) (by omega) (by omega) rfl rfl (Nat.le_of_ble_eq_true rfl) (c_X4_init E S348 G349 n347  n347l) ?_
  rintro _ S385 G386 ⟨g387, rfl, hf388⟩
  have s389 : S385 this = 142 := gr_lab g387 s352 (by decide)
  have s390 : S385 n5 = 129 := gr_lab g387 s353 (by decide)
  have s391 : S385 af44 = 130 := gr_lab g387 s354 (by decide)
  have s392 : S385 if46 = 154 := gr_lab g387 s355 (by decide)
  have s393 : S385 tf48 = 155 := gr_lab g387 s356 (by decide)
  have s394 : S385 ef50 = 156 := gr_lab g387 s357 (by decide)
  have s395 : S385 pf52 = 157 := gr_lab g387 s358 (by decide)
  have s396 : S385 n56 = 158 := gr_lab g387 s359 (by decide)
  have s397 : S385 n124 = 159 := gr_lab g387 s360 (by decide)
  have s398 : S385 n198 = 94 := gr_lab g387 s361 (by decide)
  have s399 : S385 n235 = 134 := gr_lab g387 s362 (by decide)
  have s400 : S385 n347 = 148 := gr_lab g387 n347l (by decide)
  have e401 : 1 = G386 142 this 4 := gr_val g387 e363 s352 (by decide) rfl
  have e402 : n5 = G386 142 this 17 := gr_val g387 e364 s352 (by decide) rfl
  have e403 : af44 = G386 129 n5 9 := gr_val g387 e365 s353 (by decide) rfl
  have e404 : af44 = G386 142 this 5 := gr_val g387 e366 s352 (by decide) rfl
  have e405 : if46 = G386 129 n5 10 := gr_val g387 e367 s353 (by decide) rfl
  have e406 : if46 = G386 142 this 6 := gr_val g387 e368 s352 (by decide) rfl
  have e407 : tf48 = G386 129 n5 11 := gr_val g387 e369 s353 (by decide) rfl
  have e408 : tf48 = G386 142 this 7 := gr_val g387 e370 s352 (by decide) rfl
  have e409 : ef50 = G386 129 n5 12 := gr_val g387 e371 s353 (by decide) rfl
  have e410 : ef50 = G386 142 this 8 := gr_val g387 e372 s352 (by decide) rfl
  have e411 : pf52 = G386 129 n5 13 := gr_val g387 e373 s353 (by decide) rfl
  have e412 : pf52 = G386 142 this 9 := gr_val g387 e374 s352 (by decide) rfl
  have e413 : (Ad E 0) = G386 158 n56 1 := gr_val g387 e375 s359 (by decide) rfl
  have e414 : n56 = G386 142 this 10 := gr_val g387 e376 s352 (by decide) rfl
  have e415 : (Ad E 0) = G386 159 n124 1 := gr_val g387 e377 s360 (by decide) rfl
  have e416 : n124 = G386 142 this 11 := gr_val g387 e378 s352 (by decide) rfl
  have e417 : n198 = G386 142 this 12 := gr_val g387 e379 s352 (by decide) rfl
  have e418 : n235 = G386 142 this 13 := gr_val g387 e380 s352 (by decide) rfl
  have g419 : Gr [93, 94, 95, 96, 97, 98, 99, 105, 106, 107, 108, 109, 110, 111, 112, 113, 114, 115, 116, 117, 118, 129, 130, 131, 132, 134, 143, 144, 145, 146, 148, 153, 154, 155, 156, 157, 158, 159] [(142, 4), (142, 5), (142, 6), (142, 7), (142, 8), (142, 9), (142, 10), (142, 11), (142, 12), (142, 13), (142, 14), (142, 15), (142, 16), (142, 17), (142, 18), (143, 0), (143, 1), (143, 3), (143, 4), (143, 5), (143, 6), (143, 7), (143, 8), (143, 9), (143, 10), (143, 11), (143, 12), (143, 13), (143, 14), (143, 17), (143, 18), (143, 19), (144, 1), (144, 2), (144, 3), (144, 4), (144, 5), (144, 6), (144, 7), (144, 8), (144, 9), (144, 10), (144, 11), (144, 12), (144, 13), (144, 14), (144, 15), (144, 16), (144, 17), (145, 1), (145, 2), (145, 3), (145, 12), (145, 15), (145, 16), (146, 5), (146, 6), (146, 7), (146, 8), (146, 9), (146, 10), (146, 11), (146, 13), (146, 14), (146, 15), (146, 16), (148, 1), (148, 3), (148, 4), (148, 5), (153, 0), (153, 1)] S G S385 G386 := gr_call g381 g387 rfl rfl
  have u420 : UqL [159, 158, 129, 157, 156, 155, 154, 130] S385 := uq_gr u382 g387 rfl
  have u421 : No [128, 131, 132, 136, 138] S385 := no_gr (no_sub u383 rfl) g387 rfl
  have u422 : EmL E [159, 158, 157, 156, 155, 154] S385 G386 := em_gr u384 g387 rfl
  refine r_finA hX (L := 148) (ci := 5) (fs := fs_148) rfl s400 (by decide) (fun hr423 => ?_)
  refine r_relabF hX (L := 148) (L' := 134) (ci := 5) (fs := fs_148) (fs' := fs_134) rfl rfl rfl (by decide) (by decide) nf_148 (by decide) s400 hf388 (fun S426 G427 r425 => ?_)
  have s429 : S426 this = 142 := r425.lab s400 s389 (by decide)
  have s430 : S426 n5 = 129 := r425.lab s400 s390 (by decide)
  have s431 : S426 af44 = 130 := r425.lab s400 s391 (by decide)
  have s432 : S426 if46 = 154 := r425.lab s400 s392 (by decide)
  have s433 : S426 tf48 = 155 := r425.lab s400 s393 (by decide)
  have s434 : S426 ef50 = 156 := r425.lab s400 s394 (by decide)
  have s435 : S426 pf52 = 157 := r425.lab s400 s395 (by decide)
  have s436 : S426 n56 = 158 := r425.lab s400 s396 (by decide)
  have s437 : S426 n124 = 159 := r425.lab s400 s397 (by decide)
  have s438 : S426 n198 = 94 := r425.lab s400 s398 (by decide)
  have s439 : S426 n235 = 134 := r425.lab s400 s399 (by decide)
  have e440 : 1 = G427 142 this 4 := rs_val r425 s400 e401 s389 (by decide)
  have e441 : n5 = G427 142 this 17 := rs_val r425 s400 e402 s389 (by decide)
  have e442 : af44 = G427 129 n5 9 := rs_val r425 s400 e403 s390 (by decide)
  have e443 : af44 = G427 142 this 5 := rs_val r425 s400 e404 s389 (by decide)
  have e444 : if46 = G427 129 n5 10 := rs_val r425 s400 e405 s390 (by decide)
  have e445 : if46 = G427 142 this 6 := rs_val r425 s400 e406 s389 (by decide)
  have e446 : tf48 = G427 129 n5 11 := rs_val r425 s400 e407 s390 (by decide)
  have e447 : tf48 = G427 142 this 7 := rs_val r425 s400 e408 s389 (by decide)
  have e448 : ef50 = G427 129 n5 12 := rs_val r425 s400 e409 s390 (by decide)
  have e449 : ef50 = G427 142 this 8 := rs_val r425 s400 e410 s389 (by decide)
  have e450 : pf52 = G427 129 n5 13 := rs_val r425 s400 e411 s390 (by decide)
  have e451 : pf52 = G427 142 this 9 := rs_val r425 s400 e412 s389 (by decide)
  have e452 : (Ad E 0) = G427 158 n56 1 := rs_val r425 s400 e413 s396 (by decide)
  have e453 : n56 = G427 142 this 10 := rs_val r425 s400 e414 s389 (by decide)
  have e454 : (Ad E 0) = G427 159 n124 1 := rs_val r425 s400 e415 s397 (by decide)
  have e455 : n124 = G427 142 this 11 := rs_val r425 s400 e416 s389 (by decide)
  have e456 : n198 = G427 142 this 12 := rs_val r425 s400 e417 s389 (by decide)
  have e457 : n235 = G427 142 this 13 := rs_val r425 s400 e418 s389 (by decide)
  have g458 : Gr [93, 94, 95, 96, 97, 98, 99, 105, 106, 107, 108, 109, 110, 111, 112, 113, 114, 115, 116, 117, 118, 129, 130, 131, 132, 134, 143, 144, 145, 146, 148, 153, 154, 155, 156, 157, 158, 159] [(142, 4), (142, 5), (142, 6), (142, 7), (142, 8), (142, 9), (142, 10), (142, 11), (142, 12), (142, 13), (142, 14), (142, 15), (142, 16), (142, 17), (142, 18), (143, 0), (143, 1), (143, 3), (143, 4), (143, 5), (143, 6), (143, 7), (143, 8), (143, 9), (143, 10), (143, 11), (143, 12), (143, 13), (143, 14), (143, 17), (143, 18), (143, 19), (144, 1), (144, 2), (144, 3), (144, 4), (144, 5), (144, 6), (144, 7), (144, 8), (144, 9), (144, 10), (144, 11), (144, 12), (144, 13), (144, 14), (144, 15), (144, 16), (144, 17), (145, 1), (145, 2), (145, 3), (145, 12), (145, 15), (145, 16), (146, 5), (146, 6), (146, 7), (146, 8), (146, 9), (146, 10), (146, 11), (146, 13), (146, 14), (146, 15), (146, 16), (148, 1), (148, 3), (148, 4), (148, 5), (153, 0), (153, 1)] S G S426 G427 := gr_rs g419 r425 z351 rfl
  have u459 : UqL [159, 158, 129, 157, 156, 155, 154, 130] S426 := uq_rsN u420 r425 rfl
  have u460 : EmL E [159, 158, 157, 156, 155, 154] S426 G427 := em_rsN u422 r425 rfl
  have u461 : No [128, 131, 132, 136, 138] S426 := no_rs u421 r425 rfl
  refine r_putFN hX hP rfl rfl fq_X11_62_142 s429 (by decide) (Or.inr r425.1) (fun h462 => ?_)
  refine r_ex hX hP 1 (pc' := 128) (st' := [(2, this)]) (lo' := [(0, (2, this))]) rfl ?_
  have u463 : EmL E [159, 158, 157, 156, 155, 154] S426 (up G427 142 this 14 n347) := (em_up u460 rfl)
  have g464 : Gr [93, 94, 95, 96, 97, 98, 99, 105, 106, 107, 108, 109, 110, 111, 112, 113, 114, 115, 116, 117, 118, 129, 130, 131, 132, 134, 143, 144, 145, 146, 148, 153, 154, 155, 156, 157, 158, 159] [(142, 4), (142, 5), (142, 6), (142, 7), (142, 8), (142, 9), (142, 10), (142, 11), (142, 12), (142, 13), (142, 14), (142, 15), (142, 16), (142, 17), (142, 18), (143, 0), (143, 1), (143, 3), (143, 4), (143, 5), (143, 6), (143, 7), (143, 8), (143, 9), (143, 10), (143, 11), (143, 12), (143, 13), (143, 14), (143, 17), (143, 18), (143, 19), (144, 1), (144, 2), (144, 3), (144, 4), (144, 5), (144, 6), (144, 7), (144, 8), (144, 9), (144, 10), (144, 11), (144, 12), (144, 13), (144, 14), (144, 15), (144, 16), (144, 17), (145, 1), (145, 2), (145, 3), (145, 12), (145, 15), (145, 16), (146, 5), (146, 6), (146, 7), (146, 8), (146, 9), (146, 10), (146, 11), (146, 13), (146, 14), (146, 15), (146, 16), (148, 1), (148, 3), (148, 4), (148, 5), (153, 0), (153, 1)] S G S426 (up G427 142 this 14 n347) := (gr_up g458 rfl)
  refine r_newA hX hP rfl (L := 148) (N := 6) nw_X11_55_148 (by omega) (by omega) (fun n465 S466 G467 n465z n465n n465l g468 n465v => ?_)
  have z469 : S n465 = 0 := gr_zero g464 n465z
  have s470 : S466 this = 142 := gr_lab g468 s429 (by decide)
  have s471 : S466 n5 = 129 := gr_lab g468 s430 (by decide)
  have s472 : S466 af44 = 130 := gr_lab g468 s431 (by decide)
  have s473 : S466 if46 = 154 := gr_lab g468 s432 (by decide)
  have s474 : S466 tf48 = 155 := gr_lab g468 s433 (by decide)
  have s475 : S466 ef50 = 156 := gr_lab g468 s434 (by decide)
  have s476 : S466 pf52 = 157 := gr_lab g468 s435 (by decide)
  have s477 : S466 n56 = 158 := gr_lab g468 s436 (by decide)
  have s478 : S466 n124 = 159 := gr_lab g468 s437 (by decide)
  have s479 : S466 n198 = 94 := gr_lab g468 s438 (by decide)
  have s480 : S466 n235 = 134 := gr_lab g468 s439 (by decide)
  have s481 : S466 n347 = 134 := gr_lab g468 r425.1 (by decide)
  have e482 : 1 = G467 142 this 4 := gr_val g468 e440 s429 (by decide) rfl
  have e483 : n5 = G467 142 this 17 := gr_val g468 e441 s429 (by decide) rfl
  have e484 : af44 = G467 129 n5 9 := gr_val g468 e442 s430 (by decide) rfl
  have e485 : af44 = G467 142 this 5 := gr_val g468 e443 s429 (by decide) rfl
  have e486 : if46 = G467 129 n5 10 := gr_val g468 e444 s430 (by decide) rfl
  have e487 : if46 = G467 142 this 6 := gr_val g468 e445 s429 (by decide) rfl
  have e488 : tf48 = G467 129 n5 11 := gr_val g468 e446 s430 (by decide) rfl
  have e489 : tf48 = G467 142 this 7 := gr_val g468 e447 s429 (by decide) rfl
  have e490 : ef50 = G467 129 n5 12 := gr_val g468 e448 s430 (by decide) rfl
  have e491 : ef50 = G467 142 this 8 := gr_val g468 e449 s429 (by decide) rfl
  have e492 : pf52 = G467 129 n5 13 := gr_val g468 e450 s430 (by decide) rfl
  have e493 : pf52 = G467 142 this 9 := gr_val g468 e451 s429 (by decide) rfl
  have e494 : (Ad E 0) = G467 158 n56 1 := gr_val g468 e452 s436 (by decide) rfl
  have e495 : n56 = G467 142 this 10 := gr_val g468 e453 s429 (by decide) rfl
  have e496 : (Ad E 0) = G467 159 n124 1 := gr_val g468 e454 s437 (by decide) rfl
  have e497 : n124 = G467 142 this 11 := gr_val g468 e455 s429 (by decide) rfl
  have e498 : n198 = G467 142 this 12 := gr_val g468 e456 s429 (by decide) rfl
  have e499 : n235 = G467 142 this 13 := gr_val g468 e457 s429 (by decide) rfl
  have e500 : n347 = G467 142 this 14 := gr_val g468 h462 s429 (by decide) rfl
  have g501 : Gr [93, 94, 95, 96, 97, 98, 99, 105, 106, 107, 108, 109, 110, 111, 112, 113, 114, 115, 116, 117, 118, 129, 130, 131, 132, 134, 143, 144, 145, 146, 148, 153, 154, 155, 156, 157, 158, 159] [(142, 4), (142, 5), (142, 6), (142, 7), (142, 8), (142, 9), (142, 10), (142, 11), (142, 12), (142, 13), (142, 14), (142, 15), (142, 16), (142, 17), (142, 18), (143, 0), (143, 1), (143, 3), (143, 4), (143, 5), (143, 6), (143, 7), (143, 8), (143, 9), (143, 10), (143, 11), (143, 12), (143, 13), (143, 14), (143, 17), (143, 18), (143, 19), (144, 1), (144, 2), (144, 3), (144, 4), (144, 5), (144, 6), (144, 7), (144, 8), (144, 9), (144, 10), (144, 11), (144, 12), (144, 13), (144, 14), (144, 15), (144, 16), (144, 17), (145, 1), (145, 2), (145, 3), (145, 12), (145, 15), (145, 16), (146, 5), (146, 6), (146, 7), (146, 8), (146, 9), (146, 10), (146, 11), (146, 13), (146, 14), (146, 15), (146, 16), (148, 1), (148, 3), (148, 4), (148, 5), (153, 0), (153, 1)] S G S466 G467 := gr_call g464 g468 rfl rfl
  have u502 : UqL [159, 158, 129, 157, 156, 155, 154, 130] S466 := uq_gr u459 g468 rfl
  have u503 : No [128, 131, 132, 136, 138] S466 := no_gr (no_sub u461 rfl) g468 rfl
  have u504 : EmL E [159, 158, 157, 156, 155, 154] S466 G467 := em_gr u463 g468 rfl
  refine r_ex hX hP 1 (pc' := 132) (st' := [(2, n465), (2, n465), (2, this)]) (lo' := [(0, (2, this))]) rfl ?_
  refine r_callIN gd hX hP rfl cn_X11_57 n465n (d' := 3) (mc' := 3) (ms' := 27) (as' := []) (st := [(2, n465), (2, this)]) (by omega) (by omega) (by omega) rfl rfl (Nat.le_of_ble_eq_true rfl) (c_X4_init E S466 G467 n465  n465l) ?_
  rintro _ S505 G506 ⟨g507, rfl, hf508⟩
  have s509 : S505 this = 142 := gr_lab g507 s470 (by decide)
  have s510 : S505 n5 = 129 := gr_lab g507 s471 (by decide)
  have s511 : S505 af44 = 130 := gr_lab g507 s472 (by decide)
  have s512 : S505 if46 = 154 := gr_lab g507 s473 (by decide)
  have s513 : S505 tf48 = 155 := gr_lab g507 s474 (by decide)
  have s514 : S505 ef50 = 156 := gr_lab g507 s475 (by decide)
  have s515 : S505 pf52 = 157 := gr_lab g507 s476 (by decide)
  have s516 : S505 n56 = 158 := gr_lab g507 s477 (by decide)
  have s517 : S505 n124 = 159 := gr_lab g507 s478 (by decide)
  have s518 : S505 n198 = 94 := gr_lab g507 s479 (by decide)
  have s519 : S505 n235 = 134 := gr_lab g507 s480 (by decide)
  have s520 : S505 n347 = 134 := gr_lab g507 s481 (by decide)
  have s521 : S505 n465 = 148 := gr_lab g507 n465l (by decide)
  have e522 : 1 = G506 142 this 4 := gr_val g507 e482 s470 (by decide) rfl
  have e523 : n5 = G506 142 this 17 := gr_val g507 e483 s470 (by decide) rfl
  have e524 : af44 = G506 129 n5 9 := gr_val g507 e484 s471 (by decide) rfl
  have e525 : af44 = G506 142 this 5 := gr_val g507 e485 s470 (by decide) rfl
  have e526 : if46 = G506 129 n5 10 := gr_val g507 e486 s471 (by decide) rfl
  have e527 : if46 = G506 142 this 6 := gr_val g507 e487 s470 (by decide) rfl
  have e528 : tf48 = G506 129 n5 11 := gr_val g507 e488 s471 (by decide) rfl
  have e529 : tf48 = G506 142 this 7 := gr_val g507 e489 s470 (by decide) rfl
  have e530 : ef50 = G506 129 n5 12 := gr_val g507 e490 s471 (by decide) rfl
  have e531 : ef50 = G506 142 this 8 := gr_val g507 e491 s470 (by decide) rfl
  have e532 : pf52 = G506 129 n5 13 := gr_val g507 e492 s471 (by decide) rfl
  have e533 : pf52 = G506 142 this 9 := gr_val g507 e493 s470 (by decide) rfl
  have e534 : (Ad E 0) = G506 158 n56 1 := gr_val g507 e494 s477 (by decide) rfl
  have e535 : n56 = G506 142 this 10 := gr_val g507 e495 s470 (by decide) rfl
  have e536 : (Ad E 0) = G506 159 n124 1 := gr_val g507 e496 s478 (by decide) rfl
  have e537 : n124 = G506 142 this 11 := gr_val g507 e497 s470 (by decide) rfl
  have e538 : n198 = G506 142 this 12 := gr_val g507 e498 s470 (by decide) rfl
  have e539 : n235 = G506 142 this 13 := gr_val g507 e499 s470 (by decide) rfl
  have e540 : n347 = G506 142 this 14 := gr_val g507 e500 s470 (by decide) rfl
  have g541 : Gr [93, 94, 95, 96, 97, 98, 99, 105, 106, 107, 108, 109, 110, 111, 112, 113, 114, 115, 116, 117, 118, 129, 130, 131, 132, 134, 143, 144, 145, 146, 148, 153, 154, 155, 156, 157, 158, 159] [(142, 4), (142, 5), (142, 6), (142, 7), (142, 8), (142, 9), (142, 10), (142, 11), (142, 12), (142, 13), (142, 14), (142, 15), (142, 16), (142, 17), (142, 18), (143, 0), (143, 1), (143, 3), (143, 4), (143, 5), (143, 6), (143, 7), (143, 8), (143, 9), (143, 10), (143, 11), (143, 12), (143, 13), (143, 14), (143, 17), (143, 18), (143, 19), (144, 1), (144, 2), (144, 3), (144, 4), (144, 5), (144, 6), (144, 7), (144, 8), (144, 9), (144, 10), (144, 11), (144, 12), (144, 13), (144, 14), (144, 15), (144, 16), (144, 17), (145, 1), (145, 2), (145, 3), (145, 12), (145, 15), (145, 16), (146, 5), (146, 6), (146, 7), (146, 8), (146, 9), (146, 10), (146, 11), (146, 13), (146, 14), (146, 15), (146, 16), (148, 1), (148, 3), (148, 4), (148, 5), (153, 0), (153, 1)] S G S505 G506 := gr_call g501 g507 rfl rfl
  have u542 : UqL [159, 158, 129, 157, 156, 155, 154, 130] S505 := uq_gr u502 g507 rfl
  have u543 : No [128, 131, 132, 136, 138] S505 := no_gr (no_sub u503 rfl) g507 rfl
  have u544 : EmL E [159, 158, 157, 156, 155, 154] S505 G506 := em_gr u504 g507 rfl
  refine r_finA hX (L := 148) (ci := 5) (fs := fs_148) rfl s521 (by decide) (fun hr545 => ?_)
  refine r_relabF hX (L := 148) (L' := 134) (ci := 5) (fs := fs_148) (fs' := fs_134) rfl rfl rfl (by decide) (by decide) nf_148 (by decide) s521 hf508 (fun S548 G549 r547 => ?_)
  have s551 : S548 this = 142 := r547.lab s521 s509 (by decide)
  have s552 : S548 n5 = 129 := r547.lab s521 s510 (by decide)
  have s553 : S548 af44 = 130 := r547.lab s521 s511 (by decide)
  have s554 : S548 if46 = 154 := r547.lab s521 s512 (by decide)
  have s555 : S548 tf48 = 155 := r547.lab s521 s513 (by decide)
  have s556 : S548 ef50 = 156 := r547.lab s521 s514 (by decide)
  have s557 : S548 pf52 = 157 := r547.lab s521 s515 (by decide)
  have s558 : S548 n56 = 158 := r547.lab s521 s516 (by decide)
  have s559 : S548 n124 = 159 := r547.lab s521 s517 (by decide)
  have s560 : S548 n198 = 94 := r547.lab s521 s518 (by decide)
  have s561 : S548 n235 = 134 := r547.lab s521 s519 (by decide)
  have s562 : S548 n347 = 134 := r547.lab s521 s520 (by decide)
  have e563 : 1 = G549 142 this 4 := rs_val r547 s521 e522 s509 (by decide)
  have e564 : n5 = G549 142 this 17 := rs_val r547 s521 e523 s509 (by decide)
  have e565 : af44 = G549 129 n5 9 := rs_val r547 s521 e524 s510 (by decide)
  have e566 : af44 = G549 142 this 5 := rs_val r547 s521 e525 s509 (by decide)
  have e567 : if46 = G549 129 n5 10 := rs_val r547 s521 e526 s510 (by decide)
  have e568 : if46 = G549 142 this 6 := rs_val r547 s521 e527 s509 (by decide)
  have e569 : tf48 = G549 129 n5 11 := rs_val r547 s521 e528 s510 (by decide)
  have e570 : tf48 = G549 142 this 7 := rs_val r547 s521 e529 s509 (by decide)
  have e571 : ef50 = G549 129 n5 12 := rs_val r547 s521 e530 s510 (by decide)
  have e572 : ef50 = G549 142 this 8 := rs_val r547 s521 e531 s509 (by decide)
  have e573 : pf52 = G549 129 n5 13 := rs_val r547 s521 e532 s510 (by decide)
  have e574 : pf52 = G549 142 this 9 := rs_val r547 s521 e533 s509 (by decide)
  have e575 : (Ad E 0) = G549 158 n56 1 := rs_val r547 s521 e534 s516 (by decide)
  have e576 : n56 = G549 142 this 10 := rs_val r547 s521 e535 s509 (by decide)
  have e577 : (Ad E 0) = G549 159 n124 1 := rs_val r547 s521 e536 s517 (by decide)
  have e578 : n124 = G549 142 this 11 := rs_val r547 s521 e537 s509 (by decide)
  have e579 : n198 = G549 142 this 12 := rs_val r547 s521 e538 s509 (by decide)
  have e580 : n235 = G549 142 this 13 := rs_val r547 s521 e539 s509 (by decide)
  have e581 : n347 = G549 142 this 14 := rs_val r547 s521 e540 s509 (by decide)
  have g582 : Gr [93, 94, 95, 96, 97, 98, 99, 105, 106, 107, 108, 109, 110, 111, 112, 113, 114, 115, 116, 117, 118, 129, 130, 131, 132, 134, 143, 144, 145, 146, 148, 153, 154, 155, 156, 157, 158, 159] [(142, 4), (142, 5), (142, 6), (142, 7), (142, 8), (142, 9), (142, 10), (142, 11), (142, 12), (142, 13), (142, 14), (142, 15), (142, 16), (142, 17), (142, 18), (143, 0), (143, 1), (143, 3), (143, 4), (143, 5), (143, 6), (143, 7), (143, 8), (143, 9), (143, 10), (143, 11), (143, 12), (143, 13), (143, 14), (143, 17), (143, 18), (143, 19), (144, 1), (144, 2), (144, 3), (144, 4), (144, 5), (144, 6), (144, 7), (144, 8), (144, 9), (144, 10), (144, 11), (144, 12), (144, 13), (144, 14), (144, 15), (144, 16), (144, 17), (145, 1), (145, 2), (145, 3), (145, 12), (145, 15), (145, 16), (146, 5), (146, 6), (146, 7), (146, 8), (146, 9), (146, 10), (146, 11), (146, 13), (146, 14), (146, 15), (146, 16), (148, 1), (148, 3), (148, 4), (148, 5), (153, 0), (153, 1)] S G S548 G549 := gr_rs g541 r547 z469 rfl
  have u583 : UqL [159, 158, 129, 157, 156, 155, 154, 130] S548 := uq_rsN u542 r547 rfl
  have u584 : EmL E [159, 158, 157, 156, 155, 154] S548 G549 := em_rsN u544 r547 rfl
  have u585 : No [128, 131, 132, 136, 138] S548 := no_rs u543 r547 rfl
  refine r_putFN hX hP rfl rfl fq_X11_65_142 s551 (by decide) (Or.inr r547.1) (fun h586 => ?_)
  refine r_ex hX hP 1 (pc' := 139) (st' := [(2, this)]) (lo' := [(0, (2, this))]) rfl ?_
  have u587 : EmL E [159, 158, 157, 156, 155, 154] S548 (up G549 142 this 15 n465) := (em_up u584 rfl)
  have g588 : Gr [93, 94, 95, 96, 97, 98, 99, 105, 106, 107, 108, 109, 110, 111, 112, 113, 114, 115, 116, 117, 118, 129, 130, 131, 132, 134, 143, 144, 145, 146, 148, 153, 154, 155, 156, 157, 158, 159] [(142, 4), (142, 5), (142, 6), (142, 7), (142, 8), (142, 9), (142, 10), (142, 11), (142, 12), (142, 13), (142, 14), (142, 15), (142, 16), (142, 17), (142, 18), (143, 0), (143, 1), (143, 3), (143, 4), (143, 5), (143, 6), (143, 7), (143, 8), (143, 9), (143, 10), (143, 11), (143, 12), (143, 13), (143, 14), (143, 17), (143, 18), (143, 19), (144, 1), (144, 2), (144, 3), (144, 4), (144, 5), (144, 6), (144, 7), (144, 8), (144, 9), (144, 10), (144, 11), (144, 12), (144, 13), (144, 14), (144, 15), (144, 16), (144, 17), (145, 1), (145, 2), (145, 3), (145, 12), (145, 15), (145, 16), (146, 5), (146, 6), (146, 7), (146, 8), (146, 9), (146, 10), (146, 11), (146, 13), (146, 14), (146, 15), (146, 16), (148, 1), (148, 3), (148, 4), (148, 5), (153, 0), (153, 1)] S G S548 (up G549 142 this 15 n465) := (gr_up g582 rfl)
  refine r_newA hX hP rfl (L := 145) (N := 17) nw_X11_68_145 (by omega) (by omega) (fun n589 S590 G591 n589z n589n n589l g592 n589v => ?_)
  have z593 : S n589 = 0 := gr_zero g588 n589z
  have s594 : S590 this = 142 := gr_lab g592 s551 (by decide)
  have s595 : S590 n5 = 129 := gr_lab g592 s552 (by decide)
  have s596 : S590 af44 = 130 := gr_lab g592 s553 (by decide)
  have s597 : S590 if46 = 154 := gr_lab g592 s554 (by decide)
  have s598 : S590 tf48 = 155 := gr_lab g592 s555 (by decide)
  have s599 : S590 ef50 = 156 := gr_lab g592 s556 (by decide)
  have s600 : S590 pf52 = 157 := gr_lab g592 s557 (by decide)
  have s601 : S590 n56 = 158 := gr_lab g592 s558 (by decide)
  have s602 : S590 n124 = 159 := gr_lab g592 s559 (by decide)
  have s603 : S590 n198 = 94 := gr_lab g592 s560 (by decide)
  have s604 : S590 n235 = 134 := gr_lab g592 s561 (by decide)
  have s605 : S590 n347 = 134 := gr_lab g592 s562 (by decide)
  have s606 : S590 n465 = 134 := gr_lab g592 r547.1 (by decide)
  have e607 : 1 = G591 142 this 4 := gr_val g592 e563 s551 (by decide) rfl
  have e608 : n5 = G591 142 this 17 := gr_val g592 e564 s551 (by decide) rfl
  have e609 : af44 = G591 129 n5 9 := gr_val g592 e565 s552 (by decide) rfl
  have e610 : af44 = G591 142 this 5 := gr_val g592 e566 s551 (by decide) rfl
  have e611 : if46 = G591 129 n5 10 := gr_val g592 e567 s552 (by decide) rfl
  have e612 : if46 = G591 142 this 6 := gr_val g592 e568 s551 (by decide) rfl
  have e613 : tf48 = G591 129 n5 11 := gr_val g592 e569 s552 (by decide) rfl
  have e614 : tf48 = G591 142 this 7 := gr_val g592 e570 s551 (by decide) rfl
  have e615 : ef50 = G591 129 n5 12 := gr_val g592 e571 s552 (by decide) rfl
  have e616 : ef50 = G591 142 this 8 := gr_val g592 e572 s551 (by decide) rfl
  have e617 : pf52 = G591 129 n5 13 := gr_val g592 e573 s552 (by decide) rfl
  have e618 : pf52 = G591 142 this 9 := gr_val g592 e574 s551 (by decide) rfl
  have e619 : (Ad E 0) = G591 158 n56 1 := gr_val g592 e575 s558 (by decide) rfl
  have e620 : n56 = G591 142 this 10 := gr_val g592 e576 s551 (by decide) rfl
  have e621 : (Ad E 0) = G591 159 n124 1 := gr_val g592 e577 s559 (by decide) rfl
  have e622 : n124 = G591 142 this 11 := gr_val g592 e578 s551 (by decide) rfl
  have e623 : n198 = G591 142 this 12 := gr_val g592 e579 s551 (by decide) rfl
  have e624 : n235 = G591 142 this 13 := gr_val g592 e580 s551 (by decide) rfl
  have e625 : n347 = G591 142 this 14 := gr_val g592 e581 s551 (by decide) rfl
  have e626 : n465 = G591 142 this 15 := gr_val g592 h586 s551 (by decide) rfl
  have g627 : Gr [93, 94, 95, 96, 97, 98, 99, 105, 106, 107, 108, 109, 110, 111, 112, 113, 114, 115, 116, 117, 118, 129, 130, 131, 132, 134, 143, 144, 145, 146, 148, 153, 154, 155, 156, 157, 158, 159] [(142, 4), (142, 5), (142, 6), (142, 7), (142, 8), (142, 9), (142, 10), (142, 11), (142, 12), (142, 13), (142, 14), (142, 15), (142, 16), (142, 17), (142, 18), (143, 0), (143, 1), (143, 3), (143, 4), (143, 5), (143, 6), (143, 7), (143, 8), (143, 9), (143, 10), (143, 11), (143, 12), (143, 13), (143, 14), (143, 17), (143, 18), (143, 19), (144, 1), (144, 2), (144, 3), (144, 4), (144, 5), (144, 6), (144, 7), (144, 8), (144, 9), (144, 10), (144, 11), (144, 12), (144, 13), (144, 14), (144, 15), (144, 16), (144, 17), (145, 1), (145, 2), (145, 3), (145, 12), (145, 15), (145, 16), (146, 5), (146, 6), (146, 7), (146, 8), (146, 9), (146, 10), (146, 11), (146, 13), (146, 14), (146, 15), (146, 16), (148, 1), (148, 3), (148, 4), (148, 5), (153, 0), (153, 1)] S G S590 G591 := gr_call g588 g592 rfl rfl
  have u628 : UqL [159, 158, 129, 157, 156, 155, 154, 130] S590 := uq_gr u583 g592 rfl
  have u629 : No [128, 131, 132, 136, 138] S590 := no_gr (no_sub u585 rfl) g592 rfl
  have u630 : EmL E [159, 158, 157, 156, 155, 154] S590 G591 := em_gr u587 g592 rfl
  refine r_ex hX hP 1 (pc' := 143) (st' := [(2, n589), (2, n589), (2, this)]) (lo' := [(0, (2, this))]) rfl ?_
  refine r_callIN gd hX hP rfl cn_X11_70 n589n (d' := 3) (mc' := 4) (ms' := 409) (as' := []) (st := [(2, n589), (2, this)]) (by omega) (by omega) (by omega) rfl rfl (Nat.le_of_ble_eq_true rfl) (c_X6_init E S590 G591 n589  n589l) ?_
  rintro _ S631 G632 ⟨g633, rfl, hf634⟩
  have s635 : S631 this = 142 := gr_lab g633 s594 (by decide)
  have s636 : S631 n5 = 129 := gr_lab g633 s595 (by decide)
  have s637 : S631 af44 = 130 := gr_lab g633 s596 (by decide)
  have s638 : S631 if46 = 154 := gr_lab g633 s597 (by decide)
  have s639 : S631 tf48 = 155 := gr_lab g633 s598 (by decide)
  have s640 : S631 ef50 = 156 := gr_lab g633 s599 (by decide)
  have s641 : S631 pf52 = 157 := gr_lab g633 s600 (by decide)
  have s642 : S631 n56 = 158 := gr_lab g633 s601 (by decide)
  have s643 : S631 n124 = 159 := gr_lab g633 s602 (by decide)
  have s644 : S631 n198 = 94 := gr_lab g633 s603 (by decide)
  have s645 : S631 n235 = 134 := gr_lab g633 s604 (by decide)
  have s646 : S631 n347 = 134 := gr_lab g633 s605 (by decide)
  have s647 : S631 n465 = 134 := gr_lab g633 s606 (by decide)
  have s648 : S631 n589 = 145 := gr_lab g633 n589l (by decide)
  have e649 : 1 = G632 142 this 4 := gr_val g633 e607 s594 (by decide) rfl
  have e650 : n5 = G632 142 this 17 := gr_val g633 e608 s594 (by decide) rfl
  have e651 : af44 = G632 129 n5 9 := gr_val g633 e609 s595 (by decide) rfl
  have e652 : af44 = G632 142 this 5 := gr_val g633 e610 s594 (by decide) rfl
  have e653 : if46 = G632 129 n5 10 := gr_val g633 e611 s595 (by decide) rfl
  have e654 : if46 = G632 142 this 6 := gr_val g633 e612 s594 (by decide) rfl
  have e655 : tf48 = G632 129 n5 11 := gr_val g633 e613 s595 (by decide) rfl
  have e656 : tf48 = G632 142 this 7 := gr_val g633 e614 s594 (by decide) rfl
  have e657 : ef50 = G632 129 n5 12 := gr_val g633 e615 s595 (by decide) rfl
  have e658 : ef50 = G632 142 this 8 := gr_val g633 e616 s594 (by decide) rfl
  have e659 : pf52 = G632 129 n5 13 := gr_val g633 e617 s595 (by decide) rfl
  have e660 : pf52 = G632 142 this 9 := gr_val g633 e618 s594 (by decide) rfl
  have e661 : (Ad E 0) = G632 158 n56 1 := gr_val g633 e619 s601 (by decide) rfl
  have e662 : n56 = G632 142 this 10 := gr_val g633 e620 s594 (by decide) rfl
  have e663 : (Ad E 0) = G632 159 n124 1 := gr_val g633 e621 s602 (by decide) rfl
  have e664 : n124 = G632 142 this 11 := gr_val g633 e622 s594 (by decide) rfl
  have e665 : n198 = G632 142 this 12 := gr_val g633 e623 s594 (by decide) rfl
  have e666 : n235 = G632 142 this 13 := gr_val g633 e624 s594 (by decide) rfl
  have e667 : n347 = G632 142 this 14 := gr_val g633 e625 s594 (by decide) rfl
  have e668 : n465 = G632 142 this 15 := gr_val g633 e626 s594 (by decide) rfl
  have g669 : Gr [93, 94, 95, 96, 97, 98, 99, 105, 106, 107, 108, 109, 110, 111, 112, 113, 114, 115, 116, 117, 118, 129, 130, 131, 132, 134, 143, 144, 145, 146, 148, 153, 154, 155, 156, 157, 158, 159] [(142, 4), (142, 5), (142, 6), (142, 7), (142, 8), (142, 9), (142, 10), (142, 11), (142, 12), (142, 13), (142, 14), (142, 15), (142, 16), (142, 17), (142, 18), (143, 0), (143, 1), (143, 3), (143, 4), (143, 5), (143, 6), (143, 7), (143, 8), (143, 9), (143, 10), (143, 11), (143, 12), (143, 13), (143, 14), (143, 17), (143, 18), (143, 19), (144, 1), (144, 2), (144, 3), (144, 4), (144, 5), (144, 6), (144, 7), (144, 8), (144, 9), (144, 10), (144, 11), (144, 12), (144, 13), (144, 14), (144, 15), (144, 16), (144, 17), (145, 1), (145, 2), (145, 3), (145, 12), (145, 15), (145, 16), (146, 5), (146, 6), (146, 7), (146, 8), (146, 9), (146, 10), (146, 11), (146, 13), (146, 14), (146, 15), (146, 16), (148, 1), (148, 3), (148, 4), (148, 5), (153, 0), (153, 1)] S G S631 G632 := gr_call g627 g633 rfl rfl
  have u670 : UqL [159, 158, 129, 157, 156, 155, 154, 130] S631 := uq_gr u628 g633 rfl
  have u671 : No [128, 131, 132, 136, 138] S631 := no_gr (no_sub u629 rfl) g633 rfl
  have u672 : EmL E [159, 158, 157, 156, 155, 154] S631 G632 := em_gr u630 g633 rfl
  refine r_finA hX (L := 145) (ci := 7) (fs := fs_145) rfl s648 (by decide) (fun hr673 => ?_)
  refine r_relabF hX (L := 145) (L' := 131) (ci := 7) (fs := fs_145) (fs' := fs_131) rfl rfl rfl (by decide) (by decide) nf_145 (by decide) s648 hf634 (fun S676 G677 r675 => ?_)
  have s679 : S676 this = 142 := r675.lab s648 s635 (by decide)
  have s680 : S676 n5 = 129 := r675.lab s648 s636 (by decide)
  have s681 : S676 af44 = 130 := r675.lab s648 s637 (by decide)
  have s682 : S676 if46 = 154 := r675.lab s648 s638 (by decide)
  have s683 : S676 tf48 = 155 := r675.lab s648 s639 (by decide)
  have s684 : S676 ef50 = 156 := r675.lab s648 s640 (by decide)
  have s685 : S676 pf52 = 157 := r675.lab s648 s641 (by decide)
  have s686 : S676 n56 = 158 := r675.lab s648 s642 (by decide)
  have s687 : S676 n124 = 159 := r675.lab s648 s643 (by decide)
  have s688 : S676 n198 = 94 := r675.lab s648 s644 (by decide)
  have s689 : S676 n235 = 134 := r675.lab s648 s645 (by decide)
  have s690 : S676 n347 = 134 := r675.lab s648 s646 (by decide)
  have s691 : S676 n465 = 134 := r675.lab s648 s647 (by decide)
  have e692 : 1 = G677 142 this 4 := rs_val r675 s648 e649 s635 (by decide)
  have e693 : n5 = G677 142 this 17 := rs_val r675 s648 e650 s635 (by decide)
  have e694 : af44 = G677 129 n5 9 := rs_val r675 s648 e651 s636 (by decide)
  have e695 : af44 = G677 142 this 5 := rs_val r675 s648 e652 s635 (by decide)
  have e696 : if46 = G677 129 n5 10 := rs_val r675 s648 e653 s636 (by decide)
  have e697 : if46 = G677 142 this 6 := rs_val r675 s648 e654 s635 (by decide)
  have e698 : tf48 = G677 129 n5 11 := rs_val r675 s648 e655 s636 (by decide)
  have e699 : tf48 = G677 142 this 7 := rs_val r675 s648 e656 s635 (by decide)
  have e700 : ef50 = G677 129 n5 12 := rs_val r675 s648 e657 s636 (by decide)
  have e701 : ef50 = G677 142 this 8 := rs_val r675 s648 e658 s635 (by decide)
  have e702 : pf52 = G677 129 n5 13 := rs_val r675 s648 e659 s636 (by decide)
  have e703 : pf52 = G677 142 this 9 := rs_val r675 s648 e660 s635 (by decide)
  have e704 : (Ad E 0) = G677 158 n56 1 := rs_val r675 s648 e661 s642 (by decide)
  have e705 : n56 = G677 142 this 10 := rs_val r675 s648 e662 s635 (by decide)
  have e706 : (Ad E 0) = G677 159 n124 1 := rs_val r675 s648 e663 s643 (by decide)
  have e707 : n124 = G677 142 this 11 := rs_val r675 s648 e664 s635 (by decide)
  have e708 : n198 = G677 142 this 12 := rs_val r675 s648 e665 s635 (by decide)
  have e709 : n235 = G677 142 this 13 := rs_val r675 s648 e666 s635 (by decide)
  have e710 : n347 = G677 142 this 14 := rs_val r675 s648 e667 s635 (by decide)
  have e711 : n465 = G677 142 this 15 := rs_val r675 s648 e668 s635 (by decide)
  have g712 : Gr [93, 94, 95, 96, 97, 98, 99, 105, 106, 107, 108, 109, 110, 111, 112, 113, 114, 115, 116, 117, 118, 129, 130, 131, 132, 134, 143, 144, 145, 146, 148, 153, 154, 155, 156, 157, 158, 159] [(142, 4), (142, 5), (142, 6), (142, 7), (142, 8), (142, 9), (142, 10), (142, 11), (142, 12), (142, 13), (142, 14), (142, 15), (142, 16), (142, 17), (142, 18), (143, 0), (143, 1), (143, 3), (143, 4), (143, 5), (143, 6), (143, 7), (143, 8), (143, 9), (143, 10), (143, 11), (143, 12), (143, 13), (143, 14), (143, 17), (143, 18), (143, 19), (144, 1), (144, 2), (144, 3), (144, 4), (144, 5), (144, 6), (144, 7), (144, 8), (144, 9), (144, 10), (144, 11), (144, 12), (144, 13), (144, 14), (144, 15), (144, 16), (144, 17), (145, 1), (145, 2), (145, 3), (145, 12), (145, 15), (145, 16), (146, 5), (146, 6), (146, 7), (146, 8), (146, 9), (146, 10), (146, 11), (146, 13), (146, 14), (146, 15), (146, 16), (148, 1), (148, 3), (148, 4), (148, 5), (153, 0), (153, 1)] S G S676 G677 := gr_rs g669 r675 z593 rfl
  have u713 : UqL [131, 159, 158, 129, 157, 156, 155, 154, 130] S676 := uq_rs u670 (no_sub u671 rfl) r675 rfl
  have u714 : EmL E [159, 158, 157, 156, 155, 154] S676 G677 := em_rsN u672 r675 rfl
  have u715 : No [128, 132, 136, 138] S676 := no_rs u671 r675 rfl
  refine r_putFN hX hP rfl rfl fq_X11_71_142 s679 (by decide) (Or.inr r675.1) (fun h716 => ?_)
  refine r_ex hX hP 1 (pc' := 150) (st' := [(2, this)]) (lo' := [(0, (2, this))]) rfl ?_
  have u717 : EmL E [159, 158, 157, 156, 155, 154] S676 (up G677 142 this 16 n589) := (em_up u714 rfl)
  have g718 : Gr [93, 94, 95, 96, 97, 98, 99, 105, 106, 107, 108, 109, 110, 111, 112, 113, 114, 115, 116, 117, 118, 129, 130, 131, 132, 134, 143, 144, 145, 146, 148, 153, 154, 155, 156, 157, 158, 159] [(142, 4), (142, 5), (142, 6), (142, 7), (142, 8), (142, 9), (142, 10), (142, 11), (142, 12), (142, 13), (142, 14), (142, 15), (142, 16), (142, 17), (142, 18), (143, 0), (143, 1), (143, 3), (143, 4), (143, 5), (143, 6), (143, 7), (143, 8), (143, 9), (143, 10), (143, 11), (143, 12), (143, 13), (143, 14), (143, 17), (143, 18), (143, 19), (144, 1), (144, 2), (144, 3), (144, 4), (144, 5), (144, 6), (144, 7), (144, 8), (144, 9), (144, 10), (144, 11), (144, 12), (144, 13), (144, 14), (144, 15), (144, 16), (144, 17), (145, 1), (145, 2), (145, 3), (145, 12), (145, 15), (145, 16), (146, 5), (146, 6), (146, 7), (146, 8), (146, 9), (146, 10), (146, 11), (146, 13), (146, 14), (146, 15), (146, 16), (148, 1), (148, 3), (148, 4), (148, 5), (153, 0), (153, 1)] S G S676 (up G677 142 this 16 n589) := (gr_up g712 rfl)
  refine r_newA hX hP rfl (L := 146) (N := 17) nw_X11_75_146 (by omega) (by omega) (fun n719 S720 G721 n719z n719n n719l g722 n719v => ?_)
  have z723 : S n719 = 0 := gr_zero g718 n719z
  have s724 : S720 this = 142 := gr_lab g722 s679 (by decide)
  have s725 : S720 n5 = 129 := gr_lab g722 s680 (by decide)
  have s726 : S720 af44 = 130 := gr_lab g722 s681 (by decide)
  have s727 : S720 if46 = 154 := gr_lab g722 s682 (by decide)
  have s728 : S720 tf48 = 155 := gr_lab g722 s683 (by decide)
  have s729 : S720 ef50 = 156 := gr_lab g722 s684 (by decide)
  have s730 : S720 pf52 = 157 := gr_lab g722 s685 (by decide)
  have s731 : S720 n56 = 158 := gr_lab g722 s686 (by decide)
  have s732 : S720 n124 = 159 := gr_lab g722 s687 (by decide)
  have s733 : S720 n198 = 94 := gr_lab g722 s688 (by decide)
  have s734 : S720 n235 = 134 := gr_lab g722 s689 (by decide)
  have s735 : S720 n347 = 134 := gr_lab g722 s690 (by decide)
  have s736 : S720 n465 = 134 := gr_lab g722 s691 (by decide)
  have s737 : S720 n589 = 131 := gr_lab g722 r675.1 (by decide)
  have e738 : 1 = G721 142 this 4 := gr_val g722 e692 s679 (by decide) rfl
  have e739 : n5 = G721 142 this 17 := gr_val g722 e693 s679 (by decide) rfl
  have e740 : af44 = G721 129 n5 9 := gr_val g722 e694 s680 (by decide) rfl
  have e741 : af44 = G721 142 this 5 := gr_val g722 e695 s679 (by decide) rfl
  have e742 : if46 = G721 129 n5 10 := gr_val g722 e696 s680 (by decide) rfl
  have e743 : if46 = G721 142 this 6 := gr_val g722 e697 s679 (by decide) rfl
  have e744 : tf48 = G721 129 n5 11 := gr_val g722 e698 s680 (by decide) rfl
  have e745 : tf48 = G721 142 this 7 := gr_val g722 e699 s679 (by decide) rfl
  have e746 : ef50 = G721 129 n5 12 := gr_val g722 e700 s680 (by decide) rfl
  have e747 : ef50 = G721 142 this 8 := gr_val g722 e701 s679 (by decide) rfl
  have e748 : pf52 = G721 129 n5 13 := gr_val g722 e702 s680 (by decide) rfl
  have e749 : pf52 = G721 142 this 9 := gr_val g722 e703 s679 (by decide) rfl
  have e750 : (Ad E 0) = G721 158 n56 1 := gr_val g722 e704 s686 (by decide) rfl
  have e751 : n56 = G721 142 this 10 := gr_val g722 e705 s679 (by decide) rfl
  have e752 : (Ad E 0) = G721 159 n124 1 := gr_val g722 e706 s687 (by decide) rfl
  have e753 : n124 = G721 142 this 11 := gr_val g722 e707 s679 (by decide) rfl
  have e754 : n198 = G721 142 this 12 := gr_val g722 e708 s679 (by decide) rfl
  have e755 : n235 = G721 142 this 13 := gr_val g722 e709 s679 (by decide) rfl
  have e756 : n347 = G721 142 this 14 := gr_val g722 e710 s679 (by decide) rfl
  have e757 : n465 = G721 142 this 15 := gr_val g722 e711 s679 (by decide) rfl
  have e758 : n589 = G721 142 this 16 := gr_val g722 h716 s679 (by decide) rfl
  have g759 : Gr [93, 94, 95, 96, 97, 98, 99, 105, 106, 107, 108, 109, 110, 111, 112, 113, 114, 115, 116, 117, 118, 129, 130, 131, 132, 134, 143, 144, 145, 146, 148, 153, 154, 155, 156, 157, 158, 159] [(142, 4), (142, 5), (142, 6), (142, 7), (142, 8), (142, 9), (142, 10), (142, 11), (142, 12), (142, 13), (142, 14), (142, 15), (142, 16), (142, 17), (142, 18), (143, 0), (143, 1), (143, 3), (143, 4), (143, 5), (143, 6), (143, 7), (143, 8), (143, 9), (143, 10), (143, 11), (143, 12), (143, 13), (143, 14), (143, 17), (143, 18), (143, 19), (144, 1), (144, 2), (144, 3), (144, 4), (144, 5), (144, 6), (144, 7), (144, 8), (144, 9), (144, 10), (144, 11), (144, 12), (144, 13), (144, 14), (144, 15), (144, 16), (144, 17), (145, 1), (145, 2), (145, 3), (145, 12), (145, 15), (145, 16), (146, 5), (146, 6), (146, 7), (146, 8), (146, 9), (146, 10), (146, 11), (146, 13), (146, 14), (146, 15), (146, 16), (148, 1), (148, 3), (148, 4), (148, 5), (153, 0), (153, 1)] S G S720 G721 := gr_call g718 g722 rfl rfl
  have u760 : UqL [131, 159, 158, 129, 157, 156, 155, 154, 130] S720 := uq_gr u713 g722 rfl
  have u761 : No [128, 132, 136, 138] S720 := no_gr (no_sub u715 rfl) g722 rfl
  have u762 : EmL E [159, 158, 157, 156, 155, 154] S720 G721 := em_gr u717 g722 rfl
  refine r_ex hX hP 1 (pc' := 154) (st' := [(2, n719), (2, n719), (2, this)]) (lo' := [(0, (2, this))]) rfl ?_
  refine r_callIN gd hX hP rfl cn_X11_77 n719n (d' := 3) (mc' := 11) (ms' := 136) (as' := []) (st := [(2, n719), (2, this)]) (by omega) (by omega) (by omega) rfl rfl (Nat.le_of_ble_eq_true rfl) (c_X7_init E S720 G721 n719  n719l) ?_
  rintro _ S763 G764 ⟨g765, rfl, hf766⟩
  have s767 : S763 this = 142 := gr_lab g765 s724 (by decide)
  have s768 : S763 n5 = 129 := gr_lab g765 s725 (by decide)
  have s769 : S763 af44 = 130 := gr_lab g765 s726 (by decide)
  have s770 : S763 if46 = 154 := gr_lab g765 s727 (by decide)
  have s771 : S763 tf48 = 155 := gr_lab g765 s728 (by decide)
  have s772 : S763 ef50 = 156 := gr_lab g765 s729 (by decide)
  have s773 : S763 pf52 = 157 := gr_lab g765 s730 (by decide)
  have s774 : S763 n56 = 158 := gr_lab g765 s731 (by decide)
  have s775 : S763 n124 = 159 := gr_lab g765 s732 (by decide)
  have s776 : S763 n198 = 94 := gr_lab g765 s733 (by decide)
  have s777 : S763 n235 = 134 := gr_lab g765 s734 (by decide)
  have s778 : S763 n347 = 134 := gr_lab g765 s735 (by decide)
  have s779 : S763 n465 = 134 := gr_lab g765 s736 (by decide)
  have s780 : S763 n589 = 131 := gr_lab g765 s737 (by decide)
  have s781 : S763 n719 = 146 := gr_lab g765 n719l (by decide)
  have e782 : 1 = G764 142 this 4 := gr_val g765 e738 s724 (by decide) rfl
  have e783 : n5 = G764 142 this 17 := gr_val g765 e739 s724 (by decide) rfl
  have e784 : af44 = G764 129 n5 9 := gr_val g765 e740 s725 (by decide) rfl
  have e785 : af44 = G764 142 this 5 := gr_val g765 e741 s724 (by decide) rfl
  have e786 : if46 = G764 129 n5 10 := gr_val g765 e742 s725 (by decide) rfl
  have e787 : if46 = G764 142 this 6 := gr_val g765 e743 s724 (by decide) rfl
  have e788 : tf48 = G764 129 n5 11 := gr_val g765 e744 s725 (by decide) rfl
  have e789 : tf48 = G764 142 this 7 := gr_val g765 e745 s724 (by decide) rfl
  have e790 : ef50 = G764 129 n5 12 := gr_val g765 e746 s725 (by decide) rfl
  have e791 : ef50 = G764 142 this 8 := gr_val g765 e747 s724 (by decide) rfl
  have e792 : pf52 = G764 129 n5 13 := gr_val g765 e748 s725 (by decide) rfl
  have e793 : pf52 = G764 142 this 9 := gr_val g765 e749 s724 (by decide) rfl
  have e794 : (Ad E 0) = G764 158 n56 1 := gr_val g765 e750 s731 (by decide) rfl
  have e795 : n56 = G764 142 this 10 := gr_val g765 e751 s724 (by decide) rfl
  have e796 : (Ad E 0) = G764 159 n124 1 := gr_val g765 e752 s732 (by decide) rfl
  have e797 : n124 = G764 142 this 11 := gr_val g765 e753 s724 (by decide) rfl
  have e798 : n198 = G764 142 this 12 := gr_val g765 e754 s724 (by decide) rfl
  have e799 : n235 = G764 142 this 13 := gr_val g765 e755 s724 (by decide) rfl
  have e800 : n347 = G764 142 this 14 := gr_val g765 e756 s724 (by decide) rfl
  have e801 : n465 = G764 142 this 15 := gr_val g765 e757 s724 (by decide) rfl
  have e802 : n589 = G764 142 this 16 := gr_val g765 e758 s724 (by decide) rfl
  have g803 : Gr [93, 94, 95, 96, 97, 98, 99, 105, 106, 107, 108, 109, 110, 111, 112, 113, 114, 115, 116, 117, 118, 129, 130, 131, 132, 134, 143, 144, 145, 146, 148, 153, 154, 155, 156, 157, 158, 159] [(142, 4), (142, 5), (142, 6), (142, 7), (142, 8), (142, 9), (142, 10), (142, 11), (142, 12), (142, 13), (142, 14), (142, 15), (142, 16), (142, 17), (142, 18), (143, 0), (143, 1), (143, 3), (143, 4), (143, 5), (143, 6), (143, 7), (143, 8), (143, 9), (143, 10), (143, 11), (143, 12), (143, 13), (143, 14), (143, 17), (143, 18), (143, 19), (144, 1), (144, 2), (144, 3), (144, 4), (144, 5), (144, 6), (144, 7), (144, 8), (144, 9), (144, 10), (144, 11), (144, 12), (144, 13), (144, 14), (144, 15), (144, 16), (144, 17), (145, 1), (145, 2), (145, 3), (145, 12), (145, 15), (145, 16), (146, 5), (146, 6), (146, 7), (146, 8), (146, 9), (146, 10), (146, 11), (146, 13), (146, 14), (146, 15), (146, 16), (148, 1), (148, 3), (148, 4), (148, 5), (153, 0), (153, 1)] S G S763 G764 := gr_call g759 g765 rfl rfl
  have u804 : UqL [131, 159, 158, 129, 157, 156, 155, 154, 130] S763 := uq_gr u760 g765 rfl
  have u805 : No [128, 132, 136, 138] S763 := no_gr (no_sub u761 rfl) g765 rfl
  have u806 : EmL E [159, 158, 157, 156, 155, 154] S763 G764 := em_gr u762 g765 rfl
  refine r_finA hX (L := 146) (ci := 8) (fs := fs_146) rfl s781 (by decide) (fun hr807 => ?_)
  refine r_relabF hX (L := 146) (L' := 132) (ci := 8) (fs := fs_146) (fs' := fs_132) rfl rfl rfl (by decide) (by decide) nf_146 (by decide) s781 hf766 (fun S810 G811 r809 => ?_)
  have s813 : S810 this = 142 := r809.lab s781 s767 (by decide)
  have s814 : S810 n5 = 129 := r809.lab s781 s768 (by decide)
  have s815 : S810 af44 = 130 := r809.lab s781 s769 (by decide)
  have s816 : S810 if46 = 154 := r809.lab s781 s770 (by decide)
  have s817 : S810 tf48 = 155 := r809.lab s781 s771 (by decide)
  have s818 : S810 ef50 = 156 := r809.lab s781 s772 (by decide)
  have s819 : S810 pf52 = 157 := r809.lab s781 s773 (by decide)
  have s820 : S810 n56 = 158 := r809.lab s781 s774 (by decide)
  have s821 : S810 n124 = 159 := r809.lab s781 s775 (by decide)
  have s822 : S810 n198 = 94 := r809.lab s781 s776 (by decide)
  have s823 : S810 n235 = 134 := r809.lab s781 s777 (by decide)
  have s824 : S810 n347 = 134 := r809.lab s781 s778 (by decide)
  have s825 : S810 n465 = 134 := r809.lab s781 s779 (by decide)
  have s826 : S810 n589 = 131 := r809.lab s781 s780 (by decide)
  have e827 : 1 = G811 142 this 4 := rs_val r809 s781 e782 s767 (by decide)
  have e828 : n5 = G811 142 this 17 := rs_val r809 s781 e783 s767 (by decide)
  have e829 : af44 = G811 129 n5 9 := rs_val r809 s781 e784 s768 (by decide)
  have e830 : af44 = G811 142 this 5 := rs_val r809 s781 e785 s767 (by decide)
  have e831 : if46 = G811 129 n5 10 := rs_val r809 s781 e786 s768 (by decide)
  have e832 : if46 = G811 142 this 6 := rs_val r809 s781 e787 s767 (by decide)
  have e833 : tf48 = G811 129 n5 11 := rs_val r809 s781 e788 s768 (by decide)
  have e834 : tf48 = G811 142 this 7 := rs_val r809 s781 e789 s767 (by decide)
  have e835 : ef50 = G811 129 n5 12 := rs_val r809 s781 e790 s768 (by decide)
  have e836 : ef50 = G811 142 this 8 := rs_val r809 s781 e791 s767 (by decide)
  have e837 : pf52 = G811 129 n5 13 := rs_val r809 s781 e792 s768 (by decide)
  have e838 : pf52 = G811 142 this 9 := rs_val r809 s781 e793 s767 (by decide)
  have e839 : (Ad E 0) = G811 158 n56 1 := rs_val r809 s781 e794 s774 (by decide)
  have e840 : n56 = G811 142 this 10 := rs_val r809 s781 e795 s767 (by decide)
  have e841 : (Ad E 0) = G811 159 n124 1 := rs_val r809 s781 e796 s775 (by decide)
  have e842 : n124 = G811 142 this 11 := rs_val r809 s781 e797 s767 (by decide)
  have e843 : n198 = G811 142 this 12 := rs_val r809 s781 e798 s767 (by decide)
  have e844 : n235 = G811 142 this 13 := rs_val r809 s781 e799 s767 (by decide)
  have e845 : n347 = G811 142 this 14 := rs_val r809 s781 e800 s767 (by decide)
  have e846 : n465 = G811 142 this 15 := rs_val r809 s781 e801 s767 (by decide)
  have e847 : n589 = G811 142 this 16 := rs_val r809 s781 e802 s767 (by decide)
  have g848 : Gr [93, 94, 95, 96, 97, 98, 99, 105, 106, 107, 108, 109, 110, 111, 112, 113, 114, 115, 116, 117, 118, 129, 130, 131, 132, 134, 143, 144, 145, 146, 148, 153, 154, 155, 156, 157, 158, 159] [(142, 4), (142, 5), (142, 6), (142, 7), (142, 8), (142, 9), (142, 10), (142, 11), (142, 12), (142, 13), (142, 14), (142, 15), (142, 16), (142, 17), (142, 18), (143, 0), (143, 1), (143, 3), (143, 4), (143, 5), (143, 6), (143, 7), (143, 8), (143, 9), (143, 10), (143, 11), (143, 12), (143, 13), (143, 14), (143, 17), (143, 18), (143, 19), (144, 1), (144, 2), (144, 3), (144, 4), (144, 5), (144, 6), (144, 7), (144, 8), (144, 9), (144, 10), (144, 11), (144, 12), (144, 13), (144, 14), (144, 15), (144, 16), (144, 17), (145, 1), (145, 2), (145, 3), (145, 12), (145, 15), (145, 16), (146, 5), (146, 6), (146, 7), (146, 8), (146, 9), (146, 10), (146, 11), (146, 13), (146, 14), (146, 15), (146, 16), (148, 1), (148, 3), (148, 4), (148, 5), (153, 0), (153, 1)] S G S810 G811 := gr_rs g803 r809 z723 rfl
  have u849 : UqL [132, 131, 159, 158, 129, 157, 156, 155, 154, 130] S810 := uq_rs u804 (no_sub u805 rfl) r809 rfl
  have u850 : EmL E [159, 158, 157, 156, 155, 154] S810 G811 := em_rsN u806 r809 rfl
  have u851 : No [128, 136, 138] S810 := no_rs u805 r809 rfl
  refine r_putFN hX hP rfl rfl fq_X11_78_142 s813 (by decide) (Or.inr r809.1) (fun h852 => ?_)
  refine r_finA hX (L := 142) (ci := 11) (fs := fs_142) rfl s813 (by decide) (fun hr853 => ?_)
  have hf854 : Fnl E fs_128 142 S810 (up G811 142 this 18 n719) this := by
    intro j hj
    rcases (by have : j < 20 := hj; omega : j = 0 ∨ j = 1 ∨ j = 2 ∨ j = 3 ∨ j = 4 ∨ j = 5 ∨ j = 6 ∨ j = 7 ∨ j = 8 ∨ j = 9 ∨ j = 10 ∨ j = 11 ∨ j = 12 ∨ j = 13 ∨ j = 14 ∨ j = 15 ∨ j = 16 ∨ j = 17 ∨ j = 18 ∨ j = 19) with rfl | rfl | rfl | rfl | rfl | rfl | rfl | rfl | rfl | rfl | rfl | rfl | rfl | rfl | rfl | rfl | rfl | rfl | rfl | rfl
    · exact hr853 0 (by decide)
    · exact hr853 1 (by decide)
    · exact hr853 2 (by decide)
    · exact hr853 3 (by decide)
    · exact hr853 4 (by decide)
    · exact ⟨lab_of e830 s815, by decide⟩
    · exact ⟨lab_of e832 s816, by decide⟩
    · exact ⟨lab_of e834 s817, by decide⟩
    · exact ⟨lab_of e836 s818, by decide⟩
    · exact ⟨lab_of e838 s819, by decide⟩
    · exact ⟨lab_of e840 s820, by decide⟩
    · exact ⟨lab_of e842 s821, by decide⟩
    · exact ⟨lab_of e843 s822, by decide⟩
    · exact ⟨lab_of e844 s823, by decide⟩
    · exact ⟨lab_of e845 s824, by decide⟩
    · exact ⟨lab_of e846 s825, by decide⟩
    · exact ⟨lab_of e847 s826, by decide⟩
    · exact ⟨lab_of e828 s814, by decide⟩
    · exact ⟨lab_of h852 r809.1, by decide⟩
    · exact hr853 19 (by decide)
  have u855 : EmL E [159, 158, 157, 156, 155, 154] S810 (up G811 142 this 18 n719) := (em_up u850 rfl)
  have g856 : Gr [93, 94, 95, 96, 97, 98, 99, 105, 106, 107, 108, 109, 110, 111, 112, 113, 114, 115, 116, 117, 118, 129, 130, 131, 132, 134, 143, 144, 145, 146, 148, 153, 154, 155, 156, 157, 158, 159] [(142, 4), (142, 5), (142, 6), (142, 7), (142, 8), (142, 9), (142, 10), (142, 11), (142, 12), (142, 13), (142, 14), (142, 15), (142, 16), (142, 17), (142, 18), (143, 0), (143, 1), (143, 3), (143, 4), (143, 5), (143, 6), (143, 7), (143, 8), (143, 9), (143, 10), (143, 11), (143, 12), (143, 13), (143, 14), (143, 17), (143, 18), (143, 19), (144, 1), (144, 2), (144, 3), (144, 4), (144, 5), (144, 6), (144, 7), (144, 8), (144, 9), (144, 10), (144, 11), (144, 12), (144, 13), (144, 14), (144, 15), (144, 16), (144, 17), (145, 1), (145, 2), (145, 3), (145, 12), (145, 15), (145, 16), (146, 5), (146, 6), (146, 7), (146, 8), (146, 9), (146, 10), (146, 11), (146, 13), (146, 14), (146, 15), (146, 16), (148, 1), (148, 3), (148, 4), (148, 5), (153, 0), (153, 1)] S G S810 (up G811 142 this 18 n719) := (gr_up g848 rfl)
  exact r_retV hX hP rfl rfl (by omega) (by omega) ⟨g856, rfl, u849, u855, (no_sub u851 rfl), hf854⟩
