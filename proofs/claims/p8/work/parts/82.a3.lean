theorem fl_X8_10_143 : Fl RX8 10 143 0 (0, 0, 40000) := ⟨9, 20, fs_143, RX8, TX8, rfl, rfl, by decide, rfl, by decide, rfl, cf_X8, (tbg sg1 151 rfl rfl)⟩
theorem fp_X8_10_143 : Fp RX8 10 143 0 (0, 0, 40000) := ⟨fl_X8_10_143, 9, 20, fs_143, RX8, TX8, .int, rfl, rfl, rfl, by decide +kernel, fun E S x h => ⟨rfl, rfl⟩⟩
theorem fl_X8_16_143 : Fl RX8 16 143 1 (0, 0, 1) := ⟨9, 20, fs_143, RX8, TX8, rfl, rfl, by decide, rfl, by decide, rfl, cf_X8, (tbg sg1 153 rfl rfl)⟩
theorem fp_X8_16_143 : Fp RX8 16 143 1 (0, 0, 1) := ⟨fl_X8_16_143, 9, 20, fs_143, RX8, TX8, .boolean, rfl, rfl, rfl, by decide +kernel, fun E S x h => zfit h⟩
theorem fl_X8_22_143 : Fl RX8 22 143 3 (3, 114, 0) := ⟨9, 20, fs_143, RX8, TX8, rfl, rfl, by decide, rfl, by decide, rfl, cf_X8, (tbg sg1 157 rfl rfl)⟩
theorem fq_X8_22_143 : Fpf RX8 22 143 3 (3, 114, 0) := ⟨fl_X8_22_143, 9, 20, fs_143, RX8, TX8, (.array (.array (.long))), rfl, rfl, rfl, rfl, by decide +kernel, fun E S x h => reffit (fun _ => rfl) ⟨rfl, fun _ => rfl⟩ (by decide) x⟩
theorem fl_X8_25_143 : Fl RX8 25 143 4 (3, 114, 0) := ⟨9, 20, fs_143, RX8, TX8, rfl, rfl, by decide, rfl, by decide, rfl, cf_X8, (tbg sg1 160 rfl rfl)⟩
theorem fq_X8_25_143 : Fpf RX8 25 143 4 (3, 114, 0) := ⟨fl_X8_25_143, 9, 20, fs_143, RX8, TX8, (.array (.array (.long))), rfl, rfl, rfl, rfl, by decide +kernel, fun E S x h => reffit (fun _ => rfl) ⟨rfl, fun _ => rfl⟩ (by decide) x⟩
theorem fl_X8_28_143 : Fl RX8 28 143 5 (3, 95, 0) := ⟨9, 20, fs_143, RX8, TX8, rfl, rfl, by decide, rfl, by decide, rfl, cf_X8, (tbg sg1 162 rfl rfl)⟩
theorem fq_X8_28_143 : Fpf RX8 28 143 5 (3, 95, 0) := ⟨fl_X8_28_143, 9, 20, fs_143, RX8, TX8, (.array (.long)), rfl, rfl, rfl, rfl, by decide +kernel, fun E S x h => reffit (fun _ => rfl) ⟨rfl, fun _ => rfl⟩ (by decide) x⟩
theorem fl_X8_32_143 : Fl RX8 32 143 6 (3, 95, 0) := ⟨9, 20, fs_143, RX8, TX8, rfl, rfl, by decide, rfl, by decide, rfl, cf_X8, (tbg sg1 164 rfl rfl)⟩
theorem fq_X8_32_143 : Fpf RX8 32 143 6 (3, 95, 0) := ⟨fl_X8_32_143, 9, 20, fs_143, RX8, TX8, (.array (.long)), rfl, rfl, rfl, rfl, by decide +kernel, fun E S x h => reffit (fun _ => rfl) ⟨rfl, fun _ => rfl⟩ (by decide) x⟩
theorem fl_X8_35_143 : Fl RX8 35 143 7 (3, 115, 0) := ⟨9, 20, fs_143, RX8, TX8, rfl, rfl, by decide, rfl, by decide, rfl, cf_X8, (tbg sg1 166 rfl rfl)⟩
theorem fq_X8_35_143 : Fpf RX8 35 143 7 (3, 115, 0) := ⟨fl_X8_35_143, 9, 20, fs_143, RX8, TX8, (.array (.int)), rfl, rfl, rfl, rfl, by decide +kernel, fun E S x h => reffit (fun _ => rfl) ⟨rfl, fun _ => rfl⟩ (by decide) x⟩
theorem fl_X8_39_143 : Fl RX8 39 143 8 (3, 117, 0) := ⟨9, 20, fs_143, RX8, TX8, rfl, rfl, by decide, rfl, by decide, rfl, cf_X8, (tbg sg1 169 rfl rfl)⟩
theorem fq_X8_39_143 : Fpf RX8 39 143 8 (3, 117, 0) := ⟨fl_X8_39_143, 9, 20, fs_143, RX8, TX8, (.array (.array (.long))), rfl, rfl, rfl, rfl, by decide +kernel, fun E S x h => reffit (fun _ => rfl) ⟨rfl, fun _ => rfl⟩ (by decide) x⟩
theorem nw_X8_42_144 : Nw RX8 42 144 18 := ⟨1, fs_144, RX0, TX0, tyX0, rfl, rfl, by decide, rfl, tbs [232, 234, 236, 238, 240, 242, 244, 246, 248, 250, 252, 254, 256, 258, 260, 262, 264, 266] (by decide +kernel), tyX0_ok, (tbg sg1 44 rfl rfl), (tbg sg1 45 rfl rfl), (tbg sg1 3 rfl rfl), by decide⟩
theorem co_X0_init : Co mX0_init 0 := ⟨(tbg sg1 48 rfl rfl), (tbg sg1 3 rfl rfl), by decide, by decide, by decide +kernel, by decide⟩
theorem cn_X8_44 : CiN RX8 44 mX0_init 0 := ⟨co_X0_init, ⟨"ShareLife", (List.mem_filter.mpr ⟨sg1 _ (List.mem_of_getElem? (i := 46) rfl), rfl⟩)⟩, rfl, (tbg sg1 47 rfl rfl), rfl⟩
theorem nf_144 : norf 144 = true := by decide +kernel
theorem fl_X8_45_143 : Fl RX8 45 143 9 (3, 130, 0) := ⟨9, 20, fs_143, RX8, TX8, rfl, rfl, by decide, rfl, by decide, rfl, cf_X8, (tbg sg1 172 rfl rfl)⟩
theorem fq_X8_45_143 : Fpf RX8 45 143 9 (3, 130, 0) := ⟨fl_X8_45_143, 9, 20, fs_143, RX8, TX8, (.object "ShareLife$Accounts"), rfl, rfl, rfl, rfl, by decide +kernel, fun E S x h => reffit (fun _ => rfl) ⟨rfl, fun _ => rfl⟩ (by decide) x⟩
theorem nw_X8_49_153 : Nw RX8 49 153 3 := ⟨0, fs_153, RJx4a65c, TJx4a65c, tyJx4a65c, rfl, rfl, by decide, rfl, tbs [294, 290, 292] (by decide +kernel), tyJx4a65c_ok, (tbg sg1 125 rfl rfl), (tbg sg1 126 rfl rfl), (tbg sg1 6 rfl rfl), by decide⟩
theorem co_Jx4a65c_init_da8c8 : Co mJx4a65c_init_da8c8 0 := ⟨(tbg sg1 129 rfl rfl), (tbg sg1 6 rfl rfl), by decide, by decide, by decide +kernel, by decide⟩
theorem ci_X8_51 : Ci RX8 51 mJx4a65c_init_da8c8 0 := ⟨co_Jx4a65c_init_da8c8, (tbg sg1 127 rfl rfl), rfl, (tbg sg1 128 rfl rfl), rfl⟩
theorem nf_153 : norf 153 = true := by decide +kernel
theorem fl_X8_52_143 : Fl RX8 52 143 10 (3, 154, 0) := ⟨9, 20, fs_143, RX8, TX8, rfl, rfl, by decide, rfl, by decide, rfl, cf_X8, (tbg sg1 174 rfl rfl)⟩
theorem fq_X8_52_143 : Fpf RX8 52 143 10 (3, 154, 0) := ⟨fl_X8_52_143, 9, 20, fs_143, RX8, TX8, (.object "java/util/ArrayList"), rfl, rfl, rfl, rfl, by decide +kernel, fun E S x h => reffit (fun _ => rfl) ⟨rfl, fun _ => rfl⟩ (by decide) x⟩
theorem fl_X8_56_143 : Fl RX8 56 143 11 (3, 155, 0) := ⟨9, 20, fs_143, RX8, TX8, rfl, rfl, by decide, rfl, by decide, rfl, cf_X8, (tbg sg1 177 rfl rfl)⟩
theorem fq_X8_56_143 : Fpf RX8 56 143 11 (3, 155, 0) := ⟨fl_X8_56_143, 9, 20, fs_143, RX8, TX8, (.object "java/util/ArrayList"), rfl, rfl, rfl, rfl, by decide +kernel, fun E S x h => reffit (fun _ => rfl) ⟨rfl, fun _ => rfl⟩ (by decide) x⟩
theorem fl_X8_59_143 : Fl RX8 59 143 12 (3, 156, 0) := ⟨9, 20, fs_143, RX8, TX8, rfl, rfl, by decide, rfl, by decide, rfl, cf_X8, (tbg sg1 180 rfl rfl)⟩
theorem fq_X8_59_143 : Fpf RX8 59 143 12 (3, 156, 0) := ⟨fl_X8_59_143, 9, 20, fs_143, RX8, TX8, (.object "java/util/ArrayList"), rfl, rfl, rfl, rfl, by decide +kernel, fun E S x h => reffit (fun _ => rfl) ⟨rfl, fun _ => rfl⟩ (by decide) x⟩
theorem fl_X8_62_143 : Fl RX8 62 143 13 (3, 157, 0) := ⟨9, 20, fs_143, RX8, TX8, rfl, rfl, by decide, rfl, by decide, rfl, cf_X8, (tbg sg1 183 rfl rfl)⟩
theorem fq_X8_62_143 : Fpf RX8 62 143 13 (3, 157, 0) := ⟨fl_X8_62_143, 9, 20, fs_143, RX8, TX8, (.object "java/util/ArrayList"), rfl, rfl, rfl, rfl, by decide +kernel, fun E S x h => reffit (fun _ => rfl) ⟨rfl, fun _ => rfl⟩ (by decide) x⟩
theorem fl_X8_65_143 : Fl RX8 65 143 14 (3, 118, 0) := ⟨9, 20, fs_143, RX8, TX8, rfl, rfl, by decide, rfl, by decide, rfl, cf_X8, (tbg sg1 184 rfl rfl)⟩
theorem fq_X8_65_143 : Fpf RX8 65 143 14 (3, 118, 0) := ⟨fl_X8_65_143, 9, 20, fs_143, RX8, TX8, (.array (.int)), rfl, rfl, rfl, rfl, by decide +kernel, fun E S x h => reffit (fun _ => rfl) ⟨rfl, fun _ => rfl⟩ (by decide) x⟩
theorem fl_X8_68_143 : Fl RX8 68 143 17 (3, 95, 0) := ⟨9, 20, fs_143, RX8, TX8, rfl, rfl, by decide, rfl, by decide, rfl, cf_X8, (tbg sg1 190 rfl rfl)⟩
theorem fq_X8_68_143 : Fpf RX8 68 143 17 (3, 95, 0) := ⟨fl_X8_68_143, 9, 20, fs_143, RX8, TX8, (.array (.long)), rfl, rfl, rfl, rfl, by decide +kernel, fun E S x h => reffit (fun _ => rfl) ⟨rfl, fun _ => rfl⟩ (by decide) x⟩
theorem fl_X8_71_143 : Fl RX8 71 143 18 (3, 95, 0) := ⟨9, 20, fs_143, RX8, TX8, rfl, rfl, by decide, rfl, by decide, rfl, cf_X8, (tbg sg1 191 rfl rfl)⟩
theorem fq_X8_71_143 : Fpf RX8 71 143 18 (3, 95, 0) := ⟨fl_X8_71_143, 9, 20, fs_143, RX8, TX8, (.array (.long)), rfl, rfl, rfl, rfl, by decide +kernel, fun E S x h => reffit (fun _ => rfl) ⟨rfl, fun _ => rfl⟩ (by decide) x⟩
theorem fl_X8_74_143 : Fl RX8 74 143 19 (3, 93, 0) := ⟨9, 20, fs_143, RX8, TX8, rfl, rfl, by decide, rfl, by decide, rfl, cf_X8, (tbg sg1 192 rfl rfl)⟩
theorem fq_X8_74_143 : Fpf RX8 74 143 19 (3, 93, 0) := ⟨fl_X8_74_143, 9, 20, fs_143, RX8, TX8, (.array (.int)), rfl, rfl, rfl, rfl, by decide +kernel, fun E S x h => reffit (fun _ => rfl) ⟨rfl, fun _ => rfl⟩ (by decide) x⟩
theorem fl_X11_9_142 : Fl RX11 9 142 4 (1, (-9223372036854775808), 9223372036854775807) := ⟨11, 20, fs_142, RX11, TX11, rfl, rfl, by decide, rfl, by decide, rfl, cf_X11, (tbg sg2 152 rfl rfl)⟩
theorem fp_X11_9_142 : Fp RX11 9 142 4 (1, (-9223372036854775808), 9223372036854775807) := ⟨fl_X11_9_142, 11, 20, fs_142, RX11, TX11, .long, rfl, rfl, rfl, by decide +kernel, fun E S x h => ⟨rfl, rfl⟩⟩
theorem nw_X11_13_143 : Nw RX11 13 143 20 := ⟨9, fs_143, RX8, TX8, tyX8, rfl, rfl, by decide, rfl, tbs [339, 341, 343, 345, 347, 349, 351, 353, 355, 357, 359, 361, 363, 365, 367, 369, 371, 373, 375, 377] (by decide +kernel), tyX8_ok, (tbg sg1 35 rfl rfl), (tbg sg1 36 rfl rfl), (tbg sg1 2 rfl rfl), by decide⟩
theorem co_X8_init : Co mX8_init 0 := ⟨(tbg sg1 39 rfl rfl), (tbg sg1 2 rfl rfl), by decide, by decide, by decide +kernel, by decide⟩
theorem cn_X11_15 : CiN RX11 15 mX8_init 0 := ⟨co_X8_init, ⟨"ShareLife", (List.mem_filter.mpr ⟨sg1 _ (List.mem_of_getElem? (i := 37) rfl), rfl⟩)⟩, rfl, (tbg sg1 38 rfl rfl), rfl⟩
theorem nf_143 : norf 143 = true := by decide +kernel
theorem fl_X11_16_142 : Fl RX11 16 142 17 (3, 129, 0) := ⟨11, 20, fs_142, RX11, TX11, rfl, rfl, by decide, rfl, by decide, rfl, cf_X11, (tbg sg2 165 rfl rfl)⟩
theorem fq_X11_16_142 : Fpf RX11 16 142 17 (3, 129, 0) := ⟨fl_X11_16_142, 11, 20, fs_142, RX11, TX11, (.object "ShareLife$Run"), rfl, rfl, rfl, rfl, by decide +kernel, fun E S x h => reffit (fun _ => rfl) ⟨rfl, fun _ => rfl⟩ (by decide) x⟩
theorem fl_X11_20_129 : Fl RX11 20 129 9 (2, 130, 0) := ⟨9, 20, fs_129, RX8, TX8, rfl, rfl, by decide, rfl, by decide, rfl, cf_X8, (tbg sg1 171 rfl rfl)⟩
theorem fl_X11_24_142 : Fl RX11 24 142 5 (3, 130, 0) := ⟨11, 20, fs_142, RX11, TX11, rfl, rfl, by decide, rfl, by decide, rfl, cf_X11, (tbg sg2 153 rfl rfl)⟩
theorem fq_X11_24_142 : Fpf RX11 24 142 5 (3, 130, 0) := ⟨fl_X11_24_142, 11, 20, fs_142, RX11, TX11, (.object "ShareLife$Accounts"), rfl, rfl, rfl, rfl, by decide +kernel, fun E S x h => reffit (fun _ => rfl) ⟨rfl, fun _ => rfl⟩ (by decide) x⟩
theorem fl_X11_25_129 : Fl RX11 25 129 10 (2, 154, 0) := ⟨9, 20, fs_129, RX8, TX8, rfl, rfl, by decide, rfl, by decide, rfl, cf_X8, (tbg sg1 173 rfl rfl)⟩
theorem fl_X11_29_142 : Fl RX11 29 142 6 (3, 154, 0) := ⟨11, 20, fs_142, RX11, TX11, rfl, rfl, by decide, rfl, by decide, rfl, cf_X11, (tbg sg2 154 rfl rfl)⟩
theorem fq_X11_29_142 : Fpf RX11 29 142 6 (3, 154, 0) := ⟨fl_X11_29_142, 11, 20, fs_142, RX11, TX11, (.object "java/util/ArrayList"), rfl, rfl, rfl, rfl, by decide +kernel, fun E S x h => reffit (fun _ => rfl) ⟨rfl, fun _ => rfl⟩ (by decide) x⟩
theorem fl_X11_30_129 : Fl RX11 30 129 11 (2, 155, 0) := ⟨9, 20, fs_129, RX8, TX8, rfl, rfl, by decide, rfl, by decide, rfl, cf_X8, (tbg sg1 176 rfl rfl)⟩
theorem fl_X11_33_142 : Fl RX11 33 142 7 (3, 155, 0) := ⟨11, 20, fs_142, RX11, TX11, rfl, rfl, by decide, rfl, by decide, rfl, cf_X11, (tbg sg2 155 rfl rfl)⟩
theorem fq_X11_33_142 : Fpf RX11 33 142 7 (3, 155, 0) := ⟨fl_X11_33_142, 11, 20, fs_142, RX11, TX11, (.object "java/util/ArrayList"), rfl, rfl, rfl, rfl, by decide +kernel, fun E S x h => reffit (fun _ => rfl) ⟨rfl, fun _ => rfl⟩ (by decide) x⟩
theorem fl_X11_34_129 : Fl RX11 34 129 12 (2, 156, 0) := ⟨9, 20, fs_129, RX8, TX8, rfl, rfl, by decide, rfl, by decide, rfl, cf_X8, (tbg sg1 179 rfl rfl)⟩
theorem fl_X11_37_142 : Fl RX11 37 142 8 (3, 156, 0) := ⟨11, 20, fs_142, RX11, TX11, rfl, rfl, by decide, rfl, by decide, rfl, cf_X11, (tbg sg2 156 rfl rfl)⟩
theorem fq_X11_37_142 : Fpf RX11 37 142 8 (3, 156, 0) := ⟨fl_X11_37_142, 11, 20, fs_142, RX11, TX11, (.object "java/util/ArrayList"), rfl, rfl, rfl, rfl, by decide +kernel, fun E S x h => reffit (fun _ => rfl) ⟨rfl, fun _ => rfl⟩ (by decide) x⟩
theorem fl_X11_38_129 : Fl RX11 38 129 13 (2, 157, 0) := ⟨9, 20, fs_129, RX8, TX8, rfl, rfl, by decide, rfl, by decide, rfl, cf_X8, (tbg sg1 182 rfl rfl)⟩
theorem fl_X11_41_142 : Fl RX11 41 142 9 (3, 157, 0) := ⟨11, 20, fs_142, RX11, TX11, rfl, rfl, by decide, rfl, by decide, rfl, cf_X11, (tbg sg2 157 rfl rfl)⟩
theorem fq_X11_41_142 : Fpf RX11 41 142 9 (3, 157, 0) := ⟨fl_X11_41_142, 11, 20, fs_142, RX11, TX11, (.object "java/util/ArrayList"), rfl, rfl, rfl, rfl, by decide +kernel, fun E S x h => reffit (fun _ => rfl) ⟨rfl, fun _ => rfl⟩ (by decide) x⟩
theorem nw_X11_42_153 : Nw RX11 42 153 3 := ⟨0, fs_153, RJx4a65c, TJx4a65c, tyJx4a65c, rfl, rfl, by decide, rfl, tbs [294, 290, 292] (by decide +kernel), tyJx4a65c_ok, (tbg sg1 234 rfl rfl), (tbg sg1 126 rfl rfl), (tbg sg1 6 rfl rfl), by decide⟩
theorem ci_X11_44 : Ci RX11 44 mJx4a65c_init_da8c8 0 := ⟨co_Jx4a65c_init_da8c8, (tbg sg1 235 rfl rfl), rfl, (tbg sg1 128 rfl rfl), rfl⟩
theorem fl_X11_45_142 : Fl RX11 45 142 10 (3, 158, 0) := ⟨11, 20, fs_142, RX11, TX11, rfl, rfl, by decide, rfl, by decide, rfl, cf_X11, (tbg sg2 158 rfl rfl)⟩
theorem fq_X11_45_142 : Fpf RX11 45 142 10 (3, 158, 0) := ⟨fl_X11_45_142, 11, 20, fs_142, RX11, TX11, (.object "java/util/ArrayList"), rfl, rfl, rfl, rfl, by decide +kernel, fun E S x h => reffit (fun _ => rfl) ⟨rfl, fun _ => rfl⟩ (by decide) x⟩
theorem fl_X11_48_142 : Fl RX11 48 142 11 (3, 159, 0) := ⟨11, 20, fs_142, RX11, TX11, rfl, rfl, by decide, rfl, by decide, rfl, cf_X11, (tbg sg2 159 rfl rfl)⟩
theorem fq_X11_48_142 : Fpf RX11 48 142 11 (3, 159, 0) := ⟨fl_X11_48_142, 11, 20, fs_142, RX11, TX11, (.object "java/util/ArrayList"), rfl, rfl, rfl, rfl, by decide +kernel, fun E S x h => reffit (fun _ => rfl) ⟨rfl, fun _ => rfl⟩ (by decide) x⟩
theorem fl_X11_51_142 : Fl RX11 51 142 12 (3, 94, 0) := ⟨11, 20, fs_142, RX11, TX11, rfl, rfl, by decide, rfl, by decide, rfl, cf_X11, (tbg sg2 160 rfl rfl)⟩
theorem fq_X11_51_142 : Fpf RX11 51 142 12 (3, 94, 0) := ⟨fl_X11_51_142, 11, 20, fs_142, RX11, TX11, (.array (.int)), rfl, rfl, rfl, rfl, by decide +kernel, fun E S x h => reffit (fun _ => rfl) ⟨rfl, fun _ => rfl⟩ (by decide) x⟩
theorem nw_X11_55_148 : Nw RX11 55 148 6 := ⟨5, fs_148, RX4, TX4, tyX4, rfl, rfl, by decide, rfl, tbs [397, 399, 401, 403, 405, 407] (by decide +kernel), tyX4_ok, (tbg sg1 236 rfl rfl), (tbg sg1 237 rfl rfl), (tbg sg1 7 rfl rfl), by decide⟩
theorem co_X4_init : Co mX4_init 0 := ⟨(tbg sg2 0 rfl rfl), (tbg sg1 7 rfl rfl), by decide, by decide, by decide +kernel, by decide⟩
theorem cn_X11_57 : CiN RX11 57 mX4_init 0 := ⟨co_X4_init, ⟨"ShareLife", (List.mem_filter.mpr ⟨sg1 _ (List.mem_of_getElem? (i := 238) rfl), rfl⟩)⟩, rfl, (tbg sg1 239 rfl rfl), rfl⟩
theorem nf_148 : norf 148 = true := by decide +kernel
theorem fl_X11_58_142 : Fl RX11 58 142 13 (3, 134, 0) := ⟨11, 20, fs_142, RX11, TX11, rfl, rfl, by decide, rfl, by decide, rfl, cf_X11, (tbg sg2 161 rfl rfl)⟩
theorem fq_X11_58_142 : Fpf RX11 58 142 13 (3, 134, 0) := ⟨fl_X11_58_142, 11, 20, fs_142, RX11, TX11, (.object "ShareLife$Fraction"), rfl, rfl, rfl, rfl, by decide +kernel, fun E S x h => reffit (fun _ => rfl) ⟨rfl, fun _ => rfl⟩ (by decide) x⟩
theorem fl_X11_62_142 : Fl RX11 62 142 14 (3, 134, 0) := ⟨11, 20, fs_142, RX11, TX11, rfl, rfl, by decide, rfl, by decide, rfl, cf_X11, (tbg sg2 162 rfl rfl)⟩
theorem fq_X11_62_142 : Fpf RX11 62 142 14 (3, 134, 0) := ⟨fl_X11_62_142, 11, 20, fs_142, RX11, TX11, (.object "ShareLife$Fraction"), rfl, rfl, rfl, rfl, by decide +kernel, fun E S x h => reffit (fun _ => rfl) ⟨rfl, fun _ => rfl⟩ (by decide) x⟩
theorem fl_X11_65_142 : Fl RX11 65 142 15 (3, 134, 0) := ⟨11, 20, fs_142, RX11, TX11, rfl, rfl, by decide, rfl, by decide, rfl, cf_X11, (tbg sg2 163 rfl rfl)⟩
theorem fq_X11_65_142 : Fpf RX11 65 142 15 (3, 134, 0) := ⟨fl_X11_65_142, 11, 20, fs_142, RX11, TX11, (.object "ShareLife$Fraction"), rfl, rfl, rfl, rfl, by decide +kernel, fun E S x h => reffit (fun _ => rfl) ⟨rfl, fun _ => rfl⟩ (by decide) x⟩
theorem nw_X11_68_145 : Nw RX11 68 145 17 := ⟨7, fs_145, RX6, TX6, tyX6, rfl, rfl, by decide, rfl, tbs [436, 438, 440, 442, 444, 446, 448, 450, 452, 454, 456, 458, 460, 462, 464, 466, 468] (by decide +kernel), tyX6_ok, (tbg sg2 24 rfl rfl), (tbg sg2 25 rfl rfl), (tbg sg1 8 rfl rfl), by decide⟩
theorem co_X6_init : Co mX6_init 0 := ⟨(tbg sg2 28 rfl rfl), (tbg sg1 8 rfl rfl), by decide, by decide, by decide +kernel, by decide⟩
theorem cn_X11_70 : CiN RX11 70 mX6_init 0 := ⟨co_X6_init, ⟨"ShareLife", (List.mem_filter.mpr ⟨sg2 _ (List.mem_of_getElem? (i := 26) rfl), rfl⟩)⟩, rfl, (tbg sg2 27 rfl rfl), rfl⟩
theorem nf_145 : norf 145 = true := by decide +kernel
theorem fl_X11_71_142 : Fl RX11 71 142 16 (3, 131, 0) := ⟨11, 20, fs_142, RX11, TX11, rfl, rfl, by decide, rfl, by decide, rfl, cf_X11, (tbg sg2 164 rfl rfl)⟩
theorem fq_X11_71_142 : Fpf RX11 71 142 16 (3, 131, 0) := ⟨fl_X11_71_142, 11, 20, fs_142, RX11, TX11, (.object "ShareLife$Reader"), rfl, rfl, rfl, rfl, by decide +kernel, fun E S x h => reffit (fun _ => rfl) ⟨rfl, fun _ => rfl⟩ (by decide) x⟩
theorem nw_X11_75_146 : Nw RX11 75 146 17 := ⟨8, fs_146, RX7, TX7, tyX7, rfl, rfl, by decide, rfl, tbs [498, 500, 502, 504, 506, 508, 510, 512, 514, 516, 518, 520, 522, 524, 526, 528, 530] (by decide +kernel), tyX7_ok, (tbg sg2 85 rfl rfl), (tbg sg2 86 rfl rfl), (tbg sg1 9 rfl rfl), by decide⟩
theorem co_X7_init : Co mX7_init 0 := ⟨(tbg sg2 89 rfl rfl), (tbg sg1 9 rfl rfl), by decide, by decide, by decide +kernel, by decide⟩
theorem cn_X11_77 : CiN RX11 77 mX7_init 0 := ⟨co_X7_init, ⟨"ShareLife", (List.mem_filter.mpr ⟨sg2 _ (List.mem_of_getElem? (i := 87) rfl), rfl⟩)⟩, rfl, (tbg sg2 88 rfl rfl), rfl⟩
theorem nf_146 : norf 146 = true := by decide +kernel
theorem fl_X11_78_142 : Fl RX11 78 142 18 (3, 132, 0) := ⟨11, 20, fs_142, RX11, TX11, rfl, rfl, by decide, rfl, by decide, rfl, cf_X11, (tbg sg2 166 rfl rfl)⟩
theorem fq_X11_78_142 : Fpf RX11 78 142 18 (3, 132, 0) := ⟨fl_X11_78_142, 11, 20, fs_142, RX11, TX11, (.object "ShareLife$Riddle"), rfl, rfl, rfl, rfl, by decide +kernel, fun E S x h => reffit (fun _ => rfl) ⟨rfl, fun _ => rfl⟩ (by decide) x⟩
