theorem co_X6_read : Co mX6_read 1 := ⟨(tbg sg3 155 rfl rfl), (tbg sg1 8 rfl rfl), by decide, by decide, by decide +kernel, by decide⟩
theorem cv_X11_169_131 : Cv RX11 169 mX6_read 131 1 := ⟨co_X6_read, (tbg sg3 152 rfl rfl), (tbg sg3 153 rfl rfl), 7, 17, fs_131, RX6, TX6, rfl, by decide, rfl, (tbg sg3 154 rfl rfl)⟩
theorem fp_X11_157_131 : Fp RX11 157 131 0 (0, 0, 400) := ⟨fl_X11_157_131, 7, 17, fs_131, RX6, TX6, .int, rfl, rfl, rfl, by decide +kernel, fun E S x h => ⟨rfl, rfl⟩⟩
theorem nw_X11_173_150 : Nw RX11 173 150 7 := ⟨3, fs_150, RX2, TX2, tyX2, rfl, rfl, by decide, rfl, tbs [1095, 1096, 1085, 1087, 1089, 1091, 1093] (by decide +kernel), tyX2_ok, (tbg sg4 200 rfl rfl), (tbg sg4 201 rfl rfl), (tbg sg1 22 rfl rfl), by decide⟩
theorem co_X2_init : Co mX2_init 3 := ⟨(tbg sg4 204 rfl rfl), (tbg sg1 22 rfl rfl), by decide, by decide, by decide +kernel, by decide⟩
theorem ci_X11_175 : Ci RX11 175 mX2_init 3 := ⟨co_X2_init, (tbg sg4 202 rfl rfl), rfl, (tbg sg4 203 rfl rfl), rfl⟩
theorem fl_X11_178_150 : Fl RX11 178 150 4 (0, 0, 40000) := ⟨3, 7, fs_150, RX2, TX2, rfl, rfl, by decide, rfl, by decide, rfl, cf_X2, (tbg sg4 214 rfl rfl)⟩
theorem fp_X11_178_150 : Fp RX11 178 150 4 (0, 0, 40000) := ⟨fl_X11_178_150, 3, 7, fs_150, RX2, TX2, .int, rfl, rfl, rfl, by decide +kernel, fun E S x h => ⟨rfl, rfl⟩⟩
theorem fl_X11_181_150 : Fl RX11 181 150 5 (0, 0, 40000) := ⟨3, 7, fs_150, RX2, TX2, rfl, rfl, by decide, rfl, by decide, rfl, cf_X2, (tbg sg4 216 rfl rfl)⟩
theorem fp_X11_181_150 : Fp RX11 181 150 5 (0, 0, 40000) := ⟨fl_X11_181_150, 3, 7, fs_150, RX2, TX2, .int, rfl, rfl, rfl, by decide +kernel, fun E S x h => ⟨rfl, rfl⟩⟩
theorem fl_X11_184_150 : Fl RX11 184 150 6 (0, 0, 40000) := ⟨3, 7, fs_150, RX2, TX2, rfl, rfl, by decide, rfl, by decide, rfl, cf_X2, (tbg sg4 217 rfl rfl)⟩
theorem fp_X11_184_150 : Fp RX11 184 150 6 (0, 0, 40000) := ⟨fl_X11_184_150, 3, 7, fs_150, RX2, TX2, .int, rfl, rfl, rfl, by decide +kernel, fun E S x h => ⟨rfl, rfl⟩⟩
theorem nf_150 : norf 150 = true := by decide +kernel
theorem cv_X11_143_156 : Cv RX11 143 mJx4a65c_add_9ea2d 156 1 := ⟨co_Jx4a65c_add_9ea2d, (tbg sg3 69 rfl rfl), (tbg sg3 70 rfl rfl), 0, 3, fs_156, RJx4a65c, TJx4a65c, rfl, by decide, rfl, (tbg sg3 71 rfl rfl)⟩
theorem nw_X11_213_151 : Nw RX11 213 151 6 := ⟨6, fs_151, RX5, TX5, tyX5, rfl, rfl, by decide, rfl, tbs [1154, 1155, 1146, 1148, 1150, 1152] (by decide +kernel), tyX5_ok, (tbg sg5 25 rfl rfl), (tbg sg5 26 rfl rfl), (tbg sg1 24 rfl rfl), by decide⟩
theorem co_X5_init : Co mX5_init 5 := ⟨(tbg sg5 29 rfl rfl), (tbg sg1 24 rfl rfl), by decide, by decide, by decide +kernel, by decide⟩
theorem ci_X11_215 : Ci RX11 215 mX5_init 5 := ⟨co_X5_init, (tbg sg5 27 rfl rfl), rfl, (tbg sg5 28 rfl rfl), rfl⟩
theorem tl_151 (j : Nat) {t : Ty} (h : fs_151.getD j (0, 0, 0) = t) (hj : j < fs_151.length) : Tl 151 j t := ⟨6, fs_151, rfl, hj, h, by decide⟩
theorem nf_151 : norf 151 = true := by decide +kernel
theorem cv_X11_143_157 : Cv RX11 143 mJx4a65c_add_9ea2d 157 1 := ⟨co_Jx4a65c_add_9ea2d, (tbg sg3 69 rfl rfl), (tbg sg3 70 rfl rfl), 0, 3, fs_157, RJx4a65c, TJx4a65c, rfl, by decide, rfl, (tbg sg3 71 rfl rfl)⟩
