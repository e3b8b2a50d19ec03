theorem fl_X11_24_128 : Fl RX11 24 128 5 (2, 130, 0) := ⟨11, 20, fs_128, RX11, TX11, rfl, rfl, by decide, rfl, by decide, rfl, cf_X11, (tbg sg2 153 rfl rfl)⟩
theorem fl_X11_107_130 : Fl RX11 107 130 0 (0, 0, 20) := ⟨1, 18, fs_130, RX0, TX0, rfl, rfl, by decide, rfl, by decide, rfl, cf_X0, (tbg sg1 52 rfl rfl)⟩
theorem fl_X11_33_128 : Fl RX11 33 128 7 (2, 155, 0) := ⟨11, 20, fs_128, RX11, TX11, rfl, rfl, by decide, rfl, by decide, rfl, cf_X11, (tbg sg2 155 rfl rfl)⟩
theorem cv_X11_125_155 : Cv RX11 125 mJx4a65c_size_8abf5 155 0 := ⟨co_Jx4a65c_size_8abf5, (tbg sg3 12 rfl rfl), (tbg sg3 13 rfl rfl), 0, 3, fs_155, RJx4a65c, TJx4a65c, rfl, by decide, rfl, (tbg sg3 14 rfl rfl)⟩
theorem fl_X11_37_128 : Fl RX11 37 128 8 (2, 156, 0) := ⟨11, 20, fs_128, RX11, TX11, rfl, rfl, by decide, rfl, by decide, rfl, cf_X11, (tbg sg2 156 rfl rfl)⟩
theorem cv_X11_125_156 : Cv RX11 125 mJx4a65c_size_8abf5 156 0 := ⟨co_Jx4a65c_size_8abf5, (tbg sg3 12 rfl rfl), (tbg sg3 13 rfl rfl), 0, 3, fs_156, RJx4a65c, TJx4a65c, rfl, by decide, rfl, (tbg sg3 14 rfl rfl)⟩
theorem fl_X11_41_128 : Fl RX11 41 128 9 (2, 157, 0) := ⟨11, 20, fs_128, RX11, TX11, rfl, rfl, by decide, rfl, by decide, rfl, cf_X11, (tbg sg2 157 rfl rfl)⟩
theorem cv_X11_125_157 : Cv RX11 125 mJx4a65c_size_8abf5 157 0 := ⟨co_Jx4a65c_size_8abf5, (tbg sg3 12 rfl rfl), (tbg sg3 13 rfl rfl), 0, 3, fs_157, RJx4a65c, TJx4a65c, rfl, by decide, rfl, (tbg sg3 14 rfl rfl)⟩
theorem fl_X11_45_128 : Fl RX11 45 128 10 (2, 158, 0) := ⟨11, 20, fs_128, RX11, TX11, rfl, rfl, by decide, rfl, by decide, rfl, cf_X11, (tbg sg2 158 rfl rfl)⟩
theorem cv_X11_125_158 : Cv RX11 125 mJx4a65c_size_8abf5 158 0 := ⟨co_Jx4a65c_size_8abf5, (tbg sg3 12 rfl rfl), (tbg sg3 13 rfl rfl), 0, 3, fs_158, RJx4a65c, TJx4a65c, rfl, by decide, rfl, (tbg sg3 14 rfl rfl)⟩
theorem co_X11_hasEvent : Co mX11_hasEvent 1 := ⟨(tbg sg5 4 rfl rfl), (tbg sg1 1 rfl rfl), by decide, by decide, by decide +kernel, by decide⟩
theorem cv_X11_193_128 : Cv RX11 193 mX11_hasEvent 128 1 := ⟨co_X11_hasEvent, (tbg sg5 1 rfl rfl), (tbg sg5 3 rfl rfl), 11, 20, fs_128, RX11, TX11, rfl, by decide, rfl, (tbm 33 (by decide +kernel) rfl)⟩
theorem cv_X11_196_156 : Cv RX11 196 mJx4a65c_get_915e3 156 1 := ⟨co_Jx4a65c_get_915e3, (tbg sg5 5 rfl rfl), (tbg sg5 6 rfl rfl), 0, 3, fs_156, RJx4a65c, TJx4a65c, rfl, by decide, rfl, (tbg sg5 7 rfl rfl)⟩
theorem fl_X11_200_137 : Fl RX11 200 137 3 (2, 136, 0) := ⟨3, 7, fs_137, RX2, TX2, rfl, rfl, by decide, rfl, by decide, rfl, cf_X2, (tbg sg4 212 rfl rfl)⟩
theorem fl_X11_204_136 : Fl RX11 204 136 1 (0, 0, 3) := ⟨10, 16, fs_136, RX9, TX9, rfl, rfl, by decide, rfl, by decide, rfl, cf_X9, (tbg sg3 175 rfl rfl)⟩
theorem fl_X11_364_128 : Fl RX11 364 128 3 (1, (-9223372036854775808), 9223372036854775807) := ⟨11, 20, fs_128, RX11, TX11, rfl, rfl, by decide, rfl, by decide, rfl, cf_X11, (tbg sg2 151 rfl rfl)⟩
theorem fl_X11_9_128 : Fl RX11 9 128 4 (1, (-9223372036854775808), 9223372036854775807) := ⟨11, 20, fs_128, RX11, TX11, rfl, rfl, by decide, rfl, by decide, rfl, cf_X11, (tbg sg2 152 rfl rfl)⟩
theorem co_X11_isDay : Co mX11_isDay 1 := ⟨(tbg sg2 219 rfl rfl), (tbg sg1 1 rfl rfl), by decide, by decide, by decide +kernel, by decide⟩
theorem cs_X11_86 : Cs RX11 86 mX11_isDay 1 := ⟨co_X11_isDay, (tbg sg2 217 rfl rfl), (tbg sg2 218 rfl rfl)⟩
theorem co_X11_refused : Co mX11_refused 1 := ⟨(tbg sg2 227 rfl rfl), (tbg sg1 1 rfl rfl), by decide, by decide, by decide +kernel, by decide⟩
theorem cv_X11_90_128 : Cv RX11 90 mX11_refused 128 1 := ⟨co_X11_refused, (tbg sg2 224 rfl rfl), (tbg sg2 226 rfl rfl), 11, 20, fs_128, RX11, TX11, rfl, by decide, rfl, (tbm 0 (by decide +kernel) rfl)⟩
theorem fl_X11_16_128 : Fl RX11 16 128 17 (2, 129, 0) := ⟨11, 20, fs_128, RX11, TX11, rfl, rfl, by decide, rfl, by decide, rfl, cf_X11, (tbg sg2 165 rfl rfl)⟩
theorem fl_X11_93_129 : Fl RX11 93 129 0 (0, 0, 40000) := ⟨9, 20, fs_129, RX8, TX8, rfl, rfl, by decide, rfl, by decide, rfl, cf_X8, (tbg sg1 152 rfl rfl)⟩
theorem fp_X11_93_129 : Fp RX11 93 129 0 (0, 0, 40000) := ⟨fl_X11_93_129, 9, 20, fs_129, RX8, TX8, .int, rfl, rfl, rfl, by decide +kernel, fun E S x h => ⟨rfl, rfl⟩⟩
theorem fl_X11_96_129 : Fl RX11 96 129 1 (0, 0, 1) := ⟨9, 20, fs_129, RX8, TX8, rfl, rfl, by decide, rfl, by decide, rfl, cf_X8, (tbg sg1 154 rfl rfl)⟩
theorem fp_X11_96_129 : Fp RX11 96 129 1 (0, 0, 1) := ⟨fl_X11_96_129, 9, 20, fs_129, RX8, TX8, .boolean, rfl, rfl, rfl, by decide +kernel, fun E S x h => zfit h⟩
theorem co_X11_first : Co mX11_first 4 := ⟨(tbg sg2 238 rfl rfl), (tbg sg1 1 rfl rfl), by decide, by decide, by decide +kernel, by decide⟩
theorem cs_X11_112 : Cs RX11 112 mX11_first 4 := ⟨co_X11_first, (tbg sg2 236 rfl rfl), (tbg sg2 237 rfl rfl)⟩
theorem co_X0_hang : Co mX0_hang 3 := ⟨(tbg sg3 2 rfl rfl), (tbg sg1 3 rfl rfl), by decide, by decide, by decide +kernel, by decide⟩
theorem cv_X11_116_130 : Cv RX11 116 mX0_hang 130 3 := ⟨co_X0_hang, (tbg sg2 239 rfl rfl), (tbg sg3 0 rfl rfl), 1, 18, fs_130, RX0, TX0, rfl, by decide, rfl, (tbg sg3 1 rfl rfl)⟩
theorem tl_128 (j : Nat) {t : Ty} (h : fs_128.getD j (0, 0, 0) = t) (hj : j < fs_128.length) : Tl 128 j t := ⟨11, fs_128, rfl, hj, h, by decide⟩
theorem co_X11_hasAccount : Co mX11_hasAccount 1 := ⟨(tbg sg2 235 rfl rfl), (tbg sg1 1 rfl rfl), by decide, by decide, by decide +kernel, by decide⟩
theorem cv_X11_100_128 : Cv RX11 100 mX11_hasAccount 128 1 := ⟨co_X11_hasAccount, (tbg sg2 232 rfl rfl), (tbg sg2 234 rfl rfl), 11, 20, fs_128, RX11, TX11, rfl, by decide, rfl, (tbm 1 (by decide +kernel) rfl)⟩
theorem fl_X6_31_131 : Fl RX6 31 131 0 (0, 0, 400) := ⟨7, 17, fs_131, RX6, TX6, rfl, rfl, by decide, rfl, by decide, rfl, cf_X6, (tbg sg2 30 rfl rfl)⟩
theorem fl_X6_18_131 : Fl RX6 18 131 3 (2, 105, 0) := ⟨7, 17, fs_131, RX6, TX6, rfl, rfl, by decide, rfl, by decide, rfl, cf_X6, (tbg sg2 36 rfl rfl)⟩
theorem al_105 : Al 105 0 400 (0, (-2147483648), 2147483647) := ⟨rfl, by decide, by decide⟩
theorem fp_X6_31_131 : Fp RX6 31 131 0 (0, 0, 400) := ⟨fl_X6_31_131, 7, 17, fs_131, RX6, TX6, .int, rfl, rfl, rfl, by decide +kernel, fun E S x h => ⟨rfl, rfl⟩⟩
theorem fl_X11_71_128 : Fl RX11 71 128 16 (2, 131, 0) := ⟨11, 20, fs_128, RX11, TX11, rfl, rfl, by decide, rfl, by decide, rfl, cf_X11, (tbg sg2 164 rfl rfl)⟩
theorem fl_X11_157_131 : Fl RX11 157 131 0 (0, 0, 400) := ⟨7, 17, fs_131, RX6, TX6, rfl, rfl, by decide, rfl, by decide, rfl, cf_X6, (tbg sg2 31 rfl rfl)⟩
theorem co_X6_put : Co mX6_put 1 := ⟨(tbg sg3 144 rfl rfl), (tbg sg1 8 rfl rfl), by decide, by decide, by decide +kernel, by decide⟩
theorem cv_X11_160_131 : Cv RX11 160 mX6_put 131 1 := ⟨co_X6_put, (tbg sg3 141 rfl rfl), (tbg sg3 142 rfl rfl), 7, 17, fs_131, RX6, TX6, rfl, by decide, rfl, (tbg sg3 143 rfl rfl)⟩
theorem fl_X11_190_131 : Fl RX11 190 131 2 (0, (-2147483648), 2147483647) := ⟨7, 17, fs_131, RX6, TX6, rfl, rfl, by decide, rfl, by decide, rfl, cf_X6, (tbg sg2 35 rfl rfl)⟩
theorem fl_X11_187_131 : Fl RX11 187 131 1 (0, (-2147483648), 2147483647) := ⟨7, 17, fs_131, RX6, TX6, rfl, rfl, by decide, rfl, by decide, rfl, cf_X6, (tbg sg2 33 rfl rfl)⟩
theorem fl_X11_129_128 : Fl RX11 129 128 1 (0, 0, 40000) := ⟨11, 20, fs_128, RX11, TX11, rfl, rfl, by decide, rfl, by decide, rfl, cf_X11, (tbg sg2 149 rfl rfl)⟩
theorem fp_X11_129_128 : Fp RX11 129 128 1 (0, 0, 40000) := ⟨fl_X11_129_128, 11, 20, fs_128, RX11, TX11, .int, rfl, rfl, rfl, by decide +kernel, fun E S x h => ⟨rfl, rfl⟩⟩
theorem co_X11_hasPick : Co mX11_hasPick 1 := ⟨(tbg sg5 67 rfl rfl), (tbg sg1 1 rfl rfl), by decide, by decide, by decide +kernel, by decide⟩
theorem cv_X11_230_128 : Cv RX11 230 mX11_hasPick 128 1 := ⟨co_X11_hasPick, (tbg sg5 64 rfl rfl), (tbg sg5 66 rfl rfl), 11, 20, fs_128, RX11, TX11, rfl, by decide, rfl, (tbm 37 (by decide +kernel) rfl)⟩
theorem cv_X11_196_157 : Cv RX11 196 mJx4a65c_get_915e3 157 1 := ⟨co_Jx4a65c_get_915e3, (tbg sg5 5 rfl rfl), (tbg sg5 6 rfl rfl), 0, 3, fs_157, RJx4a65c, TJx4a65c, rfl, by decide, rfl, (tbg sg5 7 rfl rfl)⟩
theorem ck_138_X10 : Ck 138 "ShareLife$Told" := ⟨6, 6, fs_138, RX5, TX5, rfl, by decide, rfl, Or.inr (List.mem_filter.mpr ⟨sg11 _ (List.mem_of_getElem? (i := 33) rfl), rfl⟩)⟩
theorem co_X11_hasTrade : Co mX11_hasTrade 1 := ⟨(tbg sg5 62 rfl rfl), (tbg sg1 1 rfl rfl), by decide, by decide, by decide +kernel, by decide⟩
theorem cv_X11_227_128 : Cv RX11 227 mX11_hasTrade 128 1 := ⟨co_X11_hasTrade, (tbg sg5 59 rfl rfl), (tbg sg5 61 rfl rfl), 11, 20, fs_128, RX11, TX11, rfl, by decide, rfl, (tbm 36 (by decide +kernel) rfl)⟩
theorem cv_X11_196_155 : Cv RX11 196 mJx4a65c_get_915e3 155 1 := ⟨co_Jx4a65c_get_915e3, (tbg sg5 5 rfl rfl), (tbg sg5 6 rfl rfl), 0, 3, fs_155, RJx4a65c, TJx4a65c, rfl, by decide, rfl, (tbg sg5 7 rfl rfl)⟩
theorem co_X11_toldBy : Co mX11_toldBy 2 := ⟨(tbg sg5 58 rfl rfl), (tbg sg1 1 rfl rfl), by decide, by decide, by decide +kernel, by decide⟩
theorem cv_X11_218_128 : Cv RX11 218 mX11_toldBy 128 2 := ⟨co_X11_toldBy, (tbg sg5 55 rfl rfl), (tbg sg5 57 rfl rfl), 11, 20, fs_128, RX11, TX11, rfl, by decide, rfl, (tbm 35 (by decide +kernel) rfl)⟩
theorem fl_X11_222_140 : Fl RX11 222 140 1 (0, (-1), 40000) := ⟨2, 9, fs_140, RX1, TX1, rfl, rfl, by decide, rfl, by decide, rfl, cf_X1, (tbg sg3 49 rfl rfl)⟩
theorem fp_X11_222_140 : Fp RX11 222 140 1 (0, (-1), 40000) := ⟨fl_X11_222_140, 2, 9, fs_140, RX1, TX1, .int, rfl, rfl, rfl, by decide +kernel, fun E S x h => ⟨rfl, rfl⟩⟩
theorem co_X11_tell : Co mX11_tell 1 := ⟨(tbg sg3 132 rfl rfl), (tbg sg1 1 rfl rfl), by decide, by decide, by decide +kernel, by decide⟩
theorem cv_X11_147_128 : Cv RX11 147 mX11_tell 128 1 := ⟨co_X11_tell, (tbg sg3 129 rfl rfl), (tbg sg3 131 rfl rfl), 11, 20, fs_128, RX11, TX11, rfl, by decide, rfl, (tbm 5 (by decide +kernel) rfl)⟩
theorem fl_X11_222_137 : Fl RX11 222 137 1 (0, (-1), 40000) := ⟨3, 7, fs_137, RX2, TX2, rfl, rfl, by decide, rfl, by decide, rfl, cf_X2, (tbg sg3 49 rfl rfl)⟩
theorem fp_X11_222_137 : Fp RX11 222 137 1 (0, (-1), 40000) := ⟨fl_X11_222_137, 3, 7, fs_137, RX2, TX2, .int, rfl, rfl, rfl, by decide +kernel, fun E S x h => ⟨rfl, rfl⟩⟩
theorem fl_X11_222_138 : Fl RX11 222 138 1 (0, (-1), 40000) := ⟨6, 6, fs_138, RX5, TX5, rfl, rfl, by decide, rfl, by decide, rfl, cf_X5, (tbg sg3 49 rfl rfl)⟩
theorem fp_X11_222_138 : Fp RX11 222 138 1 (0, (-1), 40000) := ⟨fl_X11_222_138, 6, 6, fs_138, RX5, TX5, .int, rfl, rfl, rfl, by decide +kernel, fun E S x h => ⟨rfl, rfl⟩⟩
theorem co_X11_isPaper : Co mX11_isPaper 1 := ⟨(tbg sg3 9 rfl rfl), (tbg sg1 1 rfl rfl), by decide, by decide, by decide +kernel, by decide⟩
theorem cs_X11_120 : Cs RX11 120 mX11_isPaper 1 := ⟨co_X11_isPaper, (tbg sg3 7 rfl rfl), (tbg sg3 8 rfl rfl)⟩
theorem co_X8_to : Co mX8_to 1 := ⟨(tbg sg5 75 rfl rfl), (tbg sg1 2 rfl rfl), by decide, by decide, by decide +kernel, by decide⟩
theorem cv_X11_233_129 : Cv RX11 233 mX8_to 129 1 := ⟨co_X8_to, (tbg sg5 72 rfl rfl), (tbg sg5 73 rfl rfl), 9, 20, fs_129, RX8, TX8, rfl, by decide, rfl, (tbg sg5 74 rfl rfl)⟩
theorem fl_X11_235_129 : Fl RX11 235 129 2 (0, 0, 1) := ⟨9, 20, fs_129, RX8, TX8, rfl, rfl, by decide, rfl, by decide, rfl, cf_X8, (tbg sg1 156 rfl rfl)⟩
theorem fl_X11_238_129 : Fl RX11 238 129 3 (2, 114, 0) := ⟨9, 20, fs_129, RX8, TX8, rfl, rfl, by decide, rfl, by decide, rfl, cf_X8, (tbg sg1 159 rfl rfl)⟩
theorem fl_X11_242_130 : Fl RX11 242 130 12 (2, 95, 0) := ⟨1, 18, fs_130, RX0, TX0, rfl, rfl, by decide, rfl, by decide, rfl, cf_X0, (tbg sg1 76 rfl rfl)⟩
theorem cv_X11_246_130 : Cv RX11 246 mX0_roll 130 2 := ⟨co_X0_roll, (tbg sg5 226 rfl rfl), (tbg sg5 142 rfl rfl), 1, 18, fs_130, RX0, TX0, rfl, by decide, rfl, (tbg sg5 143 rfl rfl)⟩
theorem fl_X11_252_129 : Fl RX11 252 129 4 (2, 114, 0) := ⟨9, 20, fs_129, RX8, TX8, rfl, rfl, by decide, rfl, by decide, rfl, cf_X8, (tbg sg1 161 rfl rfl)⟩
theorem fl_X11_257_129 : Fl RX11 257 129 6 (2, 95, 0) := ⟨9, 20, fs_129, RX8, TX8, rfl, rfl, by decide, rfl, by decide, rfl, cf_X8, (tbg sg1 165 rfl rfl)⟩
theorem fl_X11_255_129 : Fl RX11 255 129 5 (2, 95, 0) := ⟨9, 20, fs_129, RX8, TX8, rfl, rfl, by decide, rfl, by decide, rfl, cf_X8, (tbg sg1 163 rfl rfl)⟩
theorem cv_X11_260_129 : Cv RX11 260 mX8_choiceOf 129 2 := ⟨co_X8_choiceOf, (tbg sg6 0 rfl rfl), (tbg sg5 121 rfl rfl), 9, 20, fs_129, RX8, TX8, rfl, by decide, rfl, (tbg sg5 122 rfl rfl)⟩
theorem cu_X11_264_137 : Cu RX11 264 mX10_counts ⟨RX2, "counts", "(I)Z"⟩ 137 1 := ⟨co_X10_counts, rfl, 3, 7, fs_137, RX2, TX2, rfl, by decide, rfl, tbs [1347, 1348, 1349, 1203, 157] (by decide +kernel)⟩
theorem co_X11_noneOrUntold : Co mX11_noneOrUntold 2 := ⟨(tbg sg6 6 rfl rfl), (tbg sg1 1 rfl rfl), by decide, by decide, by decide +kernel, by decide⟩
theorem cs_X11_267 : Cs RX11 267 mX11_noneOrUntold 2 := ⟨co_X11_noneOrUntold, (tbg sg6 4 rfl rfl), (tbg sg6 5 rfl rfl)⟩
theorem co_X11_hasChoice : Co mX11_hasChoice 2 := ⟨(tbg sg5 24 rfl rfl), (tbg sg1 1 rfl rfl), by decide, by decide, by decide +kernel, by decide⟩
theorem cv_X11_209_128 : Cv RX11 209 mX11_hasChoice 128 2 := ⟨co_X11_hasChoice, (tbg sg5 21 rfl rfl), (tbg sg5 23 rfl rfl), 11, 20, fs_128, RX11, TX11, rfl, by decide, rfl, (tbm 34 (by decide +kernel) rfl)⟩
theorem fl_X11_181_137 : Fl RX11 181 137 5 (0, 0, 40000) := ⟨3, 7, fs_137, RX2, TX2, rfl, rfl, by decide, rfl, by decide, rfl, cf_X2, (tbg sg4 216 rfl rfl)⟩
theorem fl_X11_271_129 : Fl RX11 271 129 8 (2, 117, 0) := ⟨9, 20, fs_129, RX8, TX8, rfl, rfl, by decide, rfl, by decide, rfl, cf_X8, (tbg sg1 170 rfl rfl)⟩
theorem cu_X11_274_138 : Cu RX11 274 mX10_counts ⟨RX5, "counts", "(I)Z"⟩ 138 1 := ⟨co_X10_counts, rfl, 6, 6, fs_138, RX5, TX5, rfl, by decide, rfl, tbs [1361, 1232, 1234, 1203, 157] (by decide +kernel)⟩
theorem co_X8_bearerOf : Co mX8_bearerOf 1 := ⟨(tbg sg6 19 rfl rfl), (tbg sg1 2 rfl rfl), by decide, by decide, by decide +kernel, by decide⟩
theorem cv_X11_278_129 : Cv RX11 278 mX8_bearerOf 129 1 := ⟨co_X8_bearerOf, (tbg sg6 16 rfl rfl), (tbg sg6 17 rfl rfl), 9, 20, fs_129, RX8, TX8, rfl, by decide, rfl, (tbg sg6 18 rfl rfl)⟩
theorem fl_X11_275_138 : Fl RX11 275 138 2 (0, 0, 15) := ⟨6, 6, fs_138, RX5, TX5, rfl, rfl, by decide, rfl, by decide, rfl, cf_X5, (tbg sg5 33 rfl rfl)⟩
theorem cu_X11_282_140 : Cu RX11 282 mX10_counts ⟨RX1, "counts", "(I)Z"⟩ 140 1 := ⟨co_X10_counts, rfl, 2, 9, fs_140, RX1, TX1, rfl, by decide, rfl, tbs [1375, 1376, 1377, 1203, 157] (by decide +kernel)⟩
theorem fl_X11_283_140 : Fl RX11 283 140 3 (0, 0, 40000) := ⟨2, 9, fs_140, RX1, TX1, rfl, rfl, by decide, rfl, by decide, rfl, cf_X1, (tbg sg3 31 rfl rfl)⟩
theorem fl_X11_286_129 : Fl RX11 286 129 7 (2, 115, 0) := ⟨9, 20, fs_129, RX8, TX8, rfl, rfl, by decide, rfl, by decide, rfl, cf_X8, (tbg sg1 168 rfl rfl)⟩
theorem fl_X11_154_140 : Fl RX11 154 140 7 (0, 0, 40000) := ⟨2, 9, fs_140, RX1, TX1, rfl, rfl, by decide, rfl, by decide, rfl, cf_X1, (tbg sg3 44 rfl rfl)⟩
theorem fl_X11_178_137 : Fl RX11 178 137 4 (0, 0, 40000) := ⟨3, 7, fs_137, RX2, TX2, rfl, rfl, by decide, rfl, by decide, rfl, cf_X2, (tbg sg4 214 rfl rfl)⟩
theorem fl_X11_336_136 : Fl RX11 336 136 11 (2, 125, 0) := ⟨10, 16, fs_136, RX9, TX9, rfl, rfl, by decide, rfl, by decide, rfl, cf_X9, (tbg sg3 219 rfl rfl)⟩
theorem cs_X11_339 : Cs RX11 339 mJ7_fill_d0a16 2 := ⟨co_J7_fill_d0a16, (tbg sg6 195 rfl rfl), (tbg sg5 85 rfl rfl)⟩
theorem cv_X11_345_136 : Cv RX11 345 mX9_work 136 0 := ⟨co_X9_work, (tbg sg6 196 rfl rfl), (tbg sg5 169 rfl rfl), 10, 16, fs_136, RX9, TX9, rfl, by decide, rfl, (tbg sg5 170 rfl rfl)⟩
theorem co_X11_workFor : Co mX11_workFor 3 := ⟨(tbg sg6 194 rfl rfl), (tbg sg1 1 rfl rfl), by decide, by decide, by decide +kernel, by decide⟩
theorem cs_X11_320 : Cs RX11 320 mX11_workFor 3 := ⟨co_X11_workFor, (tbg sg6 192 rfl rfl), (tbg sg6 193 rfl rfl)⟩
theorem fl_X11_324_136 : Fl RX11 324 136 0 (0, 0, 30) := ⟨10, 16, fs_136, RX9, TX9, rfl, rfl, by decide, rfl, by decide, rfl, cf_X9, (tbg sg3 173 rfl rfl)⟩
theorem fl_X11_327_136 : Fl RX11 327 136 3 (2, 120, 0) := ⟨10, 16, fs_136, RX9, TX9, rfl, rfl, by decide, rfl, by decide, rfl, cf_X9, (tbg sg3 187 rfl rfl)⟩
theorem fl_X11_330_136 : Fl RX11 330 136 5 (2, 121, 0) := ⟨10, 16, fs_136, RX9, TX9, rfl, rfl, by decide, rfl, by decide, rfl, cf_X9, (tbg sg3 197 rfl rfl)⟩
theorem fl_X11_333_136 : Fl RX11 333 136 14 (2, 127, 0) := ⟨10, 16, fs_136, RX9, TX9, rfl, rfl, by decide, rfl, by decide, rfl, cf_X9, (tbg sg3 226 rfl rfl)⟩
theorem fl_X11_326_136 : Fl RX11 326 136 15 (2, 127, 0) := ⟨10, 16, fs_136, RX9, TX9, rfl, rfl, by decide, rfl, by decide, rfl, cf_X9, (tbg sg3 229 rfl rfl)⟩
set_option maxRecDepth 100000 in
set_option maxHeartbeats 4000000 in
theorem c_X11_hasAccount (E : En) (S : Sg) (G : Gh) (this : Int) (account : Int) (hS : S this = 128) (ls_ : Int) (ls__e : ls_ = G 128 this 5) (ls__s : S ls_ = 130) (sz : Int) (sz_e : sz = G 130 ls_ 0) (account_a : (-2147483648) ≤ account) (account_b : account ≤ 2147483647) : Calls E mX11_hasAccount [(2, this), (0, account)] S G 1 0 0 (fun r S' G' => S = S' ∧ G = G' ∧ ∃ z : Int, r = some (0, z) ∧ ((z = 1 ∧ 0 ≤ account ∧ account + 1 ≤ sz) ∨ (z = 0))) := by
  refine calls_by [(0, (2, this)), (1, (0, account))] rfl rfl (Nat.le_of_ble_eq_true rfl) (fun X hX => ?_)
  have hP := hPX11_hasAccount
  refine r_peekI hX (tl_130 0 rfl (by decide)) ls__s (fun sz_o sz_oe sz_oa sz_ob => ?_)
  obtain rfl : sz = sz_o := sz_e.trans sz_oe.symm
  refine r_ex hX hP 3 (pc' := 3) (st' := [(2, this), (0, 0), (0, account)]) (lo' := [(0, (2, this)), (1, (0, account))]) rfl ?_
  refine r_getKR hX hP rfl fl_X11_24_128 hS (x := ls_) ls__e ?_
  refine r_getKI hX hP rfl fl_X11_107_130 ls__s (x := sz) sz_e ?_
  refine r_ex hX hP 2 (pc' := 11) (st' := [(0, (sz - 1)), (0, 0), (0, account)]) (lo' := [(0, (2, this)), (1, (0, account))]) rfl ?_
  refine r_callS gd hX hP rfl cs_X11_103 (d' := 0) (mc' := 0) (ms' := 0) (as' := [(0, account), (0, 0), (0, (sz - 1))]) (st := []) (by first | decide | omega) (by first | decide | omega) (by first | decide | omega) rfl rfl (Nat.le_of_ble_eq_true rfl) (c_X11_within E S G account 0 (sz - 1) (by first | decide | omega) (by first | decide | omega) (by first | decide | omega) (by first | decide | omega) (by first | decide | omega) (by first | decide | omega)) ?_
  rintro _ _ _ ⟨rfl, rfl, z1, rfl, (⟨rfl, f2, f3⟩ | ⟨rfl, f4⟩)⟩
  · skip
    exact r_retZ hX hP rfl rfl (by first | decide | omega) (by first | decide | omega) (by first | decide | omega) (by first | decide | omega) ⟨rfl, rfl, 1, rfl, (by first | decide | omega)⟩
  · skip
    exact r_retZ hX hP rfl rfl (by first | decide | omega) (by first | decide | omega) (by first | decide | omega) (by first | decide | omega) ⟨rfl, rfl, 0, rfl, (by first | decide | omega)⟩
set_option maxRecDepth 100000 in
set_option maxHeartbeats 4000000 in
theorem c_X11_hasTrade (E : En) (S : Sg) (G : Gh) (this : Int) (trade : Int) (hS : S this = 128) (ls_ : Int) (ls__e : ls_ = G 128 this 7) (ls__s : S ls_ = 155) (sz : Int) (sz_e : sz = G 155 ls_ 2) (trade_a : (-2147483648) ≤ trade) (trade_b : trade ≤ 2147483647) : Calls E mX11_hasTrade [(2, this), (0, trade)] S G 1 0 0 (fun r S' G' => S = S' ∧ G = G' ∧ ∃ z : Int, r = some (0, z) ∧ ((z = 1 ∧ 0 ≤ trade ∧ trade + 1 ≤ sz) ∨ (z = 0))) := by
  refine calls_by [(0, (2, this)), (1, (0, trade))] rfl rfl (Nat.le_of_ble_eq_true rfl) (fun X hX => ?_)
  have hP := hPX11_hasTrade
  refine r_peekI hX (tl_155 2 rfl (by decide)) ls__s (fun sz_o sz_oe sz_oa sz_ob => ?_)
  obtain rfl : sz = sz_o := sz_e.trans sz_oe.symm
  refine r_ex hX hP 3 (pc' := 3) (st' := [(2, this), (0, 0), (0, trade)]) (lo' := [(0, (2, this)), (1, (0, trade))]) rfl ?_
  refine r_getKR hX hP rfl fl_X11_33_128 hS (x := ls_) ls__e ?_
  refine r_callV gd hX hP rfl cv_X11_125_155 ls__s (d' := 0) (mc' := 0) (ms' := 0) (as' := []) (st := [(0, 0), (0, trade)]) (by first | decide | omega) (by first | decide | omega) (by first | decide | omega) rfl rfl (Nat.le_of_ble_eq_true rfl) (c_size_Ltr E S G ls_  ls__s sz sz_e) ?_
  rintro _ _ _ ⟨rfl, rfl, z1, rfl, z1a, z1b, f2⟩
  refine r_ex hX hP 2 (pc' := 11) (st' := [(0, (z1 - 1)), (0, 0), (0, trade)]) (lo' := [(0, (2, this)), (1, (0, trade))]) rfl ?_
  refine r_callS gd hX hP rfl cs_X11_103 (d' := 0) (mc' := 0) (ms' := 0) (as' := [(0, trade), (0, 0), (0, (z1 - 1))]) (st := []) (by first | decide | omega) (by first | decide | omega) (by first | decide | omega) rfl rfl (Nat.le_of_ble_eq_true rfl) (c_X11_within E S G trade 0 (z1 - 1) (by first | decide | omega) (by first | decide | omega) (by first | decide | omega) (by first | decide | omega) (by first | decide | omega) (by first | decide | omega)) ?_
  rintro _ _ _ ⟨rfl, rfl, z3, rfl, (⟨rfl, f4, f5⟩ | ⟨rfl, f6⟩)⟩
  · skip
    exact r_retZ hX hP rfl rfl (by first | decide | omega) (by first | decide | omega) (by first | decide | omega) (by first | decide | omega) ⟨rfl, rfl, 1, rfl, (by first | decide | omega)⟩
  · skip
    exact r_retZ hX hP rfl rfl (by first | decide | omega) (by first | decide | omega) (by first | decide | omega) (by first | decide | omega) ⟨rfl, rfl, 0, rfl, (by first | decide | omega)⟩
set_option maxRecDepth 100000 in
set_option maxHeartbeats 4000000 in
theorem c_X11_hasEvent (E : En) (S : Sg) (G : Gh) (this : Int) (event : Int) (hS : S this = 128) (ls_ : Int) (ls__e : ls_ = G 128 this 8) (ls__s : S ls_ = 156) (sz : Int) (sz_e : sz = G 156 ls_ 2) (event_a : (-2147483648) ≤ event) (event_b : event ≤ 2147483647) : Calls E mX11_hasEvent [(2, this), (0, event)] S G 1 0 0 (fun r S' G' => S = S' ∧ G = G' ∧ ∃ z : Int, r = some (0, z) ∧ ((z = 1 ∧ 0 ≤ event ∧ event + 1 ≤ sz) ∨ (z = 0))) := by
  refine calls_by [(0, (2, this)), (1, (0, event))] rfl rfl (Nat.le_of_ble_eq_true rfl) (fun X hX => ?_)
  have hP := hPX11_hasEvent
  refine r_peekI hX (tl_156 2 rfl (by decide)) ls__s (fun sz_o sz_oe sz_oa sz_ob => ?_)
  obtain rfl : sz = sz_o := sz_e.trans sz_oe.symm
  refine r_ex hX hP 3 (pc' := 3) (st' := [(2, this), (0, 0), (0, event)]) (lo' := [(0, (2, this)), (1, (0, event))]) rfl ?_
  refine r_getKR hX hP rfl fl_X11_37_128 hS (x := ls_) ls__e ?_
  refine r_callV gd hX hP rfl cv_X11_125_156 ls__s (d' := 0) (mc' := 0) (ms' := 0) (as' := []) (st := [(0, 0), (0, event)]) (by first | decide | omega) (by first | decide | omega) (by first | decide | omega) rfl rfl (Nat.le_of_ble_eq_true rfl) (c_size_Lev E S G ls_  ls__s sz sz_e) ?_
  rintro _ _ _ ⟨rfl, rfl, z1, rfl, z1a, z1b, f2⟩
  refine r_ex hX hP 2 (pc' := 11) (st' := [(0, (z1 - 1)), (0, 0), (0, event)]) (lo' := [(0, (2, this)), (1, (0, event))]) rfl ?_
  refine r_callS gd hX hP rfl cs_X11_103 (d' := 0) (mc' := 0) (ms' := 0) (as' := [(0, event), (0, 0), (0, (z1 - 1))]) (st := []) (by first | decide | omega) (by first | decide | omega) (by first | decide | omega) rfl rfl (Nat.le_of_ble_eq_true rfl) (c_X11_within E S G event 0 (z1 - 1) (by first | decide | omega) (by first | decide | omega) (by first | decide | omega) (by first | decide | omega) (by first | decide | omega) (by first | decide | omega)) ?_
  rintro _ _ _ ⟨rfl, rfl, z3, rfl, (⟨rfl, f4, f5⟩ | ⟨rfl, f6⟩)⟩
  · skip
    exact r_retZ hX hP rfl rfl (by first | decide | omega) (by first | decide | omega) (by first | decide | omega) (by first | decide | omega) ⟨rfl, rfl, 1, rfl, (by first | decide | omega)⟩
  · skip
    exact r_retZ hX hP rfl rfl (by first | decide | omega) (by first | decide | omega) (by first | decide | omega) (by first | decide | omega) ⟨rfl, rfl, 0, rfl, (by first | decide | omega)⟩
set_option maxRecDepth 100000 in
set_option maxHeartbeats 4000000 in
theorem c_X11_hasPick (E : En) (S : Sg) (G : Gh) (this : Int) (pick : Int) (hS : S this = 128) (ls_ : Int) (ls__e : ls_ = G 128 this 9) (ls__s : S ls_ = 157) (sz : Int) (sz_e : sz = G 157 ls_ 2) (pick_a : (-2147483648) ≤ pick) (pick_b : pick ≤ 2147483647) : Calls E mX11_hasPick [(2, this), (0, pick)] S G 1 0 0 (fun r S' G' => S = S' ∧ G = G' ∧ ∃ z : Int, r = some (0, z) ∧ ((z = 1 ∧ 0 ≤ pick ∧ pick + 1 ≤ sz) ∨ (z = 0))) := by
  refine calls_by [(0, (2, this)), (1, (0, pick))] rfl rfl (Nat.le_of_ble_eq_true rfl) (fun X hX => ?_)
  have hP := hPX11_hasPick
  refine r_peekI hX (tl_157 2 rfl (by decide)) ls__s (fun sz_o sz_oe sz_oa sz_ob => ?_)
  obtain rfl : sz = sz_o := sz_e.trans sz_oe.symm
  refine r_ex hX hP 3 (pc' := 3) (st' := [(2, this), (0, 0), (0, pick)]) (lo' := [(0, (2, this)), (1, (0, pick))]) rfl ?_
  refine r_getKR hX hP rfl fl_X11_41_128 hS (x := ls_) ls__e ?_
  refine r_callV gd hX hP rfl cv_X11_125_157 ls__s (d' := 0) (mc' := 0) (ms' := 0) (as' := []) (st := [(0, 0), (0, pick)]) (by first | decide | omega) (by first | decide | omega) (by first | decide | omega) rfl rfl (Nat.le_of_ble_eq_true rfl) (c_size_Lpi E S G ls_  ls__s sz sz_e) ?_
  rintro _ _ _ ⟨rfl, rfl, z1, rfl, z1a, z1b, f2⟩
  refine r_ex hX hP 2 (pc' := 11) (st' := [(0, (z1 - 1)), (0, 0), (0, pick)]) (lo' := [(0, (2, this)), (1, (0, pick))]) rfl ?_
  refine r_callS gd hX hP rfl cs_X11_103 (d' := 0) (mc' := 0) (ms' := 0) (as' := [(0, pick), (0, 0), (0, (z1 - 1))]) (st := []) (by first | decide | omega) (by first | decide | omega) (by first | decide | omega) rfl rfl (Nat.le_of_ble_eq_true rfl) (c_X11_within E S G pick 0 (z1 - 1) (by first | decide | omega) (by first | decide | omega) (by first | decide | omega) (by first | decide | omega) (by first | decide | omega) (by first | decide | omega)) ?_
  rintro _ _ _ ⟨rfl, rfl, z3, rfl, (⟨rfl, f4, f5⟩ | ⟨rfl, f6⟩)⟩
  · skip
    exact r_retZ hX hP rfl rfl (by first | decide | omega) (by first | decide | omega) (by first | decide | omega) (by first | decide | omega) ⟨rfl, rfl, 1, rfl, (by first | decide | omega)⟩
  · skip
    exact r_retZ hX hP rfl rfl (by first | decide | omega) (by first | decide | omega) (by first | decide | omega) (by first | decide | omega) ⟨rfl, rfl, 0, rfl, (by first | decide | omega)⟩
set_option maxRecDepth 100000 in
set_option maxHeartbeats 4000000 in
theorem c_X11_hasOption (E : En) (S : Sg) (G : Gh) (this : Int) (option_ : Int) (hS : S this = 128) (ls_ : Int) (ls__e : ls_ = G 128 this 10) (ls__s : S ls_ = 158) (sz : Int) (sz_e : sz = G 158 ls_ 2) (option__a : (-2147483648) ≤ option_) (option__b : option_ ≤ 2147483647) : Calls E mX11_hasOption [(2, this), (0, option_)] S G 1 0 0 (fun r S' G' => S = S' ∧ G = G' ∧ ∃ z : Int, r = some (0, z) ∧ ((z = 1 ∧ 0 ≤ option_ ∧ option_ + 1 ≤ sz) ∨ (z = 0))) := by
  refine calls_by [(0, (2, this)), (1, (0, option_))] rfl rfl (Nat.le_of_ble_eq_true rfl) (fun X hX => ?_)
  have hP := hPX11_hasOption
  refine r_peekI hX (tl_158 2 rfl (by decide)) ls__s (fun sz_o sz_oe sz_oa sz_ob => ?_)
  obtain rfl : sz = sz_o := sz_e.trans sz_oe.symm
  refine r_ex hX hP 3 (pc' := 3) (st' := [(2, this), (0, 0), (0, option_)]) (lo' := [(0, (2, this)), (1, (0, option_))]) rfl ?_
  refine r_getKR hX hP rfl fl_X11_45_128 hS (x := ls_) ls__e ?_
  refine r_callV gd hX hP rfl cv_X11_125_158 ls__s (d' := 0) (mc' := 0) (ms' := 0) (as' := []) (st := [(0, 0), (0, option_)]) (by first | decide | omega) (by first | decide | omega) (by first | decide | omega) rfl rfl (Nat.le_of_ble_eq_true rfl) (c_size_Lop E S G ls_  ls__s sz sz_e) ?_
  rintro _ _ _ ⟨rfl, rfl, z1, rfl, z1a, z1b, f2⟩
  refine r_ex hX hP 2 (pc' := 11) (st' := [(0, (z1 - 1)), (0, 0), (0, option_)]) (lo' := [(0, (2, this)), (1, (0, option_))]) rfl ?_
  refine r_callS gd hX hP rfl cs_X11_103 (d' := 0) (mc' := 0) (ms' := 0) (as' := [(0, option_), (0, 0), (0, (z1 - 1))]) (st := []) (by first | decide | omega) (by first | decide | omega) (by first | decide | omega) rfl rfl (Nat.le_of_ble_eq_true rfl) (c_X11_within E S G option_ 0 (z1 - 1) (by first | decide | omega) (by first | decide | omega) (by first | decide | omega) (by first | decide | omega) (by first | decide | omega) (by first | decide | omega)) ?_
  rintro _ _ _ ⟨rfl, rfl, z3, rfl, (⟨rfl, f4, f5⟩ | ⟨rfl, f6⟩)⟩
  · skip
    exact r_retZ hX hP rfl rfl (by first | decide | omega) (by first | decide | omega) (by first | decide | omega) (by first | decide | omega) ⟨rfl, rfl, 1, rfl, (by first | decide | omega)⟩
  · skip
    exact r_retZ hX hP rfl rfl (by first | decide | omega) (by first | decide | omega) (by first | decide | omega) (by first | decide | omega) ⟨rfl, rfl, 0, rfl, (by first | decide | omega)⟩
set_option maxRecDepth 100000 in
set_option maxHeartbeats 4000000 in
theorem c_X11_hasChoice (E : En) (S : Sg) (G : Gh) (this : Int) (event : Int) (choice : Int) (hS : S this = 128) (evl : Int) (evl_e : evl = G 128 this 8) (evl_s : S evl = 156) (evn : Int) (evn_e : evn = G 156 evl 2) (event_a : (-2147483648) ≤ event) (event_b : event ≤ 2147483647) (choice_a : (-2147483648) ≤ choice) (choice_b : choice ≤ 2147483647) (ci : CI E S G) : Calls E mX11_hasChoice [(2, this), (0, event), (0, choice)] S G 3 0 0 (fun r S' G' => S = S' ∧ G = G' ∧ ∃ z : Int, r = some (0, z) ∧ ((z = 1 ∧ 0 ≤ event ∧ event + 1 ≤ evn ∧ 0 ≤ choice ∧ choice ≤ 2) ∨ (z = 0))) := by
  refine calls_by [(0, (2, this)), (1, (0, event)), (2, (0, choice))] rfl rfl (Nat.le_of_ble_eq_true rfl) (fun X hX => ?_)
  have hP := hPX11_hasChoice
  refine r_peekI hX (tl_156 2 rfl (by decide)) evl_s (fun evn_o evn_oe evn_oa evn_ob => ?_)
  obtain rfl : evn = evn_o := evn_e.trans evn_oe.symm
  refine r_ex hX hP 2 (pc' := 2) (st' := [(0, event), (2, this)]) (lo' := [(0, (2, this)), (1, (0, event)), (2, (0, choice))]) rfl ?_
  refine r_callV gd hX hP rfl cv_X11_193_128 hS (d' := 1) (mc' := 0) (ms' := 0) (as' := [(0, event)]) (st := []) (by first | decide | omega) (by first | decide | omega) (by first | decide | omega) rfl rfl (Nat.le_of_ble_eq_true rfl) (c_X11_hasEvent E S G this event hS evl evl_e evl_s evn evn_e (by first | decide | omega) (by first | decide | omega)) ?_
  rintro _ _ _ ⟨rfl, rfl, z1, rfl, (⟨rfl, f2, f3⟩ | rfl)⟩
  · skip
    refine r_if_eq hX hP rfl (tgt := 39) rfl (by first | decide | omega) (by first | decide | omega) (fun c4 => ?_) (fun c4 => ?_)
    · skip
      exfalso; omega
    · skip
      refine r_ex hX hP 3 (pc' := 11) (st' := [(2, this), (0, 0), (0, choice)]) (lo' := [(0, (2, this)), (1, (0, event)), (2, (0, choice))]) rfl ?_
      refine r_getKR hX hP rfl fl_X11_37_128 hS (x := evl) evl_e ?_
      refine r_ex hX hP 1 (pc' := 15) (st' := [(0, event), (2, evl), (0, 0), (0, choice)]) (lo' := [(0, (2, this)), (1, (0, event)), (2, (0, choice))]) rfl ?_
      refine r_callV gd hX hP rfl cv_X11_196_156 evl_s (d' := 2) (mc' := 0) (ms' := 0) (as' := [(0, event)]) (st := [(0, 0), (0, choice)]) (by first | decide | omega) (by first | decide | omega) (by first | decide | omega) rfl rfl (Nat.le_of_ble_eq_true rfl) (c_get_Lev E S G evl event evl_s evn evn_e (by first | decide | omega) (by first | decide | omega) (by first | decide | omega) ci) ?_
      rintro _ _ _ ⟨rfl, rfl, z5, rfl, z5s⟩
      refine r_cast hX hP rfl (tbg sg4 200 rfl rfl) ck_137_X2 z5s ?_
      refine r_getR hX hP rfl fl_X11_200_137 z5s (fun tf6 tf6e tf6s => ?_)
      refine r_getI hX hP rfl fl_X11_204_136 tf6s (fun cf7 cf7e cf7a cf7b => ?_)
      refine r_ex hX hP 2 (pc' := 29) (st' := [(0, (cf7 - 1)), (0, 0), (0, choice)]) (lo' := [(0, (2, this)), (1, (0, event)), (2, (0, choice))]) rfl ?_
      refine r_callS gd hX hP rfl cs_X11_103 (d' := 0) (mc' := 0) (ms' := 0) (as' := [(0, choice), (0, 0), (0, (cf7 - 1))]) (st := []) (by first | decide | omega) (by first | decide | omega) (by first | decide | omega) rfl rfl (Nat.le_of_ble_eq_true rfl) (c_X11_within E S G choice 0 (cf7 - 1) (by first | decide | omega) (by first | decide | omega) (by first | decide | omega) (by first | decide | omega) (by first | decide | omega) (by first | decide | omega)) ?_
      rintro _ _ _ ⟨rfl, rfl, z8, rfl, (⟨rfl, f9, f10⟩ | ⟨rfl, f11⟩)⟩
      · skip
        refine r_if_eq hX hP rfl (tgt := 39) rfl (by first | decide | omega) (by first | decide | omega) (fun c12 => ?_) (fun c12 => ?_)
        · skip
          exfalso; omega
        · skip
          refine r_ex hX hP 2 (pc' := 40) (st' := [(0, 1)]) (lo' := [(0, (2, this)), (1, (0, event)), (2, (0, choice))]) rfl ?_
          exact r_retZ hX hP rfl rfl (by first | decide | omega) (by first | decide | omega) (by first | decide | omega) (by first | decide | omega) ⟨rfl, rfl, 1, rfl, (by first | decide | omega)⟩
      · skip
        refine r_if_eq hX hP rfl (tgt := 39) rfl (by first | decide | omega) (by first | decide | omega) (fun c13 => ?_) (fun c13 => ?_)
        · skip
          refine r_ex hX hP 1 (pc' := 40) (st' := [(0, 0)]) (lo' := [(0, (2, this)), (1, (0, event)), (2, (0, choice))]) rfl ?_
          exact r_retZ hX hP rfl rfl (by first | decide | omega) (by first | decide | omega) (by first | decide | omega) (by first | decide | omega) ⟨rfl, rfl, 0, rfl, (by first | decide | omega)⟩
        · skip
          exfalso; omega
  · skip
    refine r_if_eq hX hP rfl (tgt := 39) rfl (by first | decide | omega) (by first | decide | omega) (fun c14 => ?_) (fun c14 => ?_)
    · skip
      refine r_ex hX hP 1 (pc' := 40) (st' := [(0, 0)]) (lo' := [(0, (2, this)), (1, (0, event)), (2, (0, choice))]) rfl ?_
      exact r_retZ hX hP rfl rfl (by first | decide | omega) (by first | decide | omega) (by first | decide | omega) (by first | decide | omega) ⟨rfl, rfl, 0, rfl, (by first | decide | omega)⟩
    · skip
      exfalso; omega
set_option maxRecDepth 100000 in
set_option maxHeartbeats 4000000 in
theorem c_X11_status (E : En) (S : Sg) (G : Gh) (this : Int) (hS : S this = 128) : Calls E mX11_status [(2, this)] S G 0 0 0 (fun r S' G' => S = S' ∧ G = G' ∧ ∃ z : Int, r = some (0, z) ∧ (-2147483648) ≤ z ∧ z ≤ 2147483647) := by
  refine calls_by [(0, (2, this))] rfl rfl (Nat.le_of_ble_eq_true rfl) (fun X hX => ?_)
  have hP := hPX11_status
  refine r_ex hX hP 1 (pc' := 1) (st' := [(2, this)]) (lo' := [(0, (2, this))]) rfl ?_
  refine r_getI hX hP rfl fl_X11_82_128 hS (fun sf1 sf1e sf1a sf1b => ?_)
  exact r_retI hX hP rfl rfl (by first | decide | omega) (by first | decide | omega) ⟨rfl, rfl, sf1, rfl, (by first | decide | omega)⟩
set_option maxRecDepth 100000 in
set_option maxHeartbeats 4000000 in
theorem c_X11_upper (E : En) (S : Sg) (G : Gh) (this : Int) (hS : S this = 128) : Calls E mX11_upper [(2, this)] S G 0 0 0 (fun r S' G' => S = S' ∧ G = G' ∧ ∃ z : Int, r = some (1, z) ∧ (-9223372036854775808) ≤ z ∧ z ≤ 9223372036854775807) := by
  refine calls_by [(0, (2, this))] rfl rfl (Nat.le_of_ble_eq_true rfl) (fun X hX => ?_)
  have hP := hPX11_upper
  refine r_ex hX hP 1 (pc' := 1) (st' := [(2, this)]) (lo' := [(0, (2, this))]) rfl ?_
  refine r_getL hX hP rfl fl_X11_364_128 hS (fun sf1 sf1e sf1a sf1b => ?_)
  exact r_retL hX hP rfl rfl (by first | decide | omega) (by first | decide | omega) ⟨rfl, rfl, sf1, rfl, (by first | decide | omega)⟩
set_option maxRecDepth 100000 in
set_option maxHeartbeats 4000000 in
theorem c_X11_lower (E : En) (S : Sg) (G : Gh) (this : Int) (hS : S this = 128) : Calls E mX11_lower [(2, this)] S G 0 0 0 (fun r S' G' => S = S' ∧ G = G' ∧ ∃ z : Int, r = some (1, z) ∧ (-9223372036854775808) ≤ z ∧ z ≤ 9223372036854775807) := by
  refine calls_by [(0, (2, this))] rfl rfl (Nat.le_of_ble_eq_true rfl) (fun X hX => ?_)
  have hP := hPX11_lower
  refine r_ex hX hP 1 (pc' := 1) (st' := [(2, this)]) (lo' := [(0, (2, this))]) rfl ?_
  refine r_getL hX hP rfl fl_X11_9_128 hS (fun sf1 sf1e sf1a sf1b => ?_)
  exact r_retL hX hP rfl rfl (by first | decide | omega) (by first | decide | omega) ⟨rfl, rfl, sf1, rfl, (by first | decide | omega)⟩
set_option maxRecDepth 100000 in
set_option maxHeartbeats 4000000 in
theorem c_X11_own (E : En) (S : Sg) (G : Gh) (this : Int) (account : Int) (paper : Int) (day : Int) (hS : S this = 128) (account_a : (-2147483648) ≤ account) (account_b : account ≤ 2147483647) (paper_a : (-2147483648) ≤ paper) (paper_b : paper ≤ 2147483647) (day_a : (-2147483648) ≤ day) (day_b : day ≤ 2147483647) (ci : CI E S G) : Calls E mX11_own [(2, this), (0, account), (0, paper), (0, day)] S G 7 0 0 (fun r S' G' => S = S' ∧ (∃ G1, hw [(93, -1), (95, -1), (96, -1), (97, -1), (115, -1), (116, -1), (118, -1), (119, -1), (125, -1), (126, -1), (127, -1), (128, 0), (129, 1), (129, 2), (129, 15), (129, 16)] G G1 = G') ∧ ∃ z : Int, r = some (0, z) ∧ (-2147483648) ≤ z ∧ z ≤ 2147483647) := by
  refine calls_by [(0, (2, this)), (1, (0, account)), (2, (0, paper)), (3, (0, day))] rfl rfl (Nat.le_of_ble_eq_true rfl) (fun X hX => ?_)
  have hP := hPX11_own
  refine r_ex hX hP 3 (pc' := 3) (st' := [(0, account), (2, this), (2, this)]) (lo' := [(0, (2, this)), (1, (0, account)), (2, (0, paper)), (3, (0, day))]) rfl ?_
  refine r_peekR hX (tl_128 5 rfl (by decide)) hS (fun acp1 acp1e acp1s => ?_)
  refine r_peekI hX (tl_130 0 rfl (by decide)) acp1s (fun cop2 cop2e cop2a cop2b => ?_)
  refine r_callV gd hX hP rfl cv_X11_100_128 hS (d' := 1) (mc' := 0) (ms' := 0) (as' := [(0, account)]) (st := [(2, this)]) (by first | decide | omega) (by first | decide | omega) (by first | decide | omega) rfl rfl (Nat.le_of_ble_eq_true rfl) (c_X11_hasAccount E S G this account hS acp1 acp1e acp1s cop2 cop2e (by first | decide | omega) (by first | decide | omega)) ?_
  rintro _ _ _ ⟨rfl, rfl, z3, rfl, (⟨rfl, f4, f5⟩ | rfl)⟩
  · skip
    refine r_if_eq hX hP rfl (tgt := 16) rfl (by first | decide | omega) (by first | decide | omega) (fun c6 => ?_) (fun c6 => ?_)
    · skip
      exfalso; omega
    · skip
      refine r_ex hX hP 1 (pc' := 10) (st' := [(0, paper), (2, this)]) (lo' := [(0, (2, this)), (1, (0, account)), (2, (0, paper)), (3, (0, day))]) rfl ?_
      refine r_callS gd hX hP rfl cs_X11_120 (d' := 1) (mc' := 0) (ms' := 0) (as' := [(0, paper)]) (st := [(2, this)]) (by first | decide | omega) (by first | decide | omega) (by first | decide | omega) rfl rfl (Nat.le_of_ble_eq_true rfl) (c_X11_isPaper E S G paper (by first | decide | omega) (by first | decide | omega)) ?_
      rintro _ _ _ ⟨rfl, rfl, z7, rfl, (⟨rfl, f8, f9⟩ | rfl)⟩
      · skip
        refine r_if_ne hX hP rfl (tgt := 20) rfl (by first | decide | omega) (by first | decide | omega) (fun c10 => ?_) (fun c10 => ?_)
        · skip
          refine r_ex hX hP 2 (pc' := 22) (st' := [(0, day), (0, 0), (2, this)]) (lo' := [(0, (2, this)), (1, (0, account)), (2, (0, paper)), (3, (0, day))]) rfl ?_
          refine r_callS gd hX hP rfl cs_X11_86 (d' := 1) (mc' := 0) (ms' := 0) (as' := [(0, day)]) (st := [(0, 0), (2, this)]) (by first | decide | omega) (by first | decide | omega) (by first | decide | omega) rfl rfl (Nat.le_of_ble_eq_true rfl) (c_X11_isDay E S G day (by first | decide | omega) (by first | decide | omega)) ?_
          rintro _ _ _ ⟨rfl, rfl, z11, rfl, (⟨rfl, f12, f13⟩ | ⟨rfl, f14⟩)⟩
          · skip
            refine r_if_ne hX hP rfl (tgt := 32) rfl (by first | decide | omega) (by first | decide | omega) (fun c15 => ?_) (fun c15 => ?_)
            · skip
              refine r_ex hX hP 3 (pc' := 35) (st' := [(0, 0), (0, 0), (0, 0), (0, 0), (2, this)]) (lo' := [(0, (2, this)), (1, (0, account)), (2, (0, paper)), (3, (0, day))]) rfl ?_
              refine r_callS gd hX hP rfl cs_X11_112 (d' := 0) (mc' := 0) (ms' := 0) (as' := [(0, 0), (0, 0), (0, 0), (0, 0)]) (st := [(2, this)]) (by first | decide | omega) (by first | decide | omega) (by first | decide | omega) rfl rfl (Nat.le_of_ble_eq_true rfl) (c_X11_first E S G 0 0 0 0 (by first | decide | omega) (by first | decide | omega) (by first | decide | omega) (by first | decide | omega) (by first | decide | omega) (by first | decide | omega) (by first | decide | omega) (by first | decide | omega)) ?_
              rintro _ _ _ ⟨rfl, rfl, z16, rfl, (⟨rfl, f17⟩ | ⟨rfl, f18, f19⟩ | ⟨rfl, f20, f21, f22⟩ | ⟨rfl, f23, f24, f25, f26⟩ | ⟨rfl, f27, f28, f29, f30⟩)⟩
              · skip
                exfalso; omega
              · skip
                exfalso; omega
              · skip
                exfalso; omega
              · skip
                exfalso; omega
              · skip
                refine r_callV gd hX hP rfl cv_X11_90_128 hS (d' := 0) (mc' := 0) (ms' := 0) (as' := [(0, 0)]) (st := []) (by first | decide | omega) (by first | decide | omega) (by first | decide | omega) rfl rfl (Nat.le_of_ble_eq_true rfl) (c_X11_refused E S G this 0 hS (by first | decide | omega) (by first | decide | omega)) ?_
                rintro _ _ _ ⟨rfl, ⟨G31, rfl⟩, z32, rfl, (⟨rfl, f33⟩ | ⟨rfl, f34⟩)⟩
                · skip
                  exfalso; omega
                · skip
                  refine r_if_eq hX hP rfl (tgt := 46) rfl (by first | decide | omega) (by first | decide | omega) (fun c35 => ?_) (fun c35 => ?_)
                  · skip
                    refine r_ex hX hP 1 (pc' := 47) (st' := [(2, this)]) (lo' := [(0, (2, this)), (1, (0, account)), (2, (0, paper)), (3, (0, day))]) rfl ?_
                    refine r_getR hX hP rfl fl_X11_16_128 hS (fun rf36 rf36e rf36s => ?_)
                    refine r_ex hX hP 1 (pc' := 51) (st' := [(0, day), (2, rf36)]) (lo' := [(0, (2, this)), (1, (0, account)), (2, (0, paper)), (3, (0, day))]) rfl ?_
                    have ci37 : CI E S (hw [(128, 0)] G G31) := (ci_hw ci rfl)
                    refine r_callV gd hX hP rfl cv_X11_233_129 rf36s (d' := 6) (mc' := 0) (ms' := 0) (as' := [(0, day)]) (st := []) (by first | decide | omega) (by first | decide | omega) (by first | decide | omega) rfl rfl (Nat.le_of_ble_eq_true rfl) (c_X8_to E S (hw [(128, 0)] G G31) rf36 day rf36s (by first | decide | omega) (by first | decide | omega) ci37) ?_
                    rintro _ _ _ ⟨rfl, ⟨G38, rfl⟩, rfl, -⟩
                    refine r_ex hX hP 2 (pc' := 56) (st' := [(2, this), (2, this)]) (lo' := [(0, (2, this)), (1, (0, account)), (2, (0, paper)), (3, (0, day))]) rfl ?_
                    refine r_getKR hX hP rfl fl_X11_16_128 hS (x := rf36) rf36e ?_
                    refine r_getI hX hP rfl fl_X11_235_129 rf36s (fun of39 of39e of39a of39b => ?_)
                    refine r_if_eq hX hP rfl (tgt := 70) rfl (by first | decide | omega) (by first | decide | omega) (fun c40 => ?_) (fun c40 => ?_)
                    · skip
                      refine r_ex hX hP 1 (pc' := 71) (st' := [(0, 0), (2, this)]) (lo' := [(0, (2, this)), (1, (0, account)), (2, (0, paper)), (3, (0, day))]) rfl ?_
                      refine r_callV gd hX hP rfl cv_X11_90_128 hS (d' := 0) (mc' := 0) (ms' := 0) (as' := [(0, 0)]) (st := []) (by first | decide | omega) (by first | decide | omega) (by first | decide | omega) rfl rfl (Nat.le_of_ble_eq_true rfl) (c_X11_refused E S (hw [(93, -1), (95, -1), (96, -1), (97, -1), (115, -1), (116, -1), (118, -1), (119, -1), (125, -1), (126, -1), (127, -1), (129, 1), (129, 2), (129, 15), (129, 16)] (hw [(128, 0)] G G31) G38) this 0 hS (by first | decide | omega) (by first | decide | omega)) ?_
                      rintro _ _ _ ⟨rfl, ⟨G41, rfl⟩, z42, rfl, (⟨rfl, f43⟩ | ⟨rfl, f44⟩)⟩
                      · skip
                        exfalso; omega
                      · skip
                        refine r_if_eq hX hP rfl (tgt := 79) rfl (by first | decide | omega) (by first | decide | omega) (fun c45 => ?_) (fun c45 => ?_)
                        · skip
                          refine r_ex hX hP 1 (pc' := 80) (st' := [(2, this)]) (lo' := [(0, (2, this)), (1, (0, account)), (2, (0, paper)), (3, (0, day))]) rfl ?_
                          refine r_getKR hX hP rfl fl_X11_16_128 hS (x := rf36) rf36e ?_
                          refine r_getR hX hP rfl fl_X11_238_129 rf36s (fun hf46 hf46e hf46s => ?_)
                          refine r_ex hX hP 1 (pc' := 87) (st' := [(0, paper), (2, hf46)]) (lo' := [(0, (2, this)), (1, (0, account)), (2, (0, paper)), (3, (0, day))]) rfl ?_
                          refine r_aald hX hP rfl al_114 rfl hf46s (by first | decide | omega) (by first | decide | omega) (fun r47 r47e r47s => ?_)
                          refine r_ex hX hP 1 (pc' := 89) (st' := [(0, account), (2, r47)]) (lo' := [(0, (2, this)), (1, (0, account)), (2, (0, paper)), (3, (0, day))]) rfl ?_
                          refine r_lald hX hP rfl al_95 r47s (by first | decide | omega) (by first | decide | omega) (fun x48 x48e x48a x48b => ?_)
                          refine r_ex hX hP 1 (pc' := 91) (st' := [(0, x48)]) (lo' := [(0, (2, this)), (1, (0, account)), (2, (0, paper)), (3, (0, day))]) rfl ?_
                          refine r_hvI hX (fun w49 w49a w49b w49e => ?_)
                          exact r_retI hX hP rfl rfl (by first | decide | omega) (by first | decide | omega) ⟨rfl, ⟨_, (hw_sub (hw_sub (hw_sub (hw_refl _ _) rfl) rfl) rfl).symm⟩, w49, rfl, (by first | decide | omega)⟩
                        · skip
                          exfalso; omega
                    · skip
                      refine r_ex hX hP 2 (pc' := 71) (st' := [(0, 8), (2, this)]) (lo' := [(0, (2, this)), (1, (0, account)), (2, (0, paper)), (3, (0, day))]) rfl ?_
                      refine r_callV gd hX hP rfl cv_X11_90_128 hS (d' := 0) (mc' := 0) (ms' := 0) (as' := [(0, 8)]) (st := []) (by first | decide | omega) (by first | decide | omega) (by first | decide | omega) rfl rfl (Nat.le_of_ble_eq_true rfl) (c_X11_refused E S (hw [(93, -1), (95, -1), (96, -1), (97, -1), (115, -1), (116, -1), (118, -1), (119, -1), (125, -1), (126, -1), (127, -1), (129, 1), (129, 2), (129, 15), (129, 16)] (hw [(128, 0)] G G31) G38) this 8 hS (by first | decide | omega) (by first | decide | omega)) ?_
                      rintro _ _ _ ⟨rfl, ⟨G50, rfl⟩, z51, rfl, (⟨rfl, f52⟩ | ⟨rfl, f53⟩)⟩
                      · skip
                        refine r_if_eq hX hP rfl (tgt := 79) rfl (by first | decide | omega) (by first | decide | omega) (fun c54 => ?_) (fun c54 => ?_)
                        · skip
                          exfalso; omega
                        · skip
                          refine r_ex hX hP 1 (pc' := 78) (st' := [(0, (-1))]) (lo' := [(0, (2, this)), (1, (0, account)), (2, (0, paper)), (3, (0, day))]) rfl ?_
                          exact r_retI hX hP rfl rfl (by first | decide | omega) (by first | decide | omega) ⟨rfl, ⟨_, (hw_sub (hw_sub (hw_sub (hw_refl _ _) rfl) rfl) rfl).symm⟩, (-1), rfl, (by first | decide | omega)⟩
                      · skip
                        exfalso; omega
                  · skip
                    exfalso; omega
            · skip
              exfalso; omega
          · skip
            refine r_if_ne hX hP rfl (tgt := 32) rfl (by first | decide | omega) (by first | decide | omega) (fun c55 => ?_) (fun c55 => ?_)
            · skip
              exfalso; omega
            · skip
              refine r_ex hX hP 4 (pc' := 35) (st' := [(0, 0), (0, 0), (0, 1), (0, 0), (2, this)]) (lo' := [(0, (2, this)), (1, (0, account)), (2, (0, paper)), (3, (0, day))]) rfl ?_
              refine r_callS gd hX hP rfl cs_X11_112 (d' := 0) (mc' := 0) (ms' := 0) (as' := [(0, 0), (0, 1), (0, 0), (0, 0)]) (st := [(2, this)]) (by first | decide | omega) (by first | decide | omega) (by first | decide | omega) rfl rfl (Nat.le_of_ble_eq_true rfl) (c_X11_first E S G 0 1 0 0 (by first | decide | omega) (by first | decide | omega) (by first | decide | omega) (by first | decide | omega) (by first | decide | omega) (by first | decide | omega) (by first | decide | omega) (by first | decide | omega)) ?_
              rintro _ _ _ ⟨rfl, rfl, z56, rfl, (⟨rfl, f57⟩ | ⟨rfl, f58, f59⟩ | ⟨rfl, f60, f61, f62⟩ | ⟨rfl, f63, f64, f65, f66⟩ | ⟨rfl, f67, f68, f69, f70⟩)⟩
              · skip
                exfalso; omega
              · skip
                refine r_callV gd hX hP rfl cv_X11_90_128 hS (d' := 0) (mc' := 0) (ms' := 0) (as' := [(0, 2)]) (st := []) (by first | decide | omega) (by first | decide | omega) (by first | decide | omega) rfl rfl (Nat.le_of_ble_eq_true rfl) (c_X11_refused E S G this 2 hS (by first | decide | omega) (by first | decide | omega)) ?_
                rintro _ _ _ ⟨rfl, ⟨G71, rfl⟩, z72, rfl, (⟨rfl, f73⟩ | ⟨rfl, f74⟩)⟩
                · skip
                  refine r_if_eq hX hP rfl (tgt := 46) rfl (by first | decide | omega) (by first | decide | omega) (fun c75 => ?_) (fun c75 => ?_)
                  · skip
                    exfalso; omega
                  · skip
                    refine r_ex hX hP 1 (pc' := 45) (st' := [(0, (-1))]) (lo' := [(0, (2, this)), (1, (0, account)), (2, (0, paper)), (3, (0, day))]) rfl ?_
                    exact r_retI hX hP rfl rfl (by first | decide | omega) (by first | decide | omega) ⟨rfl, ⟨_, (hw_sub (hw_refl _ _) rfl).symm⟩, (-1), rfl, (by first | decide | omega)⟩
                · skip
                  exfalso; omega
              · skip
                exfalso; omega
              · skip
                exfalso; omega
              · skip
                exfalso; omega
        · skip
          exfalso; omega
      · skip
        refine r_if_ne hX hP rfl (tgt := 20) rfl (by first | decide | omega) (by first | decide | omega) (fun c76 => ?_) (fun c76 => ?_)
        · skip
          exfalso; omega
        · skip
          refine r_ex hX hP 3 (pc' := 22) (st' := [(0, day), (0, 1), (2, this)]) (lo' := [(0, (2, this)), (1, (0, account)), (2, (0, paper)), (3, (0, day))]) rfl ?_
          refine r_callS gd hX hP rfl cs_X11_86 (d' := 1) (mc' := 0) (ms' := 0) (as' := [(0, day)]) (st := [(0, 1), (2, this)]) (by first | decide | omega) (by first | decide | omega) (by first | decide | omega) rfl rfl (Nat.le_of_ble_eq_true rfl) (c_X11_isDay E S G day (by first | decide | omega) (by first | decide | omega)) ?_
          rintro _ _ _ ⟨rfl, rfl, z77, rfl, (⟨rfl, f78, f79⟩ | ⟨rfl, f80⟩)⟩
          · skip
            refine r_if_ne hX hP rfl (tgt := 32) rfl (by first | decide | omega) (by first | decide | omega) (fun c81 => ?_) (fun c81 => ?_)
            · skip
              refine r_ex hX hP 3 (pc' := 35) (st' := [(0, 0), (0, 0), (0, 0), (0, 1), (2, this)]) (lo' := [(0, (2, this)), (1, (0, account)), (2, (0, paper)), (3, (0, day))]) rfl ?_
              refine r_callS gd hX hP rfl cs_X11_112 (d' := 0) (mc' := 0) (ms' := 0) (as' := [(0, 1), (0, 0), (0, 0), (0, 0)]) (st := [(2, this)]) (by first | decide | omega) (by first | decide | omega) (by first | decide | omega) rfl rfl (Nat.le_of_ble_eq_true rfl) (c_X11_first E S G 1 0 0 0 (by first | decide | omega) (by first | decide | omega) (by first | decide | omega) (by first | decide | omega) (by first | decide | omega) (by first | decide | omega) (by first | decide | omega) (by first | decide | omega)) ?_
              rintro _ _ _ ⟨rfl, rfl, z82, rfl, (⟨rfl, f83⟩ | ⟨rfl, f84, f85⟩ | ⟨rfl, f86, f87, f88⟩ | ⟨rfl, f89, f90, f91, f92⟩ | ⟨rfl, f93, f94, f95, f96⟩)⟩
              · skip
                refine r_callV gd hX hP rfl cv_X11_90_128 hS (d' := 0) (mc' := 0) (ms' := 0) (as' := [(0, 1)]) (st := []) (by first | decide | omega) (by first | decide | omega) (by first | decide | omega) rfl rfl (Nat.le_of_ble_eq_true rfl) (c_X11_refused E S G this 1 hS (by first | decide | omega) (by first | decide | omega)) ?_
                rintro _ _ _ ⟨rfl, ⟨G97, rfl⟩, z98, rfl, (⟨rfl, f99⟩ | ⟨rfl, f100⟩)⟩
                · skip
                  refine r_if_eq hX hP rfl (tgt := 46) rfl (by first | decide | omega) (by first | decide | omega) (fun c101 => ?_) (fun c101 => ?_)
                  · skip
                    exfalso; omega
                  · skip
                    refine r_ex hX hP 1 (pc' := 45) (st' := [(0, (-1))]) (lo' := [(0, (2, this)), (1, (0, account)), (2, (0, paper)), (3, (0, day))]) rfl ?_
                    exact r_retI hX hP rfl rfl (by first | decide | omega) (by first | decide | omega) ⟨rfl, ⟨_, (hw_sub (hw_refl _ _) rfl).symm⟩, (-1), rfl, (by first | decide | omega)⟩
                · skip
                  exfalso; omega
              · skip
                exfalso; omega
              · skip
                exfalso; omega
              · skip
                exfalso; omega
              · skip
                exfalso; omega
            · skip
              exfalso; omega
          · skip
            refine r_if_ne hX hP rfl (tgt := 32) rfl (by first | decide | omega) (by first | decide | omega) (fun c102 => ?_) (fun c102 => ?_)
            · skip
              exfalso; omega
            · skip
              refine r_ex hX hP 4 (pc' := 35) (st' := [(0, 0), (0, 0), (0, 1), (0, 1), (2, this)]) (lo' := [(0, (2, this)), (1, (0, account)), (2, (0, paper)), (3, (0, day))]) rfl ?_
              refine r_callS gd hX hP rfl cs_X11_112 (d' := 0) (mc' := 0) (ms' := 0) (as' := [(0, 1), (0, 1), (0, 0), (0, 0)]) (st := [(2, this)]) (by first | decide | omega) (by first | decide | omega) (by first | decide | omega) rfl rfl (Nat.le_of_ble_eq_true rfl) (c_X11_first E S G 1 1 0 0 (by first | decide | omega) (by first | decide | omega) (by first | decide | omega) (by first | decide | omega) (by first | decide | omega) (by first | decide | omega) (by first | decide | omega) (by first | decide | omega)) ?_
              rintro _ _ _ ⟨rfl, rfl, z103, rfl, (⟨rfl, f104⟩ | ⟨rfl, f105, f106⟩ | ⟨rfl, f107, f108, f109⟩ | ⟨rfl, f110, f111, f112, f113⟩ | ⟨rfl, f114, f115, f116, f117⟩)⟩
              · skip
                refine r_callV gd hX hP rfl cv_X11_90_128 hS (d' := 0) (mc' := 0) (ms' := 0) (as' := [(0, 1)]) (st := []) (by first | decide | omega) (by first | decide | omega) (by first | decide | omega) rfl rfl (Nat.le_of_ble_eq_true rfl) (c_X11_refused E S G this 1 hS (by first | decide | omega) (by first | decide | omega)) ?_
                rintro _ _ _ ⟨rfl, ⟨G118, rfl⟩, z119, rfl, (⟨rfl, f120⟩ | ⟨rfl, f121⟩)⟩
                · skip
                  refine r_if_eq hX hP rfl (tgt := 46) rfl (by first | decide | omega) (by first | decide | omega) (fun c122 => ?_) (fun c122 => ?_)
                  · skip
                    exfalso; omega
                  · skip
                    refine r_ex hX hP 1 (pc' := 45) (st' := [(0, (-1))]) (lo' := [(0, (2, this)), (1, (0, account)), (2, (0, paper)), (3, (0, day))]) rfl ?_
                    exact r_retI hX hP rfl rfl (by first | decide | omega) (by first | decide | omega) ⟨rfl, ⟨_, (hw_sub (hw_refl _ _) rfl).symm⟩, (-1), rfl, (by first | decide | omega)⟩
                · skip
                  exfalso; omega
              · skip
                exfalso; omega
              · skip
                exfalso; omega
              · skip
                exfalso; omega
              · skip
                exfalso; omega
  · skip
    refine r_if_eq hX hP rfl (tgt := 16) rfl (by first | decide | omega) (by first | decide | omega) (fun c123 => ?_) (fun c123 => ?_)
    · skip
      refine r_ex hX hP 3 (pc' := 22) (st' := [(0, day), (0, 1), (2, this)]) (lo' := [(0, (2, this)), (1, (0, account)), (2, (0, paper)), (3, (0, day))]) rfl ?_
      refine r_callS gd hX hP rfl cs_X11_86 (d' := 1) (mc' := 0) (ms' := 0) (as' := [(0, day)]) (st := [(0, 1), (2, this)]) (by first | decide | omega) (by first | decide | omega) (by first | decide | omega) rfl rfl (Nat.le_of_ble_eq_true rfl) (c_X11_isDay E S G day (by first | decide | omega) (by first | decide | omega)) ?_
      rintro _ _ _ ⟨rfl, rfl, z124, rfl, (⟨rfl, f125, f126⟩ | ⟨rfl, f127⟩)⟩
      · skip
        refine r_if_ne hX hP rfl (tgt := 32) rfl (by first | decide | omega) (by first | decide | omega) (fun c128 => ?_) (fun c128 => ?_)
        · skip
          refine r_ex hX hP 3 (pc' := 35) (st' := [(0, 0), (0, 0), (0, 0), (0, 1), (2, this)]) (lo' := [(0, (2, this)), (1, (0, account)), (2, (0, paper)), (3, (0, day))]) rfl ?_
          refine r_callS gd hX hP rfl cs_X11_112 (d' := 0) (mc' := 0) (ms' := 0) (as' := [(0, 1), (0, 0), (0, 0), (0, 0)]) (st := [(2, this)]) (by first | decide | omega) (by first | decide | omega) (by first | decide | omega) rfl rfl (Nat.le_of_ble_eq_true rfl) (c_X11_first E S G 1 0 0 0 (by first | decide | omega) (by first | decide | omega) (by first | decide | omega) (by first | decide | omega) (by first | decide | omega) (by first | decide | omega) (by first | decide | omega) (by first | decide | omega)) ?_
          rintro _ _ _ ⟨rfl, rfl, z129, rfl, (⟨rfl, f130⟩ | ⟨rfl, f131, f132⟩ | ⟨rfl, f133, f134, f135⟩ | ⟨rfl, f136, f137, f138, f139⟩ | ⟨rfl, f140, f141, f142, f143⟩)⟩
          · skip
            refine r_callV gd hX hP rfl cv_X11_90_128 hS (d' := 0) (mc' := 0) (ms' := 0) (as' := [(0, 1)]) (st := []) (by first | decide | omega) (by first | decide | omega) (by first | decide | omega) rfl rfl (Nat.le_of_ble_eq_true rfl) (c_X11_refused E S G this 1 hS (by first | decide | omega) (by first | decide | omega)) ?_
            rintro _ _ _ ⟨rfl, ⟨G144, rfl⟩, z145, rfl, (⟨rfl, f146⟩ | ⟨rfl, f147⟩)⟩
            · skip
              refine r_if_eq hX hP rfl (tgt := 46) rfl (by first | decide | omega) (by first | decide | omega) (fun c148 => ?_) (fun c148 => ?_)
              · skip
                exfalso; omega
              · skip
                refine r_ex hX hP 1 (pc' := 45) (st' := [(0, (-1))]) (lo' := [(0, (2, this)), (1, (0, account)), (2, (0, paper)), (3, (0, day))]) rfl ?_
                exact r_retI hX hP rfl rfl (by first | decide | omega) (by first | decide | omega) ⟨rfl, ⟨_, (hw_sub (hw_refl _ _) rfl).symm⟩, (-1), rfl, (by first | decide | omega)⟩
            · skip
              exfalso; omega
          · skip
            exfalso; omega
          · skip
            exfalso; omega
          · skip
            exfalso; omega
          · skip
            exfalso; omega
        · skip
          exfalso; omega
      · skip
        refine r_if_ne hX hP rfl (tgt := 32) rfl (by first | decide | omega) (by first | decide | omega) (fun c149 => ?_) (fun c149 => ?_)
        · skip
          exfalso; omega
        · skip
          refine r_ex hX hP 4 (pc' := 35) (st' := [(0, 0), (0, 0), (0, 1), (0, 1), (2, this)]) (lo' := [(0, (2, this)), (1, (0, account)), (2, (0, paper)), (3, (0, day))]) rfl ?_
          refine r_callS gd hX hP rfl cs_X11_112 (d' := 0) (mc' := 0) (ms' := 0) (as' := [(0, 1), (0, 1), (0, 0), (0, 0)]) (st := [(2, this)]) (by first | decide | omega) (by first | decide | omega) (by first | decide | omega) rfl rfl (Nat.le_of_ble_eq_true rfl) (c_X11_first E S G 1 1 0 0 (by first | decide | omega) (by first | decide | omega) (by first | decide | omega) (by first | decide | omega) (by first | decide | omega) (by first | decide | omega) (by first | decide | omega) (by first | decide | omega)) ?_
          rintro _ _ _ ⟨rfl, rfl, z150, rfl, (⟨rfl, f151⟩ | ⟨rfl, f152, f153⟩ | ⟨rfl, f154, f155, f156⟩ | ⟨rfl, f157, f158, f159, f160⟩ | ⟨rfl, f161, f162, f163, f164⟩)⟩
          · skip
            refine r_callV gd hX hP rfl cv_X11_90_128 hS (d' := 0) (mc' := 0) (ms' := 0) (as' := [(0, 1)]) (st := []) (by first | decide | omega) (by first | decide | omega) (by first | decide | omega) rfl rfl (Nat.le_of_ble_eq_true rfl) (c_X11_refused E S G this 1 hS (by first | decide | omega) (by first | decide | omega)) ?_
            rintro _ _ _ ⟨rfl, ⟨G165, rfl⟩, z166, rfl, (⟨rfl, f167⟩ | ⟨rfl, f168⟩)⟩
            · skip
              refine r_if_eq hX hP rfl (tgt := 46) rfl (by first | decide | omega) (by first | decide | omega) (fun c169 => ?_) (fun c169 => ?_)
              · skip
                exfalso; omega
              · skip
                refine r_ex hX hP 1 (pc' := 45) (st' := [(0, (-1))]) (lo' := [(0, (2, this)), (1, (0, account)), (2, (0, paper)), (3, (0, day))]) rfl ?_
                exact r_retI hX hP rfl rfl (by first | decide | omega) (by first | decide | omega) ⟨rfl, ⟨_, (hw_sub (hw_refl _ _) rfl).symm⟩, (-1), rfl, (by first | decide | omega)⟩
            · skip
              exfalso; omega
          · skip
            exfalso; omega
          · skip
            exfalso; omega
          · skip
            exfalso; omega
          · skip
            exfalso; omega
    · skip
      exfalso; omega
set_option maxRecDepth 100000 in
set_option maxHeartbeats 4000000 in
theorem c_X11_total (E : En) (S : Sg) (G : Gh) (this : Int) (account : Int) (paper : Int) (day : Int) (hS : S this = 128) (account_a : (-2147483648) ≤ account) (account_b : account ≤ 2147483647) (paper_a : (-2147483648) ≤ paper) (paper_b : paper ≤ 2147483647) (day_a : (-2147483648) ≤ day) (day_b : day ≤ 2147483647) (ci : CI E S G) : Calls E mX11_total [(2, this), (0, account), (0, paper), (0, day)] S G 7 0 0 (fun r S' G' => S = S' ∧ (∃ G1, hw [(93, -1), (95, -1), (96, -1), (97, -1), (115, -1), (116, -1), (118, -1), (119, -1), (125, -1), (126, -1), (127, -1), (128, 0), (129, 1), (129, 2), (129, 15), (129, 16)] G G1 = G') ∧ ∃ z : Int, r = some (0, z) ∧ (-2147483648) ≤ z ∧ z ≤ 2147483647) := by
  refine calls_by [(0, (2, this)), (1, (0, account)), (2, (0, paper)), (3, (0, day))] rfl rfl (Nat.le_of_ble_eq_true rfl) (fun X hX => ?_)
  have hP := hPX11_total
  refine r_ex hX hP 3 (pc' := 3) (st' := [(0, account), (2, this), (2, this)]) (lo' := [(0, (2, this)), (1, (0, account)), (2, (0, paper)), (3, (0, day))]) rfl ?_
  refine r_peekR hX (tl_128 5 rfl (by decide)) hS (fun acp1 acp1e acp1s => ?_)
  refine r_peekI hX (tl_130 0 rfl (by decide)) acp1s (fun cop2 cop2e cop2a cop2b => ?_)
  refine r_callV gd hX hP rfl cv_X11_100_128 hS (d' := 1) (mc' := 0) (ms' := 0) (as' := [(0, account)]) (st := [(2, this)]) (by first | decide | omega) (by first | decide | omega) (by first | decide | omega) rfl rfl (Nat.le_of_ble_eq_true rfl) (c_X11_hasAccount E S G this account hS acp1 acp1e acp1s cop2 cop2e (by first | decide | omega) (by first | decide | omega)) ?_
  rintro _ _ _ ⟨rfl, rfl, z3, rfl, (⟨rfl, f4, f5⟩ | rfl)⟩
  · skip
    refine r_if_eq hX hP rfl (tgt := 16) rfl (by first | decide | omega) (by first | decide | omega) (fun c6 => ?_) (fun c6 => ?_)
    · skip
      exfalso; omega
    · skip
      refine r_ex hX hP 1 (pc' := 10) (st' := [(0, paper), (2, this)]) (lo' := [(0, (2, this)), (1, (0, account)), (2, (0, paper)), (3, (0, day))]) rfl ?_
      refine r_callS gd hX hP rfl cs_X11_120 (d' := 1) (mc' := 0) (ms' := 0) (as' := [(0, paper)]) (st := [(2, this)]) (by first | decide | omega) (by first | decide | omega) (by first | decide | omega) rfl rfl (Nat.le_of_ble_eq_true rfl) (c_X11_isPaper E S G paper (by first | decide | omega) (by first | decide | omega)) ?_
      rintro _ _ _ ⟨rfl, rfl, z7, rfl, (⟨rfl, f8, f9⟩ | rfl)⟩
      · skip
        refine r_if_ne hX hP rfl (tgt := 20) rfl (by first | decide | omega) (by first | decide | omega) (fun c10 => ?_) (fun c10 => ?_)
        · skip
          refine r_ex hX hP 2 (pc' := 22) (st' := [(0, day), (0, 0), (2, this)]) (lo' := [(0, (2, this)), (1, (0, account)), (2, (0, paper)), (3, (0, day))]) rfl ?_
          refine r_callS gd hX hP rfl cs_X11_86 (d' := 1) (mc' := 0) (ms' := 0) (as' := [(0, day)]) (st := [(0, 0), (2, this)]) (by first | decide | omega) (by first | decide | omega) (by first | decide | omega) rfl rfl (Nat.le_of_ble_eq_true rfl) (c_X11_isDay E S G day (by first | decide | omega) (by first | decide | omega)) ?_
          rintro _ _ _ ⟨rfl, rfl, z11, rfl, (⟨rfl, f12, f13⟩ | ⟨rfl, f14⟩)⟩
          · skip
            refine r_if_ne hX hP rfl (tgt := 32) rfl (by first | decide | omega) (by first | decide | omega) (fun c15 => ?_) (fun c15 => ?_)
            · skip
              refine r_ex hX hP 3 (pc' := 35) (st' := [(0, 0), (0, 0), (0, 0), (0, 0), (2, this)]) (lo' := [(0, (2, this)), (1, (0, account)), (2, (0, paper)), (3, (0, day))]) rfl ?_
              refine r_callS gd hX hP rfl cs_X11_112 (d' := 0) (mc' := 0) (ms' := 0) (as' := [(0, 0), (0, 0), (0, 0), (0, 0)]) (st := [(2, this)]) (by first | decide | omega) (by first | decide | omega) (by first | decide | omega) rfl rfl (Nat.le_of_ble_eq_true rfl) (c_X11_first E S G 0 0 0 0 (by first | decide | omega) (by first | decide | omega) (by first | decide | omega) (by first | decide | omega) (by first | decide | omega) (by first | decide | omega) (by first | decide | omega) (by first | decide | omega)) ?_
              rintro _ _ _ ⟨rfl, rfl, z16, rfl, (⟨rfl, f17⟩ | ⟨rfl, f18, f19⟩ | ⟨rfl, f20, f21, f22⟩ | ⟨rfl, f23, f24, f25, f26⟩ | ⟨rfl, f27, f28, f29, f30⟩)⟩
              · skip
                exfalso; omega
              · skip
                exfalso; omega
              · skip
                exfalso; omega
              · skip
                exfalso; omega
              · skip
                refine r_callV gd hX hP rfl cv_X11_90_128 hS (d' := 0) (mc' := 0) (ms' := 0) (as' := [(0, 0)]) (st := []) (by first | decide | omega) (by first | decide | omega) (by first | decide | omega) rfl rfl (Nat.le_of_ble_eq_true rfl) (c_X11_refused E S G this 0 hS (by first | decide | omega) (by first | decide | omega)) ?_
                rintro _ _ _ ⟨rfl, ⟨G31, rfl⟩, z32, rfl, (⟨rfl, f33⟩ | ⟨rfl, f34⟩)⟩
                · skip
                  exfalso; omega
                · skip
                  refine r_if_eq hX hP rfl (tgt := 46) rfl (by first | decide | omega) (by first | decide | omega) (fun c35 => ?_) (fun c35 => ?_)
                  · skip
                    refine r_ex hX hP 1 (pc' := 47) (st' := [(2, this)]) (lo' := [(0, (2, this)), (1, (0, account)), (2, (0, paper)), (3, (0, day))]) rfl ?_
                    refine r_getR hX hP rfl fl_X11_16_128 hS (fun rf36 rf36e rf36s => ?_)
                    refine r_ex hX hP 1 (pc' := 51) (st' := [(0, day), (2, rf36)]) (lo' := [(0, (2, this)), (1, (0, account)), (2, (0, paper)), (3, (0, day))]) rfl ?_
                    have ci37 : CI E S (hw [(128, 0)] G G31) := (ci_hw ci rfl)
                    refine r_callV gd hX hP rfl cv_X11_233_129 rf36s (d' := 6) (mc' := 0) (ms' := 0) (as' := [(0, day)]) (st := []) (by first | decide | omega) (by first | decide | omega) (by first | decide | omega) rfl rfl (Nat.le_of_ble_eq_true rfl) (c_X8_to E S (hw [(128, 0)] G G31) rf36 day rf36s (by first | decide | omega) (by first | decide | omega) ci37) ?_
                    rintro _ _ _ ⟨rfl, ⟨G38, rfl⟩, rfl, -⟩
                    refine r_ex hX hP 2 (pc' := 56) (st' := [(2, this), (2, this)]) (lo' := [(0, (2, this)), (1, (0, account)), (2, (0, paper)), (3, (0, day))]) rfl ?_
                    refine r_getKR hX hP rfl fl_X11_16_128 hS (x := rf36) rf36e ?_
                    refine r_getI hX hP rfl fl_X11_235_129 rf36s (fun of39 of39e of39a of39b => ?_)
                    refine r_if_eq hX hP rfl (tgt := 70) rfl (by first | decide | omega) (by first | decide | omega) (fun c40 => ?_) (fun c40 => ?_)
                    · skip
                      refine r_ex hX hP 1 (pc' := 71) (st' := [(0, 0), (2, this)]) (lo' := [(0, (2, this)), (1, (0, account)), (2, (0, paper)), (3, (0, day))]) rfl ?_
                      refine r_callV gd hX hP rfl cv_X11_90_128 hS (d' := 0) (mc' := 0) (ms' := 0) (as' := [(0, 0)]) (st := []) (by first | decide | omega) (by first | decide | omega) (by first | decide | omega) rfl rfl (Nat.le_of_ble_eq_true rfl) (c_X11_refused E S (hw [(93, -1), (95, -1), (96, -1), (97, -1), (115, -1), (116, -1), (118, -1), (119, -1), (125, -1), (126, -1), (127, -1), (129, 1), (129, 2), (129, 15), (129, 16)] (hw [(128, 0)] G G31) G38) this 0 hS (by first | decide | omega) (by first | decide | omega)) ?_
                      rintro _ _ _ ⟨rfl, ⟨G41, rfl⟩, z42, rfl, (⟨rfl, f43⟩ | ⟨rfl, f44⟩)⟩
                      · skip
                        exfalso; omega
                      · skip
                        refine r_if_eq hX hP rfl (tgt := 79) rfl (by first | decide | omega) (by first | decide | omega) (fun c45 => ?_) (fun c45 => ?_)
                        · skip
                          refine r_ex hX hP 1 (pc' := 80) (st' := [(2, this)]) (lo' := [(0, (2, this)), (1, (0, account)), (2, (0, paper)), (3, (0, day))]) rfl ?_
                          refine r_getKR hX hP rfl fl_X11_24_128 hS (x := acp1) acp1e ?_
                          refine r_ex hX hP 1 (pc' := 84) (st' := [(2, this), (2, acp1)]) (lo' := [(0, (2, this)), (1, (0, account)), (2, (0, paper)), (3, (0, day))]) rfl ?_
                          refine r_getKR hX hP rfl fl_X11_16_128 hS (x := rf36) rf36e ?_
                          refine r_getR hX hP rfl fl_X11_238_129 rf36s (fun hf46 hf46e hf46s => ?_)
                          refine r_ex hX hP 1 (pc' := 91) (st' := [(0, paper), (2, hf46), (2, acp1)]) (lo' := [(0, (2, this)), (1, (0, account)), (2, (0, paper)), (3, (0, day))]) rfl ?_
                          refine r_aald hX hP rfl al_114 rfl hf46s (by first | decide | omega) (by first | decide | omega) (fun r47 r47e r47s => ?_)
                          refine r_ex hX hP 1 (pc' := 93) (st' := [(2, this), (2, r47), (2, acp1)]) (lo' := [(0, (2, this)), (1, (0, account)), (2, (0, paper)), (3, (0, day))]) rfl ?_
                          refine r_getKR hX hP rfl fl_X11_24_128 hS (x := acp1) acp1e ?_
                          refine r_getR hX hP rfl fl_X11_242_130 acp1s (fun of48 of48e of48s => ?_)
                          refine r_callV gd hX hP rfl cv_X11_246_130 acp1s (d' := 0) (mc' := 0) (ms' := 0) (as' := [(2, r47), (2, of48)]) (st := []) (by first | decide | omega) (by first | decide | omega) (by first | decide | omega) rfl rfl (Nat.le_of_ble_eq_true rfl) (c_X0_roll E S (hw [(128, 0)] (hw [(93, -1), (95, -1), (96, -1), (97, -1), (115, -1), (116, -1), (118, -1), (119, -1), (125, -1), (126, -1), (127, -1), (129, 1), (129, 2), (129, 15), (129, 16)] (hw [(128, 0)] G G31) G38) G41) acp1 r47 of48 acp1s r47s of48s) ?_
                          rintro _ _ _ ⟨rfl, ⟨G49, rfl⟩, rfl, -⟩
                          refine r_ex hX hP 1 (pc' := 103) (st' := [(2, this)]) (lo' := [(0, (2, this)), (1, (0, account)), (2, (0, paper)), (3, (0, day))]) rfl ?_
                          refine r_getKR hX hP rfl fl_X11_24_128 hS (x := acp1) acp1e ?_
                          refine r_getKR hX hP rfl fl_X11_242_130 acp1s (x := of48) of48e ?_
                          refine r_ex hX hP 1 (pc' := 110) (st' := [(0, account), (2, of48)]) (lo' := [(0, (2, this)), (1, (0, account)), (2, (0, paper)), (3, (0, day))]) rfl ?_
                          refine r_lald hX hP rfl al_95 of48s (by first | decide | omega) (by first | decide | omega) (fun x50 x50e x50a x50b => ?_)
                          refine r_ex hX hP 1 (pc' := 112) (st' := [(0, x50)]) (lo' := [(0, (2, this)), (1, (0, account)), (2, (0, paper)), (3, (0, day))]) rfl ?_
                          refine r_hvI hX (fun w51 w51a w51b w51e => ?_)
                          exact r_retI hX hP rfl rfl (by first | decide | omega) (by first | decide | omega) ⟨rfl, ⟨_, (hw_sub (hw_sub (hw_sub (hw_sub (hw_refl _ _) rfl) rfl) rfl) rfl).symm⟩, w51, rfl, (by first | decide | omega)⟩
                        · skip
                          exfalso; omega
                    · skip
                      refine r_ex hX hP 2 (pc' := 71) (st' := [(0, 8), (2, this)]) (lo' := [(0, (2, this)), (1, (0, account)), (2, (0, paper)), (3, (0, day))]) rfl ?_
                      refine r_callV gd hX hP rfl cv_X11_90_128 hS (d' := 0) (mc' := 0) (ms' := 0) (as' := [(0, 8)]) (st := []) (by first | decide | omega) (by first | decide | omega) (by first | decide | omega) rfl rfl (Nat.le_of_ble_eq_true rfl) (c_X11_refused E S (hw [(93, -1), (95, -1), (96, -1), (97, -1), (115, -1), (116, -1), (118, -1), (119, -1), (125, -1), (126, -1), (127, -1), (129, 1), (129, 2), (129, 15), (129, 16)] (hw [(128, 0)] G G31) G38) this 8 hS (by first | decide | omega) (by first | decide | omega)) ?_
                      rintro _ _ _ ⟨rfl, ⟨G52, rfl⟩, z53, rfl, (⟨rfl, f54⟩ | ⟨rfl, f55⟩)⟩
                      · skip
                        refine r_if_eq hX hP rfl (tgt := 79) rfl (by first | decide | omega) (by first | decide | omega) (fun c56 => ?_) (fun c56 => ?_)
                        · skip
                          exfalso; omega
                        · skip
                          refine r_ex hX hP 1 (pc' := 78) (st' := [(0, (-1))]) (lo' := [(0, (2, this)), (1, (0, account)), (2, (0, paper)), (3, (0, day))]) rfl ?_
                          exact r_retI hX hP rfl rfl (by first | decide | omega) (by first | decide | omega) ⟨rfl, ⟨_, (hw_sub (hw_sub (hw_sub (hw_refl _ _) rfl) rfl) rfl).symm⟩, (-1), rfl, (by first | decide | omega)⟩
                      · skip
                        exfalso; omega
                  · skip
                    exfalso; omega
            · skip
              exfalso; omega
          · skip
            refine r_if_ne hX hP rfl (tgt := 32) rfl (by first | decide | omega) (by first | decide | omega) (fun c57 => ?_) (fun c57 => ?_)
            · skip
              exfalso; omega
            · skip
              refine r_ex hX hP 4 (pc' := 35) (st' := [(0, 0), (0, 0), (0, 1), (0, 0), (2, this)]) (lo' := [(0, (2, this)), (1, (0, account)), (2, (0, paper)), (3, (0, day))]) rfl ?_
              refine r_callS gd hX hP rfl cs_X11_112 (d' := 0) (mc' := 0) (ms' := 0) (as' := [(0, 0), (0, 1), (0, 0), (0, 0)]) (st := [(2, this)]) (by first | decide | omega) (by first | decide | omega) (by first | decide | omega) rfl rfl (Nat.le_of_ble_eq_true rfl) (c_X11_first E S G 0 1 0 0 (by first | decide | omega) (by first | decide | omega) (by first | decide | omega) (by first | decide | omega) (by first | decide | omega) (by first | decide | omega) (by first | decide | omega) (by first | decide | omega)) ?_
              rintro _ _ _ ⟨rfl, rfl, z58, rfl, (⟨rfl, f59⟩ | ⟨rfl, f60, f61⟩ | ⟨rfl, f62, f63, f64⟩ | ⟨rfl, f65, f66, f67, f68⟩ | ⟨rfl, f69, f70, f71, f72⟩)⟩
              · skip
                exfalso; omega
              · skip
                refine r_callV gd hX hP rfl cv_X11_90_128 hS (d' := 0) (mc' := 0) (ms' := 0) (as' := [(0, 2)]) (st := []) (by first | decide | omega) (by first | decide | omega) (by first | decide | omega) rfl rfl (Nat.le_of_ble_eq_true rfl) (c_X11_refused E S G this 2 hS (by first | decide | omega) (by first | decide | omega)) ?_
                rintro _ _ _ ⟨rfl, ⟨G73, rfl⟩, z74, rfl, (⟨rfl, f75⟩ | ⟨rfl, f76⟩)⟩
                · skip
                  refine r_if_eq hX hP rfl (tgt := 46) rfl (by first | decide | omega) (by first | decide | omega) (fun c77 => ?_) (fun c77 => ?_)
                  · skip
                    exfalso; omega
                  · skip
                    refine r_ex hX hP 1 (pc' := 45) (st' := [(0, (-1))]) (lo' := [(0, (2, this)), (1, (0, account)), (2, (0, paper)), (3, (0, day))]) rfl ?_
                    exact r_retI hX hP rfl rfl (by first | decide | omega) (by first | decide | omega) ⟨rfl, ⟨_, (hw_sub (hw_refl _ _) rfl).symm⟩, (-1), rfl, (by first | decide | omega)⟩
                · skip
                  exfalso; omega
              · skip
                exfalso; omega
              · skip
                exfalso; omega
              · skip
                exfalso; omega
        · skip
          exfalso; omega
      · skip
        refine r_if_ne hX hP rfl (tgt := 20) rfl (by first | decide | omega) (by first | decide | omega) (fun c78 => ?_) (fun c78 => ?_)
        · skip
          exfalso; omega
        · skip
          refine r_ex hX hP 3 (pc' := 22) (st' := [(0, day), (0, 1), (2, this)]) (lo' := [(0, (2, this)), (1, (0, account)), (2, (0, paper)), (3, (0, day))]) rfl ?_
          refine r_callS gd hX hP rfl cs_X11_86 (d' := 1) (mc' := 0) (ms' := 0) (as' := [(0, day)]) (st := [(0, 1), (2, this)]) (by first | decide | omega) (by first | decide | omega) (by first | decide | omega) rfl rfl (Nat.le_of_ble_eq_true rfl) (c_X11_isDay E S G day (by first | decide | omega) (by first | decide | omega)) ?_
          rintro _ _ _ ⟨rfl, rfl, z79, rfl, (⟨rfl, f80, f81⟩ | ⟨rfl, f82⟩)⟩
          · skip
            refine r_if_ne hX hP rfl (tgt := 32) rfl (by first | decide | omega) (by first | decide | omega) (fun c83 => ?_) (fun c83 => ?_)
            · skip
              refine r_ex hX hP 3 (pc' := 35) (st' := [(0, 0), (0, 0), (0, 0), (0, 1), (2, this)]) (lo' := [(0, (2, this)), (1, (0, account)), (2, (0, paper)), (3, (0, day))]) rfl ?_
              refine r_callS gd hX hP rfl cs_X11_112 (d' := 0) (mc' := 0) (ms' := 0) (as' := [(0, 1), (0, 0), (0, 0), (0, 0)]) (st := [(2, this)]) (by first | decide | omega) (by first | decide | omega) (by first | decide | omega) rfl rfl (Nat.le_of_ble_eq_true rfl) (c_X11_first E S G 1 0 0 0 (by first | decide | omega) (by first | decide | omega) (by first | decide | omega) (by first | decide | omega) (by first | decide | omega) (by first | decide | omega) (by first | decide | omega) (by first | decide | omega)) ?_
              rintro _ _ _ ⟨rfl, rfl, z84, rfl, (⟨rfl, f85⟩ | ⟨rfl, f86, f87⟩ | ⟨rfl, f88, f89, f90⟩ | ⟨rfl, f91, f92, f93, f94⟩ | ⟨rfl, f95, f96, f97, f98⟩)⟩
              · skip
                refine r_callV gd hX hP rfl cv_X11_90_128 hS (d' := 0) (mc' := 0) (ms' := 0) (as' := [(0, 1)]) (st := []) (by first | decide | omega) (by first | decide | omega) (by first | decide | omega) rfl rfl (Nat.le_of_ble_eq_true rfl) (c_X11_refused E S G this 1 hS (by first | decide | omega) (by first | decide | omega)) ?_
                rintro _ _ _ ⟨rfl, ⟨G99, rfl⟩, z100, rfl, (⟨rfl, f101⟩ | ⟨rfl, f102⟩)⟩
                · skip
                  refine r_if_eq hX hP rfl (tgt := 46) rfl (by first | decide | omega) (by first | decide | omega) (fun c103 => ?_) (fun c103 => ?_)
                  · skip
                    exfalso; omega
                  · skip
                    refine r_ex hX hP 1 (pc' := 45) (st' := [(0, (-1))]) (lo' := [(0, (2, this)), (1, (0, account)), (2, (0, paper)), (3, (0, day))]) rfl ?_
                    exact r_retI hX hP rfl rfl (by first | decide | omega) (by first | decide | omega) ⟨rfl, ⟨_, (hw_sub (hw_refl _ _) rfl).symm⟩, (-1), rfl, (by first | decide | omega)⟩
                · skip
                  exfalso; omega
              · skip
                exfalso; omega
              · skip
                exfalso; omega
              · skip
                exfalso; omega
              · skip
                exfalso; omega
            · skip
              exfalso; omega
          · skip
            refine r_if_ne hX hP rfl (tgt := 32) rfl (by first | decide | omega) (by first | decide | omega) (fun c104 => ?_) (fun c104 => ?_)
            · skip
              exfalso; omega
            · skip
              refine r_ex hX hP 4 (pc' := 35) (st' := [(0, 0), (0, 0), (0, 1), (0, 1), (2, this)]) (lo' := [(0, (2, this)), (1, (0, account)), (2, (0, paper)), (3, (0, day))]) rfl ?_
              refine r_callS gd hX hP rfl cs_X11_112 (d' := 0) (mc' := 0) (ms' := 0) (as' := [(0, 1), (0, 1), (0, 0), (0, 0)]) (st := [(2, this)]) (by first | decide | omega) (by first | decide | omega) (by first | decide | omega) rfl rfl (Nat.le_of_ble_eq_true rfl) (c_X11_first E S G 1 1 0 0 (by first | decide | omega) (by first | decide | omega) (by first | decide | omega) (by first | decide | omega) (by first | decide | omega) (by first | decide | omega) (by first | decide | omega) (by first | decide | omega)) ?_
              rintro _ _ _ ⟨rfl, rfl, z105, rfl, (⟨rfl, f106⟩ | ⟨rfl, f107, f108⟩ | ⟨rfl, f109, f110, f111⟩ | ⟨rfl, f112, f113, f114, f115⟩ | ⟨rfl, f116, f117, f118, f119⟩)⟩
              · skip
                refine r_callV gd hX hP rfl cv_X11_90_128 hS (d' := 0) (mc' := 0) (ms' := 0) (as' := [(0, 1)]) (st := []) (by first | decide | omega) (by first | decide | omega) (by first | decide | omega) rfl rfl (Nat.le_of_ble_eq_true rfl) (c_X11_refused E S G this 1 hS (by first | decide | omega) (by first | decide | omega)) ?_
                rintro _ _ _ ⟨rfl, ⟨G120, rfl⟩, z121, rfl, (⟨rfl, f122⟩ | ⟨rfl, f123⟩)⟩
                · skip
                  refine r_if_eq hX hP rfl (tgt := 46) rfl (by first | decide | omega) (by first | decide | omega) (fun c124 => ?_) (fun c124 => ?_)
                  · skip
                    exfalso; omega
                  · skip
                    refine r_ex hX hP 1 (pc' := 45) (st' := [(0, (-1))]) (lo' := [(0, (2, this)), (1, (0, account)), (2, (0, paper)), (3, (0, day))]) rfl ?_
                    exact r_retI hX hP rfl rfl (by first | decide | omega) (by first | decide | omega) ⟨rfl, ⟨_, (hw_sub (hw_refl _ _) rfl).symm⟩, (-1), rfl, (by first | decide | omega)⟩
                · skip
                  exfalso; omega
              · skip
                exfalso; omega
              · skip
                exfalso; omega
              · skip
                exfalso; omega
              · skip
                exfalso; omega
  · skip
    refine r_if_eq hX hP rfl (tgt := 16) rfl (by first | decide | omega) (by first | decide | omega) (fun c125 => ?_) (fun c125 => ?_)
    · skip
      refine r_ex hX hP 3 (pc' := 22) (st' := [(0, day), (0, 1), (2, this)]) (lo' := [(0, (2, this)), (1, (0, account)), (2, (0, paper)), (3, (0, day))]) rfl ?_
      refine r_callS gd hX hP rfl cs_X11_86 (d' := 1) (mc' := 0) (ms' := 0) (as' := [(0, day)]) (st := [(0, 1), (2, this)]) (by first | decide | omega) (by first | decide | omega) (by first | decide | omega) rfl rfl (Nat.le_of_ble_eq_true rfl) (c_X11_isDay E S G day (by first | decide | omega) (by first | decide | omega)) ?_
      rintro _ _ _ ⟨rfl, rfl, z126, rfl, (⟨rfl, f127, f128⟩ | ⟨rfl, f129⟩)⟩
      · skip
        refine r_if_ne hX hP rfl (tgt := 32) rfl (by first | decide | omega) (by first | decide | omega) (fun c130 => ?_) (fun c130 => ?_)
        · skip
          refine r_ex hX hP 3 (pc' := 35) (st' := [(0, 0), (0, 0), (0, 0), (0, 1), (2, this)]) (lo' := [(0, (2, this)), (1, (0, account)), (2, (0, paper)), (3, (0, day))]) rfl ?_
          refine r_callS gd hX hP rfl cs_X11_112 (d' := 0) (mc' := 0) (ms' := 0) (as' := [(0, 1), (0, 0), (0, 0), (0, 0)]) (st := [(2, this)]) (by first | decide | omega) (by first | decide | omega) (by first | decide | omega) rfl rfl (Nat.le_of_ble_eq_true rfl) (c_X11_first E S G 1 0 0 0 (by first | decide | omega) (by first | decide | omega) (by first | decide | omega) (by first | decide | omega) (by first | decide | omega) (by first | decide | omega) (by first | decide | omega) (by first | decide | omega)) ?_
          rintro _ _ _ ⟨rfl, rfl, z131, rfl, (⟨rfl, f132⟩ | ⟨rfl, f133, f134⟩ | ⟨rfl, f135, f136, f137⟩ | ⟨rfl, f138, f139, f140, f141⟩ | ⟨rfl, f142, f143, f144, f145⟩)⟩
          · skip
            refine r_callV gd hX hP rfl cv_X11_90_128 hS (d' := 0) (mc' := 0) (ms' := 0) (as' := [(0, 1)]) (st := []) (by first | decide | omega) (by first | decide | omega) (by first | decide | omega) rfl rfl (Nat.le_of_ble_eq_true rfl) (c_X11_refused E S G this 1 hS (by first | decide | omega) (by first | decide | omega)) ?_
            rintro _ _ _ ⟨rfl, ⟨G146, rfl⟩, z147, rfl, (⟨rfl, f148⟩ | ⟨rfl, f149⟩)⟩
            · skip
              refine r_if_eq hX hP rfl (tgt := 46) rfl (by first | decide | omega) (by first | decide | omega) (fun c150 => ?_) (fun c150 => ?_)
              · skip
                exfalso; omega
              · skip
                refine r_ex hX hP 1 (pc' := 45) (st' := [(0, (-1))]) (lo' := [(0, (2, this)), (1, (0, account)), (2, (0, paper)), (3, (0, day))]) rfl ?_
                exact r_retI hX hP rfl rfl (by first | decide | omega) (by first | decide | omega) ⟨rfl, ⟨_, (hw_sub (hw_refl _ _) rfl).symm⟩, (-1), rfl, (by first | decide | omega)⟩
            · skip
              exfalso; omega
          · skip
            exfalso; omega
          · skip
            exfalso; omega
          · skip
            exfalso; omega
          · skip
            exfalso; omega
        · skip
          exfalso; omega
      · skip
        refine r_if_ne hX hP rfl (tgt := 32) rfl (by first | decide | omega) (by first | decide | omega) (fun c151 => ?_) (fun c151 => ?_)
        · skip
          exfalso; omega
        · skip
          refine r_ex hX hP 4 (pc' := 35) (st' := [(0, 0), (0, 0), (0, 1), (0, 1), (2, this)]) (lo' := [(0, (2, this)), (1, (0, account)), (2, (0, paper)), (3, (0, day))]) rfl ?_
          refine r_callS gd hX hP rfl cs_X11_112 (d' := 0) (mc' := 0) (ms' := 0) (as' := [(0, 1), (0, 1), (0, 0), (0, 0)]) (st := [(2, this)]) (by first | decide | omega) (by first | decide | omega) (by first | decide | omega) rfl rfl (Nat.le_of_ble_eq_true rfl) (c_X11_first E S G 1 1 0 0 (by first | decide | omega) (by first | decide | omega) (by first | decide | omega) (by first | decide | omega) (by first | decide | omega) (by first | decide | omega) (by first | decide | omega) (by first | decide | omega)) ?_
          rintro _ _ _ ⟨rfl, rfl, z152, rfl, (⟨rfl, f153⟩ | ⟨rfl, f154, f155⟩ | ⟨rfl, f156, f157, f158⟩ | ⟨rfl, f159, f160, f161, f162⟩ | ⟨rfl, f163, f164, f165, f166⟩)⟩
          · skip
            refine r_callV gd hX hP rfl cv_X11_90_128 hS (d' := 0) (mc' := 0) (ms' := 0) (as' := [(0, 1)]) (st := []) (by first | decide | omega) (by first | decide | omega) (by first | decide | omega) rfl rfl (Nat.le_of_ble_eq_true rfl) (c_X11_refused E S G this 1 hS (by first | decide | omega) (by first | decide | omega)) ?_
            rintro _ _ _ ⟨rfl, ⟨G167, rfl⟩, z168, rfl, (⟨rfl, f169⟩ | ⟨rfl, f170⟩)⟩
            · skip
              refine r_if_eq hX hP rfl (tgt := 46) rfl (by first | decide | omega) (by first | decide | omega) (fun c171 => ?_) (fun c171 => ?_)
              · skip
                exfalso; omega
              · skip
                refine r_ex hX hP 1 (pc' := 45) (st' := [(0, (-1))]) (lo' := [(0, (2, this)), (1, (0, account)), (2, (0, paper)), (3, (0, day))]) rfl ?_
                exact r_retI hX hP rfl rfl (by first | decide | omega) (by first | decide | omega) ⟨rfl, ⟨_, (hw_sub (hw_refl _ _) rfl).symm⟩, (-1), rfl, (by first | decide | omega)⟩
            · skip
              exfalso; omega
          · skip
            exfalso; omega
          · skip
            exfalso; omega
          · skip
            exfalso; omega
          · skip
            exfalso; omega
    · skip
      exfalso; omega
set_option maxRecDepth 100000 in
set_option maxHeartbeats 4000000 in
theorem c_X11_worth (E : En) (S : Sg) (G : Gh) (this : Int) (account : Int) (paper : Int) (day : Int) (hS : S this = 128) (account_a : (-2147483648) ≤ account) (account_b : account ≤ 2147483647) (paper_a : (-2147483648) ≤ paper) (paper_b : paper ≤ 2147483647) (day_a : (-2147483648) ≤ day) (day_b : day ≤ 2147483647) (ci : CI E S G) : Calls E mX11_worth [(2, this), (0, account), (0, paper), (0, day)] S G 7 0 0 (fun r S' G' => S = S' ∧ (∃ G1, hw [(93, -1), (95, -1), (96, -1), (97, -1), (115, -1), (116, -1), (118, -1), (119, -1), (125, -1), (126, -1), (127, -1), (128, 0), (129, 1), (129, 2), (129, 15), (129, 16)] G G1 = G') ∧ ∃ z : Int, r = some (1, z) ∧ (-9223372036854775808) ≤ z ∧ z ≤ 9223372036854775807) := by
  refine calls_by [(0, (2, this)), (1, (0, account)), (2, (0, paper)), (3, (0, day))] rfl rfl (Nat.le_of_ble_eq_true rfl) (fun X hX => ?_)
  have hP := hPX11_worth
  refine r_ex hX hP 3 (pc' := 3) (st' := [(0, account), (2, this), (2, this)]) (lo' := [(0, (2, this)), (1, (0, account)), (2, (0, paper)), (3, (0, day))]) rfl ?_
  refine r_peekR hX (tl_128 5 rfl (by decide)) hS (fun acp1 acp1e acp1s => ?_)
  refine r_peekI hX (tl_130 0 rfl (by decide)) acp1s (fun cop2 cop2e cop2a cop2b => ?_)
  refine r_callV gd hX hP rfl cv_X11_100_128 hS (d' := 1) (mc' := 0) (ms' := 0) (as' := [(0, account)]) (st := [(2, this)]) (by first | decide | omega) (by first | decide | omega) (by first | decide | omega) rfl rfl (Nat.le_of_ble_eq_true rfl) (c_X11_hasAccount E S G this account hS acp1 acp1e acp1s cop2 cop2e (by first | decide | omega) (by first | decide | omega)) ?_
  rintro _ _ _ ⟨rfl, rfl, z3, rfl, (⟨rfl, f4, f5⟩ | rfl)⟩
  · skip
    refine r_if_eq hX hP rfl (tgt := 16) rfl (by first | decide | omega) (by first | decide | omega) (fun c6 => ?_) (fun c6 => ?_)
    · skip
      exfalso; omega
    · skip
      refine r_ex hX hP 1 (pc' := 10) (st' := [(0, paper), (2, this)]) (lo' := [(0, (2, this)), (1, (0, account)), (2, (0, paper)), (3, (0, day))]) rfl ?_
      refine r_callS gd hX hP rfl cs_X11_120 (d' := 1) (mc' := 0) (ms' := 0) (as' := [(0, paper)]) (st := [(2, this)]) (by first | decide | omega) (by first | decide | omega) (by first | decide | omega) rfl rfl (Nat.le_of_ble_eq_true rfl) (c_X11_isPaper E S G paper (by first | decide | omega) (by first | decide | omega)) ?_
      rintro _ _ _ ⟨rfl, rfl, z7, rfl, (⟨rfl, f8, f9⟩ | rfl)⟩
      · skip
        refine r_if_ne hX hP rfl (tgt := 20) rfl (by first | decide | omega) (by first | decide | omega) (fun c10 => ?_) (fun c10 => ?_)
        · skip
          refine r_ex hX hP 2 (pc' := 22) (st' := [(0, day), (0, 0), (2, this)]) (lo' := [(0, (2, this)), (1, (0, account)), (2, (0, paper)), (3, (0, day))]) rfl ?_
          refine r_callS gd hX hP rfl cs_X11_86 (d' := 1) (mc' := 0) (ms' := 0) (as' := [(0, day)]) (st := [(0, 0), (2, this)]) (by first | decide | omega) (by first | decide | omega) (by first | decide | omega) rfl rfl (Nat.le_of_ble_eq_true rfl) (c_X11_isDay E S G day (by first | decide | omega) (by first | decide | omega)) ?_
          rintro _ _ _ ⟨rfl, rfl, z11, rfl, (⟨rfl, f12, f13⟩ | ⟨rfl, f14⟩)⟩
          · skip
            refine r_if_ne hX hP rfl (tgt := 32) rfl (by first | decide | omega) (by first | decide | omega) (fun c15 => ?_) (fun c15 => ?_)
            · skip
              refine r_ex hX hP 3 (pc' := 35) (st' := [(0, 0), (0, 0), (0, 0), (0, 0), (2, this)]) (lo' := [(0, (2, this)), (1, (0, account)), (2, (0, paper)), (3, (0, day))]) rfl ?_
              refine r_callS gd hX hP rfl cs_X11_112 (d' := 0) (mc' := 0) (ms' := 0) (as' := [(0, 0), (0, 0), (0, 0), (0, 0)]) (st := [(2, this)]) (by first | decide | omega) (by first | decide | omega) (by first | decide | omega) rfl rfl (Nat.le_of_ble_eq_true rfl) (c_X11_first E S G 0 0 0 0 (by first | decide | omega) (by first | decide | omega) (by first | decide | omega) (by first | decide | omega) (by first | decide | omega) (by first | decide | omega) (by first | decide | omega) (by first | decide | omega)) ?_
              rintro _ _ _ ⟨rfl, rfl, z16, rfl, (⟨rfl, f17⟩ | ⟨rfl, f18, f19⟩ | ⟨rfl, f20, f21, f22⟩ | ⟨rfl, f23, f24, f25, f26⟩ | ⟨rfl, f27, f28, f29, f30⟩)⟩
              · skip
                exfalso; omega
              · skip
                exfalso; omega
              · skip
                exfalso; omega
              · skip
                exfalso; omega
              · skip
                refine r_callV gd hX hP rfl cv_X11_90_128 hS (d' := 0) (mc' := 0) (ms' := 0) (as' := [(0, 0)]) (st := []) (by first | decide | omega) (by first | decide | omega) (by first | decide | omega) rfl rfl (Nat.le_of_ble_eq_true rfl) (c_X11_refused E S G this 0 hS (by first | decide | omega) (by first | decide | omega)) ?_
                rintro _ _ _ ⟨rfl, ⟨G31, rfl⟩, z32, rfl, (⟨rfl, f33⟩ | ⟨rfl, f34⟩)⟩
                · skip
                  exfalso; omega
                · skip
                  refine r_if_eq hX hP rfl (tgt := 48) rfl (by first | decide | omega) (by first | decide | omega) (fun c35 => ?_) (fun c35 => ?_)
                  · skip
                    refine r_ex hX hP 1 (pc' := 49) (st' := [(2, this)]) (lo' := [(0, (2, this)), (1, (0, account)), (2, (0, paper)), (3, (0, day))]) rfl ?_
                    refine r_getR hX hP rfl fl_X11_16_128 hS (fun rf36 rf36e rf36s => ?_)
                    refine r_ex hX hP 1 (pc' := 53) (st' := [(0, day), (2, rf36)]) (lo' := [(0, (2, this)), (1, (0, account)), (2, (0, paper)), (3, (0, day))]) rfl ?_
                    have ci37 : CI E S (hw [(128, 0)] G G31) := (ci_hw ci rfl)
                    refine r_callV gd hX hP rfl cv_X11_233_129 rf36s (d' := 6) (mc' := 0) (ms' := 0) (as' := [(0, day)]) (st := []) (by first | decide | omega) (by first | decide | omega) (by first | decide | omega) rfl rfl (Nat.le_of_ble_eq_true rfl) (c_X8_to E S (hw [(128, 0)] G G31) rf36 day rf36s (by first | decide | omega) (by first | decide | omega) ci37) ?_
                    rintro _ _ _ ⟨rfl, ⟨G38, rfl⟩, rfl, -⟩
                    refine r_ex hX hP 2 (pc' := 58) (st' := [(2, this), (2, this)]) (lo' := [(0, (2, this)), (1, (0, account)), (2, (0, paper)), (3, (0, day))]) rfl ?_
                    refine r_getKR hX hP rfl fl_X11_16_128 hS (x := rf36) rf36e ?_
                    refine r_getI hX hP rfl fl_X11_235_129 rf36s (fun of39 of39e of39a of39b => ?_)
                    refine r_if_eq hX hP rfl (tgt := 72) rfl (by first | decide | omega) (by first | decide | omega) (fun c40 => ?_) (fun c40 => ?_)
                    · skip
                      refine r_ex hX hP 1 (pc' := 73) (st' := [(0, 0), (2, this)]) (lo' := [(0, (2, this)), (1, (0, account)), (2, (0, paper)), (3, (0, day))]) rfl ?_
                      refine r_callV gd hX hP rfl cv_X11_90_128 hS (d' := 0) (mc' := 0) (ms' := 0) (as' := [(0, 0)]) (st := []) (by first | decide | omega) (by first | decide | omega) (by first | decide | omega) rfl rfl (Nat.le_of_ble_eq_true rfl) (c_X11_refused E S (hw [(93, -1), (95, -1), (96, -1), (97, -1), (115, -1), (116, -1), (118, -1), (119, -1), (125, -1), (126, -1), (127, -1), (129, 1), (129, 2), (129, 15), (129, 16)] (hw [(128, 0)] G G31) G38) this 0 hS (by first | decide | omega) (by first | decide | omega)) ?_
                      rintro _ _ _ ⟨rfl, ⟨G41, rfl⟩, z42, rfl, (⟨rfl, f43⟩ | ⟨rfl, f44⟩)⟩
                      · skip
                        exfalso; omega
                      · skip
                        refine r_if_eq hX hP rfl (tgt := 83) rfl (by first | decide | omega) (by first | decide | omega) (fun c45 => ?_) (fun c45 => ?_)
                        · skip
                          refine r_ex hX hP 1 (pc' := 84) (st' := [(2, this)]) (lo' := [(0, (2, this)), (1, (0, account)), (2, (0, paper)), (3, (0, day))]) rfl ?_
                          refine r_getKR hX hP rfl fl_X11_16_128 hS (x := rf36) rf36e ?_
                          refine r_getR hX hP rfl fl_X11_252_129 rf36s (fun tf46 tf46e tf46s => ?_)
                          refine r_ex hX hP 1 (pc' := 91) (st' := [(0, paper), (2, tf46)]) (lo' := [(0, (2, this)), (1, (0, account)), (2, (0, paper)), (3, (0, day))]) rfl ?_
                          refine r_aald hX hP rfl al_114 rfl tf46s (by first | decide | omega) (by first | decide | omega) (fun r47 r47e r47s => ?_)
                          refine r_ex hX hP 1 (pc' := 93) (st' := [(0, account), (2, r47)]) (lo' := [(0, (2, this)), (1, (0, account)), (2, (0, paper)), (3, (0, day))]) rfl ?_
                          refine r_lald hX hP rfl al_95 r47s (by first | decide | omega) (by first | decide | omega) (fun x48 x48e x48a x48b => ?_)
                          exact r_retL hX hP rfl rfl (by first | decide | omega) (by first | decide | omega) ⟨rfl, ⟨_, (hw_sub (hw_sub (hw_sub (hw_refl _ _) rfl) rfl) rfl).symm⟩, x48, rfl, (by first | decide | omega)⟩
                        · skip
                          exfalso; omega
                    · skip
                      refine r_ex hX hP 2 (pc' := 73) (st' := [(0, 8), (2, this)]) (lo' := [(0, (2, this)), (1, (0, account)), (2, (0, paper)), (3, (0, day))]) rfl ?_
                      refine r_callV gd hX hP rfl cv_X11_90_128 hS (d' := 0) (mc' := 0) (ms' := 0) (as' := [(0, 8)]) (st := []) (by first | decide | omega) (by first | decide | omega) (by first | decide | omega) rfl rfl (Nat.le_of_ble_eq_true rfl) (c_X11_refused E S (hw [(93, -1), (95, -1), (96, -1), (97, -1), (115, -1), (116, -1), (118, -1), (119, -1), (125, -1), (126, -1), (127, -1), (129, 1), (129, 2), (129, 15), (129, 16)] (hw [(128, 0)] G G31) G38) this 8 hS (by first | decide | omega) (by first | decide | omega)) ?_
                      rintro _ _ _ ⟨rfl, ⟨G49, rfl⟩, z50, rfl, (⟨rfl, f51⟩ | ⟨rfl, f52⟩)⟩
                      · skip
                        refine r_if_eq hX hP rfl (tgt := 83) rfl (by first | decide | omega) (by first | decide | omega) (fun c53 => ?_) (fun c53 => ?_)
                        · skip
                          exfalso; omega
                        · skip
                          refine r_ldc2 hX hP rfl (v := (-1)) (tbg sg5 231 rfl rfl) ?_
                          exact r_retL hX hP rfl rfl (by first | decide | omega) (by first | decide | omega) ⟨rfl, ⟨_, (hw_sub (hw_sub (hw_sub (hw_refl _ _) rfl) rfl) rfl).symm⟩, (-1), rfl, (by first | decide | omega)⟩
                      · skip
                        exfalso; omega
                  · skip
                    exfalso; omega
            · skip
              exfalso; omega
          · skip
            refine r_if_ne hX hP rfl (tgt := 32) rfl (by first | decide | omega) (by first | decide | omega) (fun c54 => ?_) (fun c54 => ?_)
            · skip
              exfalso; omega
            · skip
              refine r_ex hX hP 4 (pc' := 35) (st' := [(0, 0), (0, 0), (0, 1), (0, 0), (2, this)]) (lo' := [(0, (2, this)), (1, (0, account)), (2, (0, paper)), (3, (0, day))]) rfl ?_
              refine r_callS gd hX hP rfl cs_X11_112 (d' := 0) (mc' := 0) (ms' := 0) (as' := [(0, 0), (0, 1), (0, 0), (0, 0)]) (st := [(2, this)]) (by first | decide | omega) (by first | decide | omega) (by first | decide | omega) rfl rfl (Nat.le_of_ble_eq_true rfl) (c_X11_first E S G 0 1 0 0 (by first | decide | omega) (by first | decide | omega) (by first | decide | omega) (by first | decide | omega) (by first | decide | omega) (by first | decide | omega) (by first | decide | omega) (by first | decide | omega)) ?_
              rintro _ _ _ ⟨rfl, rfl, z55, rfl, (⟨rfl, f56⟩ | ⟨rfl, f57, f58⟩ | ⟨rfl, f59, f60, f61⟩ | ⟨rfl, f62, f63, f64, f65⟩ | ⟨rfl, f66, f67, f68, f69⟩)⟩
              · skip
                exfalso; omega
              · skip
                refine r_callV gd hX hP rfl cv_X11_90_128 hS (d' := 0) (mc' := 0) (ms' := 0) (as' := [(0, 2)]) (st := []) (by first | decide | omega) (by first | decide | omega) (by first | decide | omega) rfl rfl (Nat.le_of_ble_eq_true rfl) (c_X11_refused E S G this 2 hS (by first | decide | omega) (by first | decide | omega)) ?_
                rintro _ _ _ ⟨rfl, ⟨G70, rfl⟩, z71, rfl, (⟨rfl, f72⟩ | ⟨rfl, f73⟩)⟩
                · skip
                  refine r_if_eq hX hP rfl (tgt := 48) rfl (by first | decide | omega) (by first | decide | omega) (fun c74 => ?_) (fun c74 => ?_)
                  · skip
                    exfalso; omega
                  · skip
                    refine r_ldc2 hX hP rfl (v := (-1)) (tbg sg5 231 rfl rfl) ?_
                    exact r_retL hX hP rfl rfl (by first | decide | omega) (by first | decide | omega) ⟨rfl, ⟨_, (hw_sub (hw_refl _ _) rfl).symm⟩, (-1), rfl, (by first | decide | omega)⟩
                · skip
                  exfalso; omega
              · skip
                exfalso; omega
              · skip
                exfalso; omega
              · skip
                exfalso; omega
        · skip
          exfalso; omega
      · skip
        refine r_if_ne hX hP rfl (tgt := 20) rfl (by first | decide | omega) (by first | decide | omega) (fun c75 => ?_) (fun c75 => ?_)
        · skip
          exfalso; omega
        · skip
          refine r_ex hX hP 3 (pc' := 22) (st' := [(0, day), (0, 1), (2, this)]) (lo' := [(0, (2, this)), (1, (0, account)), (2, (0, paper)), (3, (0, day))]) rfl ?_
          refine r_callS gd hX hP rfl cs_X11_86 (d' := 1) (mc' := 0) (ms' := 0) (as' := [(0, day)]) (st := [(0, 1), (2, this)]) (by first | decide | omega) (by first | decide | omega) (by first | decide | omega) rfl rfl (Nat.le_of_ble_eq_true rfl) (c_X11_isDay E S G day (by first | decide | omega) (by first | decide | omega)) ?_
          rintro _ _ _ ⟨rfl, rfl, z76, rfl, (⟨rfl, f77, f78⟩ | ⟨rfl, f79⟩)⟩
          · skip
            refine r_if_ne hX hP rfl (tgt := 32) rfl (by first | decide | omega) (by first | decide | omega) (fun c80 => ?_) (fun c80 => ?_)
            · skip
              refine r_ex hX hP 3 (pc' := 35) (st' := [(0, 0), (0, 0), (0, 0), (0, 1), (2, this)]) (lo' := [(0, (2, this)), (1, (0, account)), (2, (0, paper)), (3, (0, day))]) rfl ?_
              refine r_callS gd hX hP rfl cs_X11_112 (d' := 0) (mc' := 0) (ms' := 0) (as' := [(0, 1), (0, 0), (0, 0), (0, 0)]) (st := [(2, this)]) (by first | decide | omega) (by first | decide | omega) (by first | decide | omega) rfl rfl (Nat.le_of_ble_eq_true rfl) (c_X11_first E S G 1 0 0 0 (by first | decide | omega) (by first | decide | omega) (by first | decide | omega) (by first | decide | omega) (by first | decide | omega) (by first | decide | omega) (by first | decide | omega) (by first | decide | omega)) ?_
              rintro _ _ _ ⟨rfl, rfl, z81, rfl, (⟨rfl, f82⟩ | ⟨rfl, f83, f84⟩ | ⟨rfl, f85, f86, f87⟩ | ⟨rfl, f88, f89, f90, f91⟩ | ⟨rfl, f92, f93, f94, f95⟩)⟩
              · skip
                refine r_callV gd hX hP rfl cv_X11_90_128 hS (d' := 0) (mc' := 0) (ms' := 0) (as' := [(0, 1)]) (st := []) (by first | decide | omega) (by first | decide | omega) (by first | decide | omega) rfl rfl (Nat.le_of_ble_eq_true rfl) (c_X11_refused E S G this 1 hS (by first | decide | omega) (by first | decide | omega)) ?_
                rintro _ _ _ ⟨rfl, ⟨G96, rfl⟩, z97, rfl, (⟨rfl, f98⟩ | ⟨rfl, f99⟩)⟩
                · skip
                  refine r_if_eq hX hP rfl (tgt := 48) rfl (by first | decide | omega) (by first | decide | omega) (fun c100 => ?_) (fun c100 => ?_)
                  · skip
                    exfalso; omega
                  · skip
                    refine r_ldc2 hX hP rfl (v := (-1)) (tbg sg5 231 rfl rfl) ?_
                    exact r_retL hX hP rfl rfl (by first | decide | omega) (by first | decide | omega) ⟨rfl, ⟨_, (hw_sub (hw_refl _ _) rfl).symm⟩, (-1), rfl, (by first | decide | omega)⟩
                · skip
                  exfalso; omega
              · skip
                exfalso; omega
              · skip
                exfalso; omega
              · skip
                exfalso; omega
              · skip
                exfalso; omega
            · skip
              exfalso; omega
          · skip
            refine r_if_ne hX hP rfl (tgt := 32) rfl (by first | decide | omega) (by first | decide | omega) (fun c101 => ?_) (fun c101 => ?_)
            · skip
              exfalso; omega
            · skip
              refine r_ex hX hP 4 (pc' := 35) (st' := [(0, 0), (0, 0), (0, 1), (0, 1), (2, this)]) (lo' := [(0, (2, this)), (1, (0, account)), (2, (0, paper)), (3, (0, day))]) rfl ?_
              refine r_callS gd hX hP rfl cs_X11_112 (d' := 0) (mc' := 0) (ms' := 0) (as' := [(0, 1), (0, 1), (0, 0), (0, 0)]) (st := [(2, this)]) (by first | decide | omega) (by first | decide | omega) (by first | decide | omega) rfl rfl (Nat.le_of_ble_eq_true rfl) (c_X11_first E S G 1 1 0 0 (by first | decide | omega) (by first | decide | omega) (by first | decide | omega) (by first | decide | omega) (by first | decide | omega) (by first | decide | omega) (by first | decide | omega) (by first | decide | omega)) ?_
              rintro _ _ _ ⟨rfl, rfl, z102, rfl, (⟨rfl, f103⟩ | ⟨rfl, f104, f105⟩ | ⟨rfl, f106, f107, f108⟩ | ⟨rfl, f109, f110, f111, f112⟩ | ⟨rfl, f113, f114, f115, f116⟩)⟩
              · skip
                refine r_callV gd hX hP rfl cv_X11_90_128 hS (d' := 0) (mc' := 0) (ms' := 0) (as' := [(0, 1)]) (st := []) (by first | decide | omega) (by first | decide | omega) (by first | decide | omega) rfl rfl (Nat.le_of_ble_eq_true rfl) (c_X11_refused E S G this 1 hS (by first | decide | omega) (by first | decide | omega)) ?_
                rintro _ _ _ ⟨rfl, ⟨G117, rfl⟩, z118, rfl, (⟨rfl, f119⟩ | ⟨rfl, f120⟩)⟩
                · skip
                  refine r_if_eq hX hP rfl (tgt := 48) rfl (by first | decide | omega) (by first | decide | omega) (fun c121 => ?_) (fun c121 => ?_)
                  · skip
                    exfalso; omega
                  · skip
                    refine r_ldc2 hX hP rfl (v := (-1)) (tbg sg5 231 rfl rfl) ?_
                    exact r_retL hX hP rfl rfl (by first | decide | omega) (by first | decide | omega) ⟨rfl, ⟨_, (hw_sub (hw_refl _ _) rfl).symm⟩, (-1), rfl, (by first | decide | omega)⟩
                · skip
                  exfalso; omega
              · skip
                exfalso; omega
              · skip
                exfalso; omega
              · skip
                exfalso; omega
              · skip
                exfalso; omega
  · skip
    refine r_if_eq hX hP rfl (tgt := 16) rfl (by first | decide | omega) (by first | decide | omega) (fun c122 => ?_) (fun c122 => ?_)
    · skip
      refine r_ex hX hP 3 (pc' := 22) (st' := [(0, day), (0, 1), (2, this)]) (lo' := [(0, (2, this)), (1, (0, account)), (2, (0, paper)), (3, (0, day))]) rfl ?_
      refine r_callS gd hX hP rfl cs_X11_86 (d' := 1) (mc' := 0) (ms' := 0) (as' := [(0, day)]) (st := [(0, 1), (2, this)]) (by first | decide | omega) (by first | decide | omega) (by first | decide | omega) rfl rfl (Nat.le_of_ble_eq_true rfl) (c_X11_isDay E S G day (by first | decide | omega) (by first | decide | omega)) ?_
      rintro _ _ _ ⟨rfl, rfl, z123, rfl, (⟨rfl, f124, f125⟩ | ⟨rfl, f126⟩)⟩
      · skip
        refine r_if_ne hX hP rfl (tgt := 32) rfl (by first | decide | omega) (by first | decide | omega) (fun c127 => ?_) (fun c127 => ?_)
        · skip
          refine r_ex hX hP 3 (pc' := 35) (st' := [(0, 0), (0, 0), (0, 0), (0, 1), (2, this)]) (lo' := [(0, (2, this)), (1, (0, account)), (2, (0, paper)), (3, (0, day))]) rfl ?_
          refine r_callS gd hX hP rfl cs_X11_112 (d' := 0) (mc' := 0) (ms' := 0) (as' := [(0, 1), (0, 0), (0, 0), (0, 0)]) (st := [(2, this)]) (by first | decide | omega) (by first | decide | omega) (by first | decide | omega) rfl rfl (Nat.le_of_ble_eq_true rfl) (c_X11_first E S G 1 0 0 0 (by first | decide | omega) (by first | decide | omega) (by first | decide | omega) (by first | decide | omega) (by first | decide | omega) (by first | decide | omega) (by first | decide | omega) (by first | decide | omega)) ?_
          rintro _ _ _ ⟨rfl, rfl, z128, rfl, (⟨rfl, f129⟩ | ⟨rfl, f130, f131⟩ | ⟨rfl, f132, f133, f134⟩ | ⟨rfl, f135, f136, f137, f138⟩ | ⟨rfl, f139, f140, f141, f142⟩)⟩
          · skip
            refine r_callV gd hX hP rfl cv_X11_90_128 hS (d' := 0) (mc' := 0) (ms' := 0) (as' := [(0, 1)]) (st := []) (by first | decide | omega) (by first | decide | omega) (by first | decide | omega) rfl rfl (Nat.le_of_ble_eq_true rfl) (c_X11_refused E S G this 1 hS (by first | decide | omega) (by first | decide | omega)) ?_
            rintro _ _ _ ⟨rfl, ⟨G143, rfl⟩, z144, rfl, (⟨rfl, f145⟩ | ⟨rfl, f146⟩)⟩
            · skip
              refine r_if_eq hX hP rfl (tgt := 48) rfl (by first | decide | omega) (by first | decide | omega) (fun c147 => ?_) (fun c147 => ?_)
              · skip
                exfalso; omega
              · skip
                refine r_ldc2 hX hP rfl (v := (-1)) (tbg sg5 231 rfl rfl) ?_
                exact r_retL hX hP rfl rfl (by first | decide | omega) (by first | decide | omega) ⟨rfl, ⟨_, (hw_sub (hw_refl _ _) rfl).symm⟩, (-1), rfl, (by first | decide | omega)⟩
            · skip
              exfalso; omega
          · skip
            exfalso; omega
          · skip
            exfalso; omega
          · skip
            exfalso; omega
          · skip
            exfalso; omega
        · skip
          exfalso; omega
      · skip
        refine r_if_ne hX hP rfl (tgt := 32) rfl (by first | decide | omega) (by first | decide | omega) (fun c148 => ?_) (fun c148 => ?_)
        · skip
          exfalso; omega
        · skip
          refine r_ex hX hP 4 (pc' := 35) (st' := [(0, 0), (0, 0), (0, 1), (0, 1), (2, this)]) (lo' := [(0, (2, this)), (1, (0, account)), (2, (0, paper)), (3, (0, day))]) rfl ?_
          refine r_callS gd hX hP rfl cs_X11_112 (d' := 0) (mc' := 0) (ms' := 0) (as' := [(0, 1), (0, 1), (0, 0), (0, 0)]) (st := [(2, this)]) (by first | decide | omega) (by first | decide | omega) (by first | decide | omega) rfl rfl (Nat.le_of_ble_eq_true rfl) (c_X11_first E S G 1 1 0 0 (by first | decide | omega) (by first | decide | omega) (by first | decide | omega) (by first | decide | omega) (by first | decide | omega) (by first | decide | omega) (by first | decide | omega) (by first | decide | omega)) ?_
          rintro _ _ _ ⟨rfl, rfl, z149, rfl, (⟨rfl, f150⟩ | ⟨rfl, f151, f152⟩ | ⟨rfl, f153, f154, f155⟩ | ⟨rfl, f156, f157, f158, f159⟩ | ⟨rfl, f160, f161, f162, f163⟩)⟩
          · skip
            refine r_callV gd hX hP rfl cv_X11_90_128 hS (d' := 0) (mc' := 0) (ms' := 0) (as' := [(0, 1)]) (st := []) (by first | decide | omega) (by first | decide | omega) (by first | decide | omega) rfl rfl (Nat.le_of_ble_eq_true rfl) (c_X11_refused E S G this 1 hS (by first | decide | omega) (by first | decide | omega)) ?_
            rintro _ _ _ ⟨rfl, ⟨G164, rfl⟩, z165, rfl, (⟨rfl, f166⟩ | ⟨rfl, f167⟩)⟩
            · skip
              refine r_if_eq hX hP rfl (tgt := 48) rfl (by first | decide | omega) (by first | decide | omega) (fun c168 => ?_) (fun c168 => ?_)
              · skip
                exfalso; omega
              · skip
                refine r_ldc2 hX hP rfl (v := (-1)) (tbg sg5 231 rfl rfl) ?_
                exact r_retL hX hP rfl rfl (by first | decide | omega) (by first | decide | omega) ⟨rfl, ⟨_, (hw_sub (hw_refl _ _) rfl).symm⟩, (-1), rfl, (by first | decide | omega)⟩
            · skip
              exfalso; omega
          · skip
            exfalso; omega
          · skip
            exfalso; omega
          · skip
            exfalso; omega
          · skip
            exfalso; omega
    · skip
      exfalso; omega
set_option maxRecDepth 100000 in
set_option maxHeartbeats 4000000 in
theorem c_X11_coin (E : En) (S : Sg) (G : Gh) (this : Int) (account : Int) (what : Int) (day : Int) (hS : S this = 128) (account_a : (-2147483648) ≤ account) (account_b : account ≤ 2147483647) (what_a : (-2147483648) ≤ what) (what_b : what ≤ 2147483647) (day_a : (-2147483648) ≤ day) (day_b : day ≤ 2147483647) (ci : CI E S G) : Calls E mX11_coin [(2, this), (0, account), (0, what), (0, day)] S G 7 0 0 (fun r S' G' => S = S' ∧ (∃ G1, hw [(93, -1), (95, -1), (96, -1), (97, -1), (115, -1), (116, -1), (118, -1), (119, -1), (125, -1), (126, -1), (127, -1), (128, 0), (129, 1), (129, 2), (129, 15), (129, 16)] G G1 = G') ∧ ∃ z : Int, r = some (1, z) ∧ (-9223372036854775808) ≤ z ∧ z ≤ 9223372036854775807) := by
  refine calls_by [(0, (2, this)), (1, (0, account)), (2, (0, what)), (3, (0, day))] rfl rfl (Nat.le_of_ble_eq_true rfl) (fun X hX => ?_)
  have hP := hPX11_coin
  refine r_ex hX hP 3 (pc' := 3) (st' := [(0, 1), (0, 0), (0, what)]) (lo' := [(0, (2, this)), (1, (0, account)), (2, (0, what)), (3, (0, day))]) rfl ?_
  refine r_callS gd hX hP rfl cs_X11_103 (d' := 0) (mc' := 0) (ms' := 0) (as' := [(0, what), (0, 0), (0, 1)]) (st := []) (by first | decide | omega) (by first | decide | omega) (by first | decide | omega) rfl rfl (Nat.le_of_ble_eq_true rfl) (c_X11_within E S G what 0 1 (by first | decide | omega) (by first | decide | omega) (by first | decide | omega) (by first | decide | omega) (by first | decide | omega) (by first | decide | omega)) ?_
  rintro _ _ _ ⟨rfl, rfl, z1, rfl, (⟨rfl, f2, f3⟩ | ⟨rfl, f4⟩)⟩
  · skip
    refine r_if_eq hX hP rfl (tgt := 16) rfl (by first | decide | omega) (by first | decide | omega) (fun c5 => ?_) (fun c5 => ?_)
    · skip
      exfalso; omega
    · skip
      refine r_ex hX hP 1 (pc' := 10) (st' := [(0, day)]) (lo' := [(0, (2, this)), (1, (0, account)), (2, (0, what)), (3, (0, day))]) rfl ?_
      refine r_callS gd hX hP rfl cs_X11_86 (d' := 1) (mc' := 0) (ms' := 0) (as' := [(0, day)]) (st := []) (by first | decide | omega) (by first | decide | omega) (by first | decide | omega) rfl rfl (Nat.le_of_ble_eq_true rfl) (c_X11_isDay E S G day (by first | decide | omega) (by first | decide | omega)) ?_
      rintro _ _ _ ⟨rfl, rfl, z6, rfl, (⟨rfl, f7, f8⟩ | ⟨rfl, f9⟩)⟩
      · skip
        refine r_if_ne hX hP rfl (tgt := 20) rfl (by first | decide | omega) (by first | decide | omega) (fun c10 => ?_) (fun c10 => ?_)
        · skip
          refine r_ex hX hP 5 (pc' := 26) (st' := [(0, account), (2, this), (2, this)]) (lo' := [(0, (2, this)), (1, (0, account)), (2, (0, what)), (3, (0, day)), (4, (0, 0))]) rfl ?_
          refine r_peekR hX (tl_128 5 rfl (by decide)) hS (fun acp11 acp11e acp11s => ?_)
          refine r_peekI hX (tl_130 0 rfl (by decide)) acp11s (fun cop12 cop12e cop12a cop12b => ?_)
          refine r_callV gd hX hP rfl cv_X11_100_128 hS (d' := 1) (mc' := 0) (ms' := 0) (as' := [(0, account)]) (st := [(2, this)]) (by first | decide | omega) (by first | decide | omega) (by first | decide | omega) rfl rfl (Nat.le_of_ble_eq_true rfl) (c_X11_hasAccount E S G this account hS acp11 acp11e acp11s cop12 cop12e (by first | decide | omega) (by first | decide | omega)) ?_
          rintro _ _ _ ⟨rfl, rfl, z13, rfl, (⟨rfl, f14, f15⟩ | rfl)⟩
          · skip
            refine r_if_ne hX hP rfl (tgt := 36) rfl (by first | decide | omega) (by first | decide | omega) (fun c16 => ?_) (fun c16 => ?_)
            · skip
              refine r_ex hX hP 4 (pc' := 41) (st' := [(0, 0), (0, 0), (0, 0), (0, 0), (2, this)]) (lo' := [(0, (2, this)), (1, (0, account)), (2, (0, what)), (3, (0, day)), (4, (0, 0))]) rfl ?_
              refine r_callS gd hX hP rfl cs_X11_112 (d' := 0) (mc' := 0) (ms' := 0) (as' := [(0, 0), (0, 0), (0, 0), (0, 0)]) (st := [(2, this)]) (by first | decide | omega) (by first | decide | omega) (by first | decide | omega) rfl rfl (Nat.le_of_ble_eq_true rfl) (c_X11_first E S G 0 0 0 0 (by first | decide | omega) (by first | decide | omega) (by first | decide | omega) (by first | decide | omega) (by first | decide | omega) (by first | decide | omega) (by first | decide | omega) (by first | decide | omega)) ?_
              rintro _ _ _ ⟨rfl, rfl, z17, rfl, (⟨rfl, f18⟩ | ⟨rfl, f19, f20⟩ | ⟨rfl, f21, f22, f23⟩ | ⟨rfl, f24, f25, f26, f27⟩ | ⟨rfl, f28, f29, f30, f31⟩)⟩
              · skip
                exfalso; omega
              · skip
                exfalso; omega
              · skip
                exfalso; omega
              · skip
                exfalso; omega
              · skip
                refine r_callV gd hX hP rfl cv_X11_90_128 hS (d' := 0) (mc' := 0) (ms' := 0) (as' := [(0, 0)]) (st := []) (by first | decide | omega) (by first | decide | omega) (by first | decide | omega) rfl rfl (Nat.le_of_ble_eq_true rfl) (c_X11_refused E S G this 0 hS (by first | decide | omega) (by first | decide | omega)) ?_
                rintro _ _ _ ⟨rfl, ⟨G32, rfl⟩, z33, rfl, (⟨rfl, f34⟩ | ⟨rfl, f35⟩)⟩
                · skip
                  exfalso; omega
                · skip
                  refine r_if_eq hX hP rfl (tgt := 54) rfl (by first | decide | omega) (by first | decide | omega) (fun c36 => ?_) (fun c36 => ?_)
                  · skip
                    refine r_ex hX hP 1 (pc' := 55) (st' := [(2, this)]) (lo' := [(0, (2, this)), (1, (0, account)), (2, (0, what)), (3, (0, day)), (4, (0, 0))]) rfl ?_
                    refine r_getR hX hP rfl fl_X11_16_128 hS (fun rf37 rf37e rf37s => ?_)
                    refine r_ex hX hP 1 (pc' := 59) (st' := [(0, day), (2, rf37)]) (lo' := [(0, (2, this)), (1, (0, account)), (2, (0, what)), (3, (0, day)), (4, (0, 0))]) rfl ?_
                    have ci38 : CI E S (hw [(128, 0)] G G32) := (ci_hw ci rfl)
                    refine r_callV gd hX hP rfl cv_X11_233_129 rf37s (d' := 6) (mc' := 0) (ms' := 0) (as' := [(0, day)]) (st := []) (by first | decide | omega) (by first | decide | omega) (by first | decide | omega) rfl rfl (Nat.le_of_ble_eq_true rfl) (c_X8_to E S (hw [(128, 0)] G G32) rf37 day rf37s (by first | decide | omega) (by first | decide | omega) ci38) ?_
                    rintro _ _ _ ⟨rfl, ⟨G39, rfl⟩, rfl, -⟩
                    refine r_ex hX hP 2 (pc' := 64) (st' := [(2, this), (2, this)]) (lo' := [(0, (2, this)), (1, (0, account)), (2, (0, what)), (3, (0, day)), (4, (0, 0))]) rfl ?_
                    refine r_getKR hX hP rfl fl_X11_16_128 hS (x := rf37) rf37e ?_
                    refine r_getI hX hP rfl fl_X11_235_129 rf37s (fun of40 of40e of40a of40b => ?_)
                    refine r_if_eq hX hP rfl (tgt := 78) rfl (by first | decide | omega) (by first | decide | omega) (fun c41 => ?_) (fun c41 => ?_)
                    · skip
                      refine r_ex hX hP 1 (pc' := 79) (st' := [(0, 0), (2, this)]) (lo' := [(0, (2, this)), (1, (0, account)), (2, (0, what)), (3, (0, day)), (4, (0, 0))]) rfl ?_
                      refine r_callV gd hX hP rfl cv_X11_90_128 hS (d' := 0) (mc' := 0) (ms' := 0) (as' := [(0, 0)]) (st := []) (by first | decide | omega) (by first | decide | omega) (by first | decide | omega) rfl rfl (Nat.le_of_ble_eq_true rfl) (c_X11_refused E S (hw [(93, -1), (95, -1), (96, -1), (97, -1), (115, -1), (116, -1), (118, -1), (119, -1), (125, -1), (126, -1), (127, -1), (129, 1), (129, 2), (129, 15), (129, 16)] (hw [(128, 0)] G G32) G39) this 0 hS (by first | decide | omega) (by first | decide | omega)) ?_
                      rintro _ _ _ ⟨rfl, ⟨G42, rfl⟩, z43, rfl, (⟨rfl, f44⟩ | ⟨rfl, f45⟩)⟩
                      · skip
                        exfalso; omega
                      · skip
                        refine r_if_eq hX hP rfl (tgt := 89) rfl (by first | decide | omega) (by first | decide | omega) (fun c46 => ?_) (fun c46 => ?_)
                        · skip
                          refine r_ex hX hP 1 (pc' := 90) (st' := [(0, what)]) (lo' := [(0, (2, this)), (1, (0, account)), (2, (0, what)), (3, (0, day)), (4, (0, 0))]) rfl ?_
                          refine r_if_ne hX hP rfl (tgt := 105) rfl (by first | decide | omega) (by first | decide | omega) (fun c47 => ?_) (fun c47 => ?_)
                          · skip
                            refine r_ex hX hP 1 (pc' := 106) (st' := [(2, this)]) (lo' := [(0, (2, this)), (1, (0, account)), (2, (0, what)), (3, (0, day)), (4, (0, 0))]) rfl ?_
                            refine r_getKR hX hP rfl fl_X11_16_128 hS (x := rf37) rf37e ?_
                            refine r_getR hX hP rfl fl_X11_257_129 rf37s (fun rf48 rf48e rf48s => ?_)
                            refine r_ex hX hP 1 (pc' := 113) (st' := [(0, account), (2, rf48)]) (lo' := [(0, (2, this)), (1, (0, account)), (2, (0, what)), (3, (0, day)), (4, (0, 0))]) rfl ?_
                            refine r_lald hX hP rfl al_95 rf48s (by first | decide | omega) (by first | decide | omega) (fun x49 x49e x49a x49b => ?_)
                            exact r_retL hX hP rfl rfl (by first | decide | omega) (by first | decide | omega) ⟨rfl, ⟨_, (hw_sub (hw_sub (hw_sub (hw_refl _ _) rfl) rfl) rfl).symm⟩, x49, rfl, (by first | decide | omega)⟩
                          · skip
                            refine r_ex hX hP 1 (pc' := 94) (st' := [(2, this)]) (lo' := [(0, (2, this)), (1, (0, account)), (2, (0, what)), (3, (0, day)), (4, (0, 0))]) rfl ?_
                            refine r_getKR hX hP rfl fl_X11_16_128 hS (x := rf37) rf37e ?_
                            refine r_getR hX hP rfl fl_X11_255_129 rf37s (fun pf50 pf50e pf50s => ?_)
                            refine r_ex hX hP 1 (pc' := 101) (st' := [(0, account), (2, pf50)]) (lo' := [(0, (2, this)), (1, (0, account)), (2, (0, what)), (3, (0, day)), (4, (0, 0))]) rfl ?_
                            refine r_lald hX hP rfl al_95 pf50s (by first | decide | omega) (by first | decide | omega) (fun x51 x51e x51a x51b => ?_)
                            refine r_ex hX hP 1 (pc' := 114) (st' := [(1, x51)]) (lo' := [(0, (2, this)), (1, (0, account)), (2, (0, what)), (3, (0, day)), (4, (0, 0))]) rfl ?_
                            exact r_retL hX hP rfl rfl (by first | decide | omega) (by first | decide | omega) ⟨rfl, ⟨_, (hw_sub (hw_sub (hw_sub (hw_refl _ _) rfl) rfl) rfl).symm⟩, x51, rfl, (by first | decide | omega)⟩
                        · skip
                          exfalso; omega
                    · skip
                      refine r_ex hX hP 2 (pc' := 79) (st' := [(0, 8), (2, this)]) (lo' := [(0, (2, this)), (1, (0, account)), (2, (0, what)), (3, (0, day)), (4, (0, 0))]) rfl ?_
                      refine r_callV gd hX hP rfl cv_X11_90_128 hS (d' := 0) (mc' := 0) (ms' := 0) (as' := [(0, 8)]) (st := []) (by first | decide | omega) (by first | decide | omega) (by first | decide | omega) rfl rfl (Nat.le_of_ble_eq_true rfl) (c_X11_refused E S (hw [(93, -1), (95, -1), (96, -1), (97, -1), (115, -1), (116, -1), (118, -1), (119, -1), (125, -1), (126, -1), (127, -1), (129, 1), (129, 2), (129, 15), (129, 16)] (hw [(128, 0)] G G32) G39) this 8 hS (by first | decide | omega) (by first | decide | omega)) ?_
                      rintro _ _ _ ⟨rfl, ⟨G52, rfl⟩, z53, rfl, (⟨rfl, f54⟩ | ⟨rfl, f55⟩)⟩
                      · skip
                        refine r_if_eq hX hP rfl (tgt := 89) rfl (by first | decide | omega) (by first | decide | omega) (fun c56 => ?_) (fun c56 => ?_)
                        · skip
                          exfalso; omega
                        · skip
                          refine r_ldc2 hX hP rfl (v := (-1)) (tbg sg5 231 rfl rfl) ?_
                          exact r_retL hX hP rfl rfl (by first | decide | omega) (by first | decide | omega) ⟨rfl, ⟨_, (hw_sub (hw_sub (hw_sub (hw_refl _ _) rfl) rfl) rfl).symm⟩, (-1), rfl, (by first | decide | omega)⟩
                      · skip
                        exfalso; omega
                  · skip
                    exfalso; omega
            · skip
              exfalso; omega
          · skip
            refine r_if_ne hX hP rfl (tgt := 36) rfl (by first | decide | omega) (by first | decide | omega) (fun c57 => ?_) (fun c57 => ?_)
            · skip
              exfalso; omega
            · skip
              refine r_ex hX hP 5 (pc' := 41) (st' := [(0, 0), (0, 0), (0, 0), (0, 1), (2, this)]) (lo' := [(0, (2, this)), (1, (0, account)), (2, (0, what)), (3, (0, day)), (4, (0, 0))]) rfl ?_
              refine r_callS gd hX hP rfl cs_X11_112 (d' := 0) (mc' := 0) (ms' := 0) (as' := [(0, 1), (0, 0), (0, 0), (0, 0)]) (st := [(2, this)]) (by first | decide | omega) (by first | decide | omega) (by first | decide | omega) rfl rfl (Nat.le_of_ble_eq_true rfl) (c_X11_first E S G 1 0 0 0 (by first | decide | omega) (by first | decide | omega) (by first | decide | omega) (by first | decide | omega) (by first | decide | omega) (by first | decide | omega) (by first | decide | omega) (by first | decide | omega)) ?_
              rintro _ _ _ ⟨rfl, rfl, z58, rfl, (⟨rfl, f59⟩ | ⟨rfl, f60, f61⟩ | ⟨rfl, f62, f63, f64⟩ | ⟨rfl, f65, f66, f67, f68⟩ | ⟨rfl, f69, f70, f71, f72⟩)⟩
              · skip
                refine r_callV gd hX hP rfl cv_X11_90_128 hS (d' := 0) (mc' := 0) (ms' := 0) (as' := [(0, 1)]) (st := []) (by first | decide | omega) (by first | decide | omega) (by first | decide | omega) rfl rfl (Nat.le_of_ble_eq_true rfl) (c_X11_refused E S G this 1 hS (by first | decide | omega) (by first | decide | omega)) ?_
                rintro _ _ _ ⟨rfl, ⟨G73, rfl⟩, z74, rfl, (⟨rfl, f75⟩ | ⟨rfl, f76⟩)⟩
                · skip
                  refine r_if_eq hX hP rfl (tgt := 54) rfl (by first | decide | omega) (by first | decide | omega) (fun c77 => ?_) (fun c77 => ?_)
                  · skip
                    exfalso; omega
                  · skip
                    refine r_ldc2 hX hP rfl (v := (-1)) (tbg sg5 231 rfl rfl) ?_
                    exact r_retL hX hP rfl rfl (by first | decide | omega) (by first | decide | omega) ⟨rfl, ⟨_, (hw_sub (hw_refl _ _) rfl).symm⟩, (-1), rfl, (by first | decide | omega)⟩
                · skip
                  exfalso; omega
              · skip
                exfalso; omega
              · skip
                exfalso; omega
              · skip
                exfalso; omega
              · skip
                exfalso; omega
        · skip
          exfalso; omega
      · skip
        refine r_if_ne hX hP rfl (tgt := 20) rfl (by first | decide | omega) (by first | decide | omega) (fun c78 => ?_) (fun c78 => ?_)
        · skip
          exfalso; omega
        · skip
          refine r_ex hX hP 6 (pc' := 26) (st' := [(0, account), (2, this), (2, this)]) (lo' := [(0, (2, this)), (1, (0, account)), (2, (0, what)), (3, (0, day)), (4, (0, 1))]) rfl ?_
          refine r_peekR hX (tl_128 5 rfl (by decide)) hS (fun acp79 acp79e acp79s => ?_)
          refine r_peekI hX (tl_130 0 rfl (by decide)) acp79s (fun cop80 cop80e cop80a cop80b => ?_)
          refine r_callV gd hX hP rfl cv_X11_100_128 hS (d' := 1) (mc' := 0) (ms' := 0) (as' := [(0, account)]) (st := [(2, this)]) (by first | decide | omega) (by first | decide | omega) (by first | decide | omega) rfl rfl (Nat.le_of_ble_eq_true rfl) (c_X11_hasAccount E S G this account hS acp79 acp79e acp79s cop80 cop80e (by first | decide | omega) (by first | decide | omega)) ?_
          rintro _ _ _ ⟨rfl, rfl, z81, rfl, (⟨rfl, f82, f83⟩ | rfl)⟩
          · skip
            refine r_if_ne hX hP rfl (tgt := 36) rfl (by first | decide | omega) (by first | decide | omega) (fun c84 => ?_) (fun c84 => ?_)
            · skip
              refine r_ex hX hP 4 (pc' := 41) (st' := [(0, 0), (0, 0), (0, 1), (0, 0), (2, this)]) (lo' := [(0, (2, this)), (1, (0, account)), (2, (0, what)), (3, (0, day)), (4, (0, 1))]) rfl ?_
              refine r_callS gd hX hP rfl cs_X11_112 (d' := 0) (mc' := 0) (ms' := 0) (as' := [(0, 0), (0, 1), (0, 0), (0, 0)]) (st := [(2, this)]) (by first | decide | omega) (by first | decide | omega) (by first | decide | omega) rfl rfl (Nat.le_of_ble_eq_true rfl) (c_X11_first E S G 0 1 0 0 (by first | decide | omega) (by first | decide | omega) (by first | decide | omega) (by first | decide | omega) (by first | decide | omega) (by first | decide | omega) (by first | decide | omega) (by first | decide | omega)) ?_
              rintro _ _ _ ⟨rfl, rfl, z85, rfl, (⟨rfl, f86⟩ | ⟨rfl, f87, f88⟩ | ⟨rfl, f89, f90, f91⟩ | ⟨rfl, f92, f93, f94, f95⟩ | ⟨rfl, f96, f97, f98, f99⟩)⟩
              · skip
                exfalso; omega
              · skip
                refine r_callV gd hX hP rfl cv_X11_90_128 hS (d' := 0) (mc' := 0) (ms' := 0) (as' := [(0, 2)]) (st := []) (by first | decide | omega) (by first | decide | omega) (by first | decide | omega) rfl rfl (Nat.le_of_ble_eq_true rfl) (c_X11_refused E S G this 2 hS (by first | decide | omega) (by first | decide | omega)) ?_
                rintro _ _ _ ⟨rfl, ⟨G100, rfl⟩, z101, rfl, (⟨rfl, f102⟩ | ⟨rfl, f103⟩)⟩
                · skip
                  refine r_if_eq hX hP rfl (tgt := 54) rfl (by first | decide | omega) (by first | decide | omega) (fun c104 => ?_) (fun c104 => ?_)
                  · skip
                    exfalso; omega
                  · skip
                    refine r_ldc2 hX hP rfl (v := (-1)) (tbg sg5 231 rfl rfl) ?_
                    exact r_retL hX hP rfl rfl (by first | decide | omega) (by first | decide | omega) ⟨rfl, ⟨_, (hw_sub (hw_refl _ _) rfl).symm⟩, (-1), rfl, (by first | decide | omega)⟩
                · skip
                  exfalso; omega
              · skip
                exfalso; omega
              · skip
                exfalso; omega
              · skip
                exfalso; omega
            · skip
              exfalso; omega
          · skip
            refine r_if_ne hX hP rfl (tgt := 36) rfl (by first | decide | omega) (by first | decide | omega) (fun c105 => ?_) (fun c105 => ?_)
            · skip
              exfalso; omega
            · skip
              refine r_ex hX hP 5 (pc' := 41) (st' := [(0, 0), (0, 0), (0, 1), (0, 1), (2, this)]) (lo' := [(0, (2, this)), (1, (0, account)), (2, (0, what)), (3, (0, day)), (4, (0, 1))]) rfl ?_
              refine r_callS gd hX hP rfl cs_X11_112 (d' := 0) (mc' := 0) (ms' := 0) (as' := [(0, 1), (0, 1), (0, 0), (0, 0)]) (st := [(2, this)]) (by first | decide | omega) (by first | decide | omega) (by first | decide | omega) rfl rfl (Nat.le_of_ble_eq_true rfl) (c_X11_first E S G 1 1 0 0 (by first | decide | omega) (by first | decide | omega) (by first | decide | omega) (by first | decide | omega) (by first | decide | omega) (by first | decide | omega) (by first | decide | omega) (by first | decide | omega)) ?_
              rintro _ _ _ ⟨rfl, rfl, z106, rfl, (⟨rfl, f107⟩ | ⟨rfl, f108, f109⟩ | ⟨rfl, f110, f111, f112⟩ | ⟨rfl, f113, f114, f115, f116⟩ | ⟨rfl, f117, f118, f119, f120⟩)⟩
              · skip
                refine r_callV gd hX hP rfl cv_X11_90_128 hS (d' := 0) (mc' := 0) (ms' := 0) (as' := [(0, 1)]) (st := []) (by first | decide | omega) (by first | decide | omega) (by first | decide | omega) rfl rfl (Nat.le_of_ble_eq_true rfl) (c_X11_refused E S G this 1 hS (by first | decide | omega) (by first | decide | omega)) ?_
                rintro _ _ _ ⟨rfl, ⟨G121, rfl⟩, z122, rfl, (⟨rfl, f123⟩ | ⟨rfl, f124⟩)⟩
                · skip
                  refine r_if_eq hX hP rfl (tgt := 54) rfl (by first | decide | omega) (by first | decide | omega) (fun c125 => ?_) (fun c125 => ?_)
                  · skip
                    exfalso; omega
                  · skip
                    refine r_ldc2 hX hP rfl (v := (-1)) (tbg sg5 231 rfl rfl) ?_
                    exact r_retL hX hP rfl rfl (by first | decide | omega) (by first | decide | omega) ⟨rfl, ⟨_, (hw_sub (hw_refl _ _) rfl).symm⟩, (-1), rfl, (by first | decide | omega)⟩
                · skip
                  exfalso; omega
              · skip
                exfalso; omega
              · skip
                exfalso; omega
              · skip
                exfalso; omega
              · skip
                exfalso; omega
  · skip
    refine r_if_eq hX hP rfl (tgt := 16) rfl (by first | decide | omega) (by first | decide | omega) (fun c126 => ?_) (fun c126 => ?_)
    · skip
      refine r_ex hX hP 6 (pc' := 26) (st' := [(0, account), (2, this), (2, this)]) (lo' := [(0, (2, this)), (1, (0, account)), (2, (0, what)), (3, (0, day)), (4, (0, 1))]) rfl ?_
      refine r_peekR hX (tl_128 5 rfl (by decide)) hS (fun acp127 acp127e acp127s => ?_)
      refine r_peekI hX (tl_130 0 rfl (by decide)) acp127s (fun cop128 cop128e cop128a cop128b => ?_)
      refine r_callV gd hX hP rfl cv_X11_100_128 hS (d' := 1) (mc' := 0) (ms' := 0) (as' := [(0, account)]) (st := [(2, this)]) (by first | decide | omega) (by first | decide | omega) (by first | decide | omega) rfl rfl (Nat.le_of_ble_eq_true rfl) (c_X11_hasAccount E S G this account hS acp127 acp127e acp127s cop128 cop128e (by first | decide | omega) (by first | decide | omega)) ?_
      rintro _ _ _ ⟨rfl, rfl, z129, rfl, (⟨rfl, f130, f131⟩ | rfl)⟩
      · skip
        refine r_if_ne hX hP rfl (tgt := 36) rfl (by first | decide | omega) (by first | decide | omega) (fun c132 => ?_) (fun c132 => ?_)
        · skip
          refine r_ex hX hP 4 (pc' := 41) (st' := [(0, 0), (0, 0), (0, 1), (0, 0), (2, this)]) (lo' := [(0, (2, this)), (1, (0, account)), (2, (0, what)), (3, (0, day)), (4, (0, 1))]) rfl ?_
          refine r_callS gd hX hP rfl cs_X11_112 (d' := 0) (mc' := 0) (ms' := 0) (as' := [(0, 0), (0, 1), (0, 0), (0, 0)]) (st := [(2, this)]) (by first | decide | omega) (by first | decide | omega) (by first | decide | omega) rfl rfl (Nat.le_of_ble_eq_true rfl) (c_X11_first E S G 0 1 0 0 (by first | decide | omega) (by first | decide | omega) (by first | decide | omega) (by first | decide | omega) (by first | decide | omega) (by first | decide | omega) (by first | decide | omega) (by first | decide | omega)) ?_
          rintro _ _ _ ⟨rfl, rfl, z133, rfl, (⟨rfl, f134⟩ | ⟨rfl, f135, f136⟩ | ⟨rfl, f137, f138, f139⟩ | ⟨rfl, f140, f141, f142, f143⟩ | ⟨rfl, f144, f145, f146, f147⟩)⟩
          · skip
            exfalso; omega
          · skip
            refine r_callV gd hX hP rfl cv_X11_90_128 hS (d' := 0) (mc' := 0) (ms' := 0) (as' := [(0, 2)]) (st := []) (by first | decide | omega) (by first | decide | omega) (by first | decide | omega) rfl rfl (Nat.le_of_ble_eq_true rfl) (c_X11_refused E S G this 2 hS (by first | decide | omega) (by first | decide | omega)) ?_
            rintro _ _ _ ⟨rfl, ⟨G148, rfl⟩, z149, rfl, (⟨rfl, f150⟩ | ⟨rfl, f151⟩)⟩
            · skip
              refine r_if_eq hX hP rfl (tgt := 54) rfl (by first | decide | omega) (by first | decide | omega) (fun c152 => ?_) (fun c152 => ?_)
              · skip
                exfalso; omega
              · skip
                refine r_ldc2 hX hP rfl (v := (-1)) (tbg sg5 231 rfl rfl) ?_
                exact r_retL hX hP rfl rfl (by first | decide | omega) (by first | decide | omega) ⟨rfl, ⟨_, (hw_sub (hw_refl _ _) rfl).symm⟩, (-1), rfl, (by first | decide | omega)⟩
            · skip
              exfalso; omega
          · skip
            exfalso; omega
          · skip
            exfalso; omega
          · skip
            exfalso; omega
        · skip
          exfalso; omega
      · skip
        refine r_if_ne hX hP rfl (tgt := 36) rfl (by first | decide | omega) (by first | decide | omega) (fun c153 => ?_) (fun c153 => ?_)
        · skip
          exfalso; omega
        · skip
          refine r_ex hX hP 5 (pc' := 41) (st' := [(0, 0), (0, 0), (0, 1), (0, 1), (2, this)]) (lo' := [(0, (2, this)), (1, (0, account)), (2, (0, what)), (3, (0, day)), (4, (0, 1))]) rfl ?_
          refine r_callS gd hX hP rfl cs_X11_112 (d' := 0) (mc' := 0) (ms' := 0) (as' := [(0, 1), (0, 1), (0, 0), (0, 0)]) (st := [(2, this)]) (by first | decide | omega) (by first | decide | omega) (by first | decide | omega) rfl rfl (Nat.le_of_ble_eq_true rfl) (c_X11_first E S G 1 1 0 0 (by first | decide | omega) (by first | decide | omega) (by first | decide | omega) (by first | decide | omega) (by first | decide | omega) (by first | decide | omega) (by first | decide | omega) (by first | decide | omega)) ?_
          rintro _ _ _ ⟨rfl, rfl, z154, rfl, (⟨rfl, f155⟩ | ⟨rfl, f156, f157⟩ | ⟨rfl, f158, f159, f160⟩ | ⟨rfl, f161, f162, f163, f164⟩ | ⟨rfl, f165, f166, f167, f168⟩)⟩
          · skip
            refine r_callV gd hX hP rfl cv_X11_90_128 hS (d' := 0) (mc' := 0) (ms' := 0) (as' := [(0, 1)]) (st := []) (by first | decide | omega) (by first | decide | omega) (by first | decide | omega) rfl rfl (Nat.le_of_ble_eq_true rfl) (c_X11_refused E S G this 1 hS (by first | decide | omega) (by first | decide | omega)) ?_
            rintro _ _ _ ⟨rfl, ⟨G169, rfl⟩, z170, rfl, (⟨rfl, f171⟩ | ⟨rfl, f172⟩)⟩
            · skip
              refine r_if_eq hX hP rfl (tgt := 54) rfl (by first | decide | omega) (by first | decide | omega) (fun c173 => ?_) (fun c173 => ?_)
              · skip
                exfalso; omega
              · skip
                refine r_ldc2 hX hP rfl (v := (-1)) (tbg sg5 231 rfl rfl) ?_
                exact r_retL hX hP rfl rfl (by first | decide | omega) (by first | decide | omega) ⟨rfl, ⟨_, (hw_sub (hw_refl _ _) rfl).symm⟩, (-1), rfl, (by first | decide | omega)⟩
            · skip
              exfalso; omega
          · skip
            exfalso; omega
          · skip
            exfalso; omega
          · skip
            exfalso; omega
          · skip
            exfalso; omega
    · skip
      exfalso; omega
set_option maxRecDepth 100000 in
set_option maxHeartbeats 4000000 in
theorem c_X11_chosen (E : En) (S : Sg) (G : Gh) (this : Int) (event : Int) (account : Int) (hS : S this = 128) (event_a : (-2147483648) ≤ event) (event_b : event ≤ 2147483647) (account_a : (-2147483648) ≤ account) (account_b : account ≤ 2147483647) (ci : CI E S G) : Calls E mX11_chosen [(2, this), (0, event), (0, account)] S G 4 0 0 (fun r S' G' => S = S' ∧ (∃ G1, hw [(128, 0)] G G1 = G') ∧ ∃ z : Int, r = some (0, z) ∧ (-2147483648) ≤ z ∧ z ≤ 2147483647) := by
  refine calls_by [(0, (2, this)), (1, (0, event)), (2, (0, account))] rfl rfl (Nat.le_of_ble_eq_true rfl) (fun X hX => ?_)
  have hP := hPX11_chosen
  refine r_ex hX hP 3 (pc' := 3) (st' := [(0, event), (2, this), (2, this)]) (lo' := [(0, (2, this)), (1, (0, event)), (2, (0, account))]) rfl ?_
  refine r_peekR hX (tl_128 8 rfl (by decide)) hS (fun evp1 evp1e evp1s => ?_)
  refine r_peekI hX (tl_156 2 rfl (by decide)) evp1s (fun sip2 sip2e sip2a sip2b => ?_)
  refine r_callV gd hX hP rfl cv_X11_193_128 hS (d' := 1) (mc' := 0) (ms' := 0) (as' := [(0, event)]) (st := [(2, this)]) (by first | decide | omega) (by first | decide | omega) (by first | decide | omega) rfl rfl (Nat.le_of_ble_eq_true rfl) (c_X11_hasEvent E S G this event hS evp1 evp1e evp1s sip2 sip2e (by first | decide | omega) (by first | decide | omega)) ?_
  rintro _ _ _ ⟨rfl, rfl, z3, rfl, (⟨rfl, f4, f5⟩ | rfl)⟩
  · skip
    refine r_if_eq hX hP rfl (tgt := 21) rfl (by first | decide | omega) (by first | decide | omega) (fun c6 => ?_) (fun c6 => ?_)
    · skip
      exfalso; omega
    · skip
      refine r_ex hX hP 2 (pc' := 11) (st' := [(0, account), (2, this), (2, this)]) (lo' := [(0, (2, this)), (1, (0, event)), (2, (0, account))]) rfl ?_
      refine r_peekR hX (tl_128 5 rfl (by decide)) hS (fun acp7 acp7e acp7s => ?_)
      refine r_peekI hX (tl_130 0 rfl (by decide)) acp7s (fun cop8 cop8e cop8a cop8b => ?_)
      refine r_callV gd hX hP rfl cv_X11_100_128 hS (d' := 1) (mc' := 0) (ms' := 0) (as' := [(0, account)]) (st := [(2, this)]) (by first | decide | omega) (by first | decide | omega) (by first | decide | omega) rfl rfl (Nat.le_of_ble_eq_true rfl) (c_X11_hasAccount E S G this account hS acp7 acp7e acp7s cop8 cop8e (by first | decide | omega) (by first | decide | omega)) ?_
      rintro _ _ _ ⟨rfl, rfl, z9, rfl, (⟨rfl, f10, f11⟩ | rfl)⟩
      · skip
        refine r_if_eq hX hP rfl (tgt := 21) rfl (by first | decide | omega) (by first | decide | omega) (fun c12 => ?_) (fun c12 => ?_)
        · skip
          exfalso; omega
        · skip
          refine r_ex hX hP 2 (pc' := 22) (st' := [(0, 0), (2, this)]) (lo' := [(0, (2, this)), (1, (0, event)), (2, (0, account))]) rfl ?_
          refine r_callV gd hX hP rfl cv_X11_90_128 hS (d' := 0) (mc' := 0) (ms' := 0) (as' := [(0, 0)]) (st := []) (by first | decide | omega) (by first | decide | omega) (by first | decide | omega) rfl rfl (Nat.le_of_ble_eq_true rfl) (c_X11_refused E S G this 0 hS (by first | decide | omega) (by first | decide | omega)) ?_
          rintro _ _ _ ⟨rfl, ⟨G13, rfl⟩, z14, rfl, (⟨rfl, f15⟩ | ⟨rfl, f16⟩)⟩
          · skip
            exfalso; omega
          · skip
            refine r_if_eq hX hP rfl (tgt := 30) rfl (by first | decide | omega) (by first | decide | omega) (fun c17 => ?_) (fun c17 => ?_)
            · skip
              refine r_ex hX hP 1 (pc' := 31) (st' := [(2, this)]) (lo' := [(0, (2, this)), (1, (0, event)), (2, (0, account))]) rfl ?_
              refine r_getR hX hP rfl fl_X11_16_128 hS (fun rf18 rf18e rf18s => ?_)
              refine r_ex hX hP 2 (pc' := 36) (st' := [(0, account), (0, event), (2, rf18)]) (lo' := [(0, (2, this)), (1, (0, event)), (2, (0, account))]) rfl ?_
              refine r_peekR hX (tl_129 12 rfl (by decide)) rf18s (fun evp19 evp19e evp19s => ?_)
              obtain rfl : evp1 = evp19 := ci_uq ci evp1s evp19s rfl
              have ci20 : CI E S (hw [(128, 0)] G G13) := (ci_hw ci rfl)
              refine r_callV gd hX hP rfl cv_X11_260_129 rf18s (d' := 3) (mc' := 0) (ms' := 0) (as' := [(0, event), (0, account)]) (st := []) (by first | decide | omega) (by first | decide | omega) (by first | decide | omega) rfl rfl (Nat.le_of_ble_eq_true rfl) (c_X8_choiceOf E S (hw [(128, 0)] G G13) rf18 event account rf18s evp1 evp19e evp1s sip2 sip2e (by first | decide | omega) (by first | decide | omega) (by first | decide | omega) (by first | decide | omega) (by first | decide | omega) ci20) ?_
              rintro _ _ _ ⟨rfl, rfl, z21, rfl, z21a, z21b⟩
              refine r_ex hX hP 2 (pc' := 41) (st' := [(2, this)]) (lo' := [(0, (2, this)), (1, (0, event)), (2, (0, account)), (3, (0, z21))]) rfl ?_
              refine r_getKR hX hP rfl fl_X11_37_128 hS (x := evp1) evp1e ?_
              refine r_ex hX hP 1 (pc' := 45) (st' := [(0, event), (2, evp1)]) (lo' := [(0, (2, this)), (1, (0, event)), (2, (0, account)), (3, (0, z21))]) rfl ?_
              refine r_callV gd hX hP rfl cv_X11_196_156 evp1s (d' := 2) (mc' := 0) (ms' := 0) (as' := [(0, event)]) (st := []) (by first | decide | omega) (by first | decide | omega) (by first | decide | omega) rfl rfl (Nat.le_of_ble_eq_true rfl) (c_get_Lev E S (hw [(128, 0)] G G13) evp1 event evp1s sip2 sip2e (by first | decide | omega) (by first | decide | omega) (by first | decide | omega) ci20) ?_
              rintro _ _ _ ⟨rfl, rfl, z22, rfl, z22s⟩
              refine r_cast hX hP rfl (tbg sg4 200 rfl rfl) ck_137_X2 z22s ?_
              refine r_ex hX hP 1 (pc' := 52) (st' := [(2, this), (2, z22)]) (lo' := [(0, (2, this)), (1, (0, event)), (2, (0, account)), (3, (0, z21))]) rfl ?_
              refine r_getKR hX hP rfl fl_X11_16_128 hS (x := rf18) rf18e ?_
              refine r_getI hX hP rfl fl_X11_93_129 rf18s (fun af23 af23e af23a af23b => ?_)
              refine r_callU gd hX hP rfl cu_X11_264_137 z22s (d' := 0) (mc' := 0) (ms' := 0) (as' := [(0, af23)]) (st := []) (by first | decide | omega) (by first | decide | omega) (by first | decide | omega) rfl rfl (Nat.le_of_ble_eq_true rfl) (c_counts_Evt E S (hw [(128, 0)] G G13) z22 af23 z22s (by first | decide | omega) (by first | decide | omega)) ?_
              rintro _ _ _ ⟨rfl, rfl, z24, rfl, z24a, z24b⟩
              refine r_ex hX hP 4 (pc' := 67) (st' := [(0, z24), (0, z21), (2, this)]) (lo' := [(0, (2, this)), (1, (0, event)), (2, (0, account)), (3, (0, z21)), (4, (0, z24))]) rfl ?_
              refine r_callS gd hX hP rfl cs_X11_267 (d' := 0) (mc' := 0) (ms' := 0) (as' := [(0, z21), (0, z24)]) (st := [(2, this)]) (by first | decide | omega) (by first | decide | omega) (by first | decide | omega) rfl rfl (Nat.le_of_ble_eq_true rfl) (c_X11_noneOrUntold E S (hw [(128, 0)] G G13) z21 z24 (by first | decide | omega) (by first | decide | omega) (by first | decide | omega) (by first | decide | omega)) ?_
              rintro _ _ _ ⟨rfl, rfl, z25, rfl, z25a, z25b⟩
              refine r_callV gd hX hP rfl cv_X11_90_128 hS (d' := 0) (mc' := 0) (ms' := 0) (as' := [(0, z25)]) (st := []) (by first | decide | omega) (by first | decide | omega) (by first | decide | omega) rfl rfl (Nat.le_of_ble_eq_true rfl) (c_X11_refused E S (hw [(128, 0)] G G13) this z25 hS (by first | decide | omega) (by first | decide | omega)) ?_
              rintro _ _ _ ⟨rfl, ⟨G26, rfl⟩, z27, rfl, (⟨rfl, f28⟩ | ⟨rfl, f29⟩)⟩
              · skip
                refine r_if_eq hX hP rfl (tgt := 80) rfl (by first | decide | omega) (by first | decide | omega) (fun c30 => ?_) (fun c30 => ?_)
                · skip
                  exfalso; omega
                · skip
                  refine r_ex hX hP 2 (pc' := 81) (st' := [(0, (-1))]) (lo' := [(0, (2, this)), (1, (0, event)), (2, (0, account)), (3, (0, z21)), (4, (0, z24))]) rfl ?_
                  exact r_retI hX hP rfl rfl (by first | decide | omega) (by first | decide | omega) ⟨rfl, ⟨_, (hw_sub (hw_sub (hw_refl _ _) rfl) rfl).symm⟩, (-1), rfl, (by first | decide | omega)⟩
              · skip
                refine r_if_eq hX hP rfl (tgt := 80) rfl (by first | decide | omega) (by first | decide | omega) (fun c31 => ?_) (fun c31 => ?_)
                · skip
                  refine r_ex hX hP 1 (pc' := 81) (st' := [(0, z21)]) (lo' := [(0, (2, this)), (1, (0, event)), (2, (0, account)), (3, (0, z21)), (4, (0, z24))]) rfl ?_
                  exact r_retI hX hP rfl rfl (by first | decide | omega) (by first | decide | omega) ⟨rfl, ⟨_, (hw_sub (hw_sub (hw_refl _ _) rfl) rfl).symm⟩, z21, rfl, (by first | decide | omega)⟩
                · skip
                  exfalso; omega
            · skip
              exfalso; omega
      · skip
        refine r_if_eq hX hP rfl (tgt := 21) rfl (by first | decide | omega) (by first | decide | omega) (fun c32 => ?_) (fun c32 => ?_)
        · skip
          refine r_ex hX hP 1 (pc' := 22) (st' := [(0, 1), (2, this)]) (lo' := [(0, (2, this)), (1, (0, event)), (2, (0, account))]) rfl ?_
          refine r_callV gd hX hP rfl cv_X11_90_128 hS (d' := 0) (mc' := 0) (ms' := 0) (as' := [(0, 1)]) (st := []) (by first | decide | omega) (by first | decide | omega) (by first | decide | omega) rfl rfl (Nat.le_of_ble_eq_true rfl) (c_X11_refused E S G this 1 hS (by first | decide | omega) (by first | decide | omega)) ?_
          rintro _ _ _ ⟨rfl, ⟨G33, rfl⟩, z34, rfl, (⟨rfl, f35⟩ | ⟨rfl, f36⟩)⟩
          · skip
            refine r_if_eq hX hP rfl (tgt := 30) rfl (by first | decide | omega) (by first | decide | omega) (fun c37 => ?_) (fun c37 => ?_)
            · skip
              exfalso; omega
            · skip
              refine r_ex hX hP 1 (pc' := 29) (st' := [(0, (-1))]) (lo' := [(0, (2, this)), (1, (0, event)), (2, (0, account))]) rfl ?_
              exact r_retI hX hP rfl rfl (by first | decide | omega) (by first | decide | omega) ⟨rfl, ⟨_, (hw_sub (hw_refl _ _) rfl).symm⟩, (-1), rfl, (by first | decide | omega)⟩
          · skip
            exfalso; omega
        · skip
          exfalso; omega
  · skip
    refine r_if_eq hX hP rfl (tgt := 21) rfl (by first | decide | omega) (by first | decide | omega) (fun c38 => ?_) (fun c38 => ?_)
    · skip
      refine r_ex hX hP 1 (pc' := 22) (st' := [(0, 1), (2, this)]) (lo' := [(0, (2, this)), (1, (0, event)), (2, (0, account))]) rfl ?_
      refine r_callV gd hX hP rfl cv_X11_90_128 hS (d' := 0) (mc' := 0) (ms' := 0) (as' := [(0, 1)]) (st := []) (by first | decide | omega) (by first | decide | omega) (by first | decide | omega) rfl rfl (Nat.le_of_ble_eq_true rfl) (c_X11_refused E S G this 1 hS (by first | decide | omega) (by first | decide | omega)) ?_
      rintro _ _ _ ⟨rfl, ⟨G39, rfl⟩, z40, rfl, (⟨rfl, f41⟩ | ⟨rfl, f42⟩)⟩
      · skip
        refine r_if_eq hX hP rfl (tgt := 30) rfl (by first | decide | omega) (by first | decide | omega) (fun c43 => ?_) (fun c43 => ?_)
        · skip
          exfalso; omega
        · skip
          refine r_ex hX hP 1 (pc' := 29) (st' := [(0, (-1))]) (lo' := [(0, (2, this)), (1, (0, event)), (2, (0, account))]) rfl ?_
          exact r_retI hX hP rfl rfl (by first | decide | omega) (by first | decide | omega) ⟨rfl, ⟨_, (hw_sub (hw_refl _ _) rfl).symm⟩, (-1), rfl, (by first | decide | omega)⟩
      · skip
        exfalso; omega
    · skip
      exfalso; omega
set_option maxRecDepth 100000 in
set_option maxHeartbeats 4000000 in
theorem c_X11_stays (E : En) (S : Sg) (G : Gh) (this : Int) (event : Int) (account : Int) (choice : Int) (hS : S this = 128) (event_a : (-2147483648) ≤ event) (event_b : event ≤ 2147483647) (account_a : (-2147483648) ≤ account) (account_b : account ≤ 2147483647) (choice_a : (-2147483648) ≤ choice) (choice_b : choice ≤ 2147483647) (ci : CI E S G) : Calls E mX11_stays [(2, this), (0, event), (0, account), (0, choice)] S G 7 0 0 (fun r S' G' => S = S' ∧ (∃ G1, hw [(93, -1), (95, -1), (96, -1), (97, -1), (115, -1), (116, -1), (118, -1), (119, -1), (125, -1), (126, -1), (127, -1), (128, 0), (129, 1), (129, 2), (129, 15), (129, 16)] G G1 = G') ∧ ∃ z : Int, r = some (0, z) ∧ (-2147483648) ≤ z ∧ z ≤ 2147483647) := by
  refine calls_by [(0, (2, this)), (1, (0, event)), (2, (0, account)), (3, (0, choice))] rfl rfl (Nat.le_of_ble_eq_true rfl) (fun X hX => ?_)
  have hP := hPX11_stays
  refine r_ex hX hP 4 (pc' := 4) (st' := [(0, choice), (0, event), (2, this), (2, this)]) (lo' := [(0, (2, this)), (1, (0, event)), (2, (0, account)), (3, (0, choice))]) rfl ?_
  refine r_peekR hX (tl_128 8 rfl (by decide)) hS (fun evp1 evp1e evp1s => ?_)
  refine r_peekI hX (tl_156 2 rfl (by decide)) evp1s (fun sip2 sip2e sip2a sip2b => ?_)
  refine r_callV gd hX hP rfl cv_X11_209_128 hS (d' := 3) (mc' := 0) (ms' := 0) (as' := [(0, event), (0, choice)]) (st := [(2, this)]) (by first | decide | omega) (by first | decide | omega) (by first | decide | omega) rfl rfl (Nat.le_of_ble_eq_true rfl) (c_X11_hasChoice E S G this event choice hS evp1 evp1e evp1s sip2 sip2e (by first | decide | omega) (by first | decide | omega) (by first | decide | omega) (by first | decide | omega) ci) ?_
  rintro _ _ _ ⟨rfl, rfl, z3, rfl, (⟨rfl, f4, f5, f6, f7⟩ | rfl)⟩
  · skip
    refine r_if_eq hX hP rfl (tgt := 22) rfl (by first | decide | omega) (by first | decide | omega) (fun c8 => ?_) (fun c8 => ?_)
    · skip
      exfalso; omega
    · skip
      refine r_ex hX hP 2 (pc' := 12) (st' := [(0, account), (2, this), (2, this)]) (lo' := [(0, (2, this)), (1, (0, event)), (2, (0, account)), (3, (0, choice))]) rfl ?_
      refine r_peekR hX (tl_128 5 rfl (by decide)) hS (fun acp9 acp9e acp9s => ?_)
      refine r_peekI hX (tl_130 0 rfl (by decide)) acp9s (fun cop10 cop10e cop10a cop10b => ?_)
      refine r_callV gd hX hP rfl cv_X11_100_128 hS (d' := 1) (mc' := 0) (ms' := 0) (as' := [(0, account)]) (st := [(2, this)]) (by first | decide | omega) (by first | decide | omega) (by first | decide | omega) rfl rfl (Nat.le_of_ble_eq_true rfl) (c_X11_hasAccount E S G this account hS acp9 acp9e acp9s cop10 cop10e (by first | decide | omega) (by first | decide | omega)) ?_
      rintro _ _ _ ⟨rfl, rfl, z11, rfl, (⟨rfl, f12, f13⟩ | rfl)⟩
      · skip
        refine r_if_eq hX hP rfl (tgt := 22) rfl (by first | decide | omega) (by first | decide | omega) (fun c14 => ?_) (fun c14 => ?_)
        · skip
          exfalso; omega
        · skip
          refine r_ex hX hP 2 (pc' := 23) (st' := [(0, 0), (2, this)]) (lo' := [(0, (2, this)), (1, (0, event)), (2, (0, account)), (3, (0, choice))]) rfl ?_
          refine r_callV gd hX hP rfl cv_X11_90_128 hS (d' := 0) (mc' := 0) (ms' := 0) (as' := [(0, 0)]) (st := []) (by first | decide | omega) (by first | decide | omega) (by first | decide | omega) rfl rfl (Nat.le_of_ble_eq_true rfl) (c_X11_refused E S G this 0 hS (by first | decide | omega) (by first | decide | omega)) ?_
          rintro _ _ _ ⟨rfl, ⟨G15, rfl⟩, z16, rfl, (⟨rfl, f17⟩ | ⟨rfl, f18⟩)⟩
          · skip
            exfalso; omega
          · skip
            refine r_if_eq hX hP rfl (tgt := 31) rfl (by first | decide | omega) (by first | decide | omega) (fun c19 => ?_) (fun c19 => ?_)
            · skip
              refine r_ex hX hP 2 (pc' := 33) (st' := [(2, this), (2, this)]) (lo' := [(0, (2, this)), (1, (0, event)), (2, (0, account)), (3, (0, choice))]) rfl ?_
              refine r_getKR hX hP rfl fl_X11_37_128 hS (x := evp1) evp1e ?_
              refine r_ex hX hP 1 (pc' := 37) (st' := [(0, event), (2, evp1), (2, this)]) (lo' := [(0, (2, this)), (1, (0, event)), (2, (0, account)), (3, (0, choice))]) rfl ?_
              have ci20 : CI E S (hw [(128, 0)] G G15) := (ci_hw ci rfl)
              refine r_callV gd hX hP rfl cv_X11_196_156 evp1s (d' := 2) (mc' := 0) (ms' := 0) (as' := [(0, event)]) (st := [(2, this)]) (by first | decide | omega) (by first | decide | omega) (by first | decide | omega) rfl rfl (Nat.le_of_ble_eq_true rfl) (c_get_Lev E S (hw [(128, 0)] G G15) evp1 event evp1s sip2 sip2e (by first | decide | omega) (by first | decide | omega) (by first | decide | omega) ci20) ?_
              rintro _ _ _ ⟨rfl, rfl, z21, rfl, z21s⟩
              refine r_cast hX hP rfl (tbg sg4 200 rfl rfl) ck_137_X2 z21s ?_
              refine r_ex hX hP 1 (pc' := 44) (st' := [(2, this), (2, z21), (2, this)]) (lo' := [(0, (2, this)), (1, (0, event)), (2, (0, account)), (3, (0, choice))]) rfl ?_
              refine r_getR hX hP rfl fl_X11_16_128 hS (fun rf22 rf22e rf22s => ?_)
              refine r_getI hX hP rfl fl_X11_93_129 rf22s (fun af23 af23e af23a af23b => ?_)
              refine r_callU gd hX hP rfl cu_X11_264_137 z21s (d' := 0) (mc' := 0) (ms' := 0) (as' := [(0, af23)]) (st := [(2, this)]) (by first | decide | omega) (by first | decide | omega) (by first | decide | omega) rfl rfl (Nat.le_of_ble_eq_true rfl) (c_counts_Evt E S (hw [(128, 0)] G G15) z21 af23 z21s (by first | decide | omega) (by first | decide | omega)) ?_
              rintro _ _ _ ⟨rfl, rfl, z24, rfl, z24a, z24b⟩
              refine r_if_eq hX hP rfl (tgt := 60) rfl (by first | decide | omega) (by first | decide | omega) (fun c25 => ?_) (fun c25 => ?_)
              · skip
                refine r_ex hX hP 1 (pc' := 62) (st' := [(0, 7), (2, this)]) (lo' := [(0, (2, this)), (1, (0, event)), (2, (0, account)), (3, (0, choice))]) rfl ?_
                refine r_callV gd hX hP rfl cv_X11_90_128 hS (d' := 0) (mc' := 0) (ms' := 0) (as' := [(0, 7)]) (st := []) (by first | decide | omega) (by first | decide | omega) (by first | decide | omega) rfl rfl (Nat.le_of_ble_eq_true rfl) (c_X11_refused E S (hw [(128, 0)] G G15) this 7 hS (by first | decide | omega) (by first | decide | omega)) ?_
                rintro _ _ _ ⟨rfl, ⟨G26, rfl⟩, z27, rfl, (⟨rfl, f28⟩ | ⟨rfl, f29⟩)⟩
                · skip
                  refine r_if_eq hX hP rfl (tgt := 70) rfl (by first | decide | omega) (by first | decide | omega) (fun c30 => ?_) (fun c30 => ?_)
                  · skip
                    exfalso; omega
                  · skip
                    refine r_ex hX hP 1 (pc' := 69) (st' := [(0, (-1))]) (lo' := [(0, (2, this)), (1, (0, event)), (2, (0, account)), (3, (0, choice))]) rfl ?_
                    exact r_retI hX hP rfl rfl (by first | decide | omega) (by first | decide | omega) ⟨rfl, ⟨_, (hw_sub (hw_sub (hw_refl _ _) rfl) rfl).symm⟩, (-1), rfl, (by first | decide | omega)⟩
                · skip
                  exfalso; omega
              · skip
                refine r_ex hX hP 2 (pc' := 62) (st' := [(0, 0), (2, this)]) (lo' := [(0, (2, this)), (1, (0, event)), (2, (0, account)), (3, (0, choice))]) rfl ?_
                refine r_callV gd hX hP rfl cv_X11_90_128 hS (d' := 0) (mc' := 0) (ms' := 0) (as' := [(0, 0)]) (st := []) (by first | decide | omega) (by first | decide | omega) (by first | decide | omega) rfl rfl (Nat.le_of_ble_eq_true rfl) (c_X11_refused E S (hw [(128, 0)] G G15) this 0 hS (by first | decide | omega) (by first | decide | omega)) ?_
                rintro _ _ _ ⟨rfl, ⟨G31, rfl⟩, z32, rfl, (⟨rfl, f33⟩ | ⟨rfl, f34⟩)⟩
                · skip
                  exfalso; omega
                · skip
                  refine r_if_eq hX hP rfl (tgt := 70) rfl (by first | decide | omega) (by first | decide | omega) (fun c35 => ?_) (fun c35 => ?_)
                  · skip
                    refine r_ex hX hP 1 (pc' := 71) (st' := [(2, this)]) (lo' := [(0, (2, this)), (1, (0, event)), (2, (0, account)), (3, (0, choice))]) rfl ?_
                    refine r_getKR hX hP rfl fl_X11_16_128 hS (x := rf22) rf22e ?_
                    refine r_ex hX hP 1 (pc' := 75) (st' := [(2, this), (2, rf22)]) (lo' := [(0, (2, this)), (1, (0, event)), (2, (0, account)), (3, (0, choice))]) rfl ?_
                    refine r_getKR hX hP rfl fl_X11_37_128 hS (x := evp1) evp1e ?_
                    refine r_ex hX hP 1 (pc' := 79) (st' := [(0, event), (2, evp1), (2, rf22)]) (lo' := [(0, (2, this)), (1, (0, event)), (2, (0, account)), (3, (0, choice))]) rfl ?_
                    have ci36 : CI E S (hw [(128, 0)] (hw [(128, 0)] G G15) G31) := (ci_hw ci20 rfl)
                    refine r_callV gd hX hP rfl cv_X11_196_156 evp1s (d' := 2) (mc' := 0) (ms' := 0) (as' := [(0, event)]) (st := [(2, rf22)]) (by first | decide | omega) (by first | decide | omega) (by first | decide | omega) rfl rfl (Nat.le_of_ble_eq_true rfl) (c_get_Lev E S (hw [(128, 0)] (hw [(128, 0)] G G15) G31) evp1 event evp1s sip2 sip2e (by first | decide | omega) (by first | decide | omega) (by first | decide | omega) ci36) ?_
                    rintro _ _ _ ⟨rfl, rfl, z37, rfl, z37s⟩
                    refine r_cast hX hP rfl (tbg sg4 200 rfl rfl) ck_137_X2 z37s ?_
                    refine r_getI hX hP rfl fl_X11_181_137 z37s (fun rf38 rf38e rf38a rf38b => ?_)
                    refine r_callV gd hX hP rfl cv_X11_233_129 rf22s (d' := 6) (mc' := 0) (ms' := 0) (as' := [(0, rf38)]) (st := []) (by first | decide | omega) (by first | decide | omega) (by first | decide | omega) rfl rfl (Nat.le_of_ble_eq_true rfl) (c_X8_to E S (hw [(128, 0)] (hw [(128, 0)] G G15) G31) rf22 rf38 rf22s (by first | decide | omega) (by first | decide | omega) ci36) ?_
                    rintro _ _ _ ⟨rfl, ⟨G39, rfl⟩, rfl, -⟩
                    refine r_ex hX hP 2 (pc' := 93) (st' := [(2, this), (2, this)]) (lo' := [(0, (2, this)), (1, (0, event)), (2, (0, account)), (3, (0, choice))]) rfl ?_
                    refine r_getKR hX hP rfl fl_X11_16_128 hS (x := rf22) rf22e ?_
                    refine r_getI hX hP rfl fl_X11_235_129 rf22s (fun of40 of40e of40a of40b => ?_)
                    refine r_if_eq hX hP rfl (tgt := 107) rfl (by first | decide | omega) (by first | decide | omega) (fun c41 => ?_) (fun c41 => ?_)
                    · skip
                      refine r_ex hX hP 1 (pc' := 108) (st' := [(0, 0), (2, this)]) (lo' := [(0, (2, this)), (1, (0, event)), (2, (0, account)), (3, (0, choice))]) rfl ?_
                      refine r_callV gd hX hP rfl cv_X11_90_128 hS (d' := 0) (mc' := 0) (ms' := 0) (as' := [(0, 0)]) (st := []) (by first | decide | omega) (by first | decide | omega) (by first | decide | omega) rfl rfl (Nat.le_of_ble_eq_true rfl) (c_X11_refused E S (hw [(93, -1), (95, -1), (96, -1), (97, -1), (115, -1), (116, -1), (118, -1), (119, -1), (125, -1), (126, -1), (127, -1), (129, 1), (129, 2), (129, 15), (129, 16)] (hw [(128, 0)] (hw [(128, 0)] G G15) G31) G39) this 0 hS (by first | decide | omega) (by first | decide | omega)) ?_
                      rintro _ _ _ ⟨rfl, ⟨G42, rfl⟩, z43, rfl, (⟨rfl, f44⟩ | ⟨rfl, f45⟩)⟩
                      · skip
                        exfalso; omega
                      · skip
                        refine r_if_eq hX hP rfl (tgt := 116) rfl (by first | decide | omega) (by first | decide | omega) (fun c46 => ?_) (fun c46 => ?_)
                        · skip
                          refine r_ex hX hP 1 (pc' := 117) (st' := [(2, this)]) (lo' := [(0, (2, this)), (1, (0, event)), (2, (0, account)), (3, (0, choice))]) rfl ?_
                          refine r_getKR hX hP rfl fl_X11_16_128 hS (x := rf22) rf22e ?_
                          refine r_getR hX hP rfl fl_X11_271_129 rf22s (fun kf47 kf47e kf47s => ?_)
                          refine r_ex hX hP 1 (pc' := 124) (st' := [(0, event), (2, kf47)]) (lo' := [(0, (2, this)), (1, (0, event)), (2, (0, account)), (3, (0, choice))]) rfl ?_
                          refine r_aald hX hP rfl al_117 rfl kf47s (by first | decide | omega) (by first | decide | omega) (fun r48 r48e r48s => ?_)
                          refine r_ex hX hP 5 (pc' := 131) (st' := [(0, ((choice * 20) + account)), (2, r48)]) (lo' := [(0, (2, this)), (1, (0, event)), (2, (0, account)), (3, (0, choice))]) rfl ?_
                          refine r_lald hX hP rfl al_116 r48s (by first | decide | omega) (by first | decide | omega) (fun x49 x49e x49a x49b => ?_)
                          refine r_ex hX hP 1 (pc' := 133) (st' := [(0, x49)]) (lo' := [(0, (2, this)), (1, (0, event)), (2, (0, account)), (3, (0, choice))]) rfl ?_
                          refine r_hvI hX (fun w50 w50a w50b w50e => ?_)
                          exact r_retI hX hP rfl rfl (by first | decide | omega) (by first | decide | omega) ⟨rfl, ⟨_, (hw_sub (hw_sub (hw_sub (hw_sub (hw_refl _ _) rfl) rfl) rfl) rfl).symm⟩, w50, rfl, (by first | decide | omega)⟩
                        · skip
                          exfalso; omega
                    · skip
                      refine r_ex hX hP 2 (pc' := 108) (st' := [(0, 8), (2, this)]) (lo' := [(0, (2, this)), (1, (0, event)), (2, (0, account)), (3, (0, choice))]) rfl ?_
                      refine r_callV gd hX hP rfl cv_X11_90_128 hS (d' := 0) (mc' := 0) (ms' := 0) (as' := [(0, 8)]) (st := []) (by first | decide | omega) (by first | decide | omega) (by first | decide | omega) rfl rfl (Nat.le_of_ble_eq_true rfl) (c_X11_refused E S (hw [(93, -1), (95, -1), (96, -1), (97, -1), (115, -1), (116, -1), (118, -1), (119, -1), (125, -1), (126, -1), (127, -1), (129, 1), (129, 2), (129, 15), (129, 16)] (hw [(128, 0)] (hw [(128, 0)] G G15) G31) G39) this 8 hS (by first | decide | omega) (by first | decide | omega)) ?_
                      rintro _ _ _ ⟨rfl, ⟨G51, rfl⟩, z52, rfl, (⟨rfl, f53⟩ | ⟨rfl, f54⟩)⟩
                      · skip
                        refine r_if_eq hX hP rfl (tgt := 116) rfl (by first | decide | omega) (by first | decide | omega) (fun c55 => ?_) (fun c55 => ?_)
                        · skip
                          exfalso; omega
                        · skip
                          refine r_ex hX hP 1 (pc' := 115) (st' := [(0, (-1))]) (lo' := [(0, (2, this)), (1, (0, event)), (2, (0, account)), (3, (0, choice))]) rfl ?_
                          exact r_retI hX hP rfl rfl (by first | decide | omega) (by first | decide | omega) ⟨rfl, ⟨_, (hw_sub (hw_sub (hw_sub (hw_sub (hw_refl _ _) rfl) rfl) rfl) rfl).symm⟩, (-1), rfl, (by first | decide | omega)⟩
                      · skip
                        exfalso; omega
                  · skip
                    exfalso; omega
            · skip
              exfalso; omega
      · skip
        refine r_if_eq hX hP rfl (tgt := 22) rfl (by first | decide | omega) (by first | decide | omega) (fun c56 => ?_) (fun c56 => ?_)
        · skip
          refine r_ex hX hP 1 (pc' := 23) (st' := [(0, 1), (2, this)]) (lo' := [(0, (2, this)), (1, (0, event)), (2, (0, account)), (3, (0, choice))]) rfl ?_
          refine r_callV gd hX hP rfl cv_X11_90_128 hS (d' := 0) (mc' := 0) (ms' := 0) (as' := [(0, 1)]) (st := []) (by first | decide | omega) (by first | decide | omega) (by first | decide | omega) rfl rfl (Nat.le_of_ble_eq_true rfl) (c_X11_refused E S G this 1 hS (by first | decide | omega) (by first | decide | omega)) ?_
          rintro _ _ _ ⟨rfl, ⟨G57, rfl⟩, z58, rfl, (⟨rfl, f59⟩ | ⟨rfl, f60⟩)⟩
          · skip
            refine r_if_eq hX hP rfl (tgt := 31) rfl (by first | decide | omega) (by first | decide | omega) (fun c61 => ?_) (fun c61 => ?_)
            · skip
              exfalso; omega
            · skip
              refine r_ex hX hP 1 (pc' := 30) (st' := [(0, (-1))]) (lo' := [(0, (2, this)), (1, (0, event)), (2, (0, account)), (3, (0, choice))]) rfl ?_
              exact r_retI hX hP rfl rfl (by first | decide | omega) (by first | decide | omega) ⟨rfl, ⟨_, (hw_sub (hw_refl _ _) rfl).symm⟩, (-1), rfl, (by first | decide | omega)⟩
          · skip
            exfalso; omega
        · skip
          exfalso; omega
  · skip
    refine r_if_eq hX hP rfl (tgt := 22) rfl (by first | decide | omega) (by first | decide | omega) (fun c62 => ?_) (fun c62 => ?_)
    · skip
      refine r_ex hX hP 1 (pc' := 23) (st' := [(0, 1), (2, this)]) (lo' := [(0, (2, this)), (1, (0, event)), (2, (0, account)), (3, (0, choice))]) rfl ?_
      refine r_callV gd hX hP rfl cv_X11_90_128 hS (d' := 0) (mc' := 0) (ms' := 0) (as' := [(0, 1)]) (st := []) (by first | decide | omega) (by first | decide | omega) (by first | decide | omega) rfl rfl (Nat.le_of_ble_eq_true rfl) (c_X11_refused E S G this 1 hS (by first | decide | omega) (by first | decide | omega)) ?_
      rintro _ _ _ ⟨rfl, ⟨G63, rfl⟩, z64, rfl, (⟨rfl, f65⟩ | ⟨rfl, f66⟩)⟩
      · skip
        refine r_if_eq hX hP rfl (tgt := 31) rfl (by first | decide | omega) (by first | decide | omega) (fun c67 => ?_) (fun c67 => ?_)
        · skip
          exfalso; omega
        · skip
          refine r_ex hX hP 1 (pc' := 30) (st' := [(0, (-1))]) (lo' := [(0, (2, this)), (1, (0, event)), (2, (0, account)), (3, (0, choice))]) rfl ?_
          exact r_retI hX hP rfl rfl (by first | decide | omega) (by first | decide | omega) ⟨rfl, ⟨_, (hw_sub (hw_refl _ _) rfl).symm⟩, (-1), rfl, (by first | decide | omega)⟩
      · skip
        exfalso; omega
    · skip
      exfalso; omega
set_option maxRecDepth 100000 in
set_option maxHeartbeats 4000000 in
theorem c_X11_bears (E : En) (S : Sg) (G : Gh) (this : Int) (choice : Int) (hS : S this = 128) (choice_a : (-2147483648) ≤ choice) (choice_b : choice ≤ 2147483647) (ci : CI E S G) : Calls E mX11_bears [(2, this), (0, choice)] S G 4 0 0 (fun r S' G' => S = S' ∧ (∃ G1, hw [(128, 0)] G G1 = G') ∧ ∃ z : Int, r = some (0, z) ∧ (-2147483648) ≤ z ∧ z ≤ 2147483647) := by
  refine calls_by [(0, (2, this)), (1, (0, choice))] rfl rfl (Nat.le_of_ble_eq_true rfl) (fun X hX => ?_)
  have hP := hPX11_bears
  refine r_ex hX hP 3 (pc' := 3) (st' := [(0, choice), (2, this), (2, this)]) (lo' := [(0, (2, this)), (1, (0, choice))]) rfl ?_
  refine r_peekR hX (tl_128 9 rfl (by decide)) hS (fun pip1 pip1e pip1s => ?_)
  refine r_peekI hX (tl_157 2 rfl (by decide)) pip1s (fun sip2 sip2e sip2a sip2b => ?_)
  refine r_callV gd hX hP rfl cv_X11_230_128 hS (d' := 1) (mc' := 0) (ms' := 0) (as' := [(0, choice)]) (st := [(2, this)]) (by first | decide | omega) (by first | decide | omega) (by first | decide | omega) rfl rfl (Nat.le_of_ble_eq_true rfl) (c_X11_hasPick E S G this choice hS pip1 pip1e pip1s sip2 sip2e (by first | decide | omega) (by first | decide | omega)) ?_
  rintro _ _ _ ⟨rfl, rfl, z3, rfl, (⟨rfl, f4, f5⟩ | rfl)⟩
  · skip
    refine r_if_eq hX hP rfl (tgt := 13) rfl (by first | decide | omega) (by first | decide | omega) (fun c6 => ?_) (fun c6 => ?_)
    · skip
      exfalso; omega
    · skip
      refine r_ex hX hP 2 (pc' := 14) (st' := [(0, 0), (2, this)]) (lo' := [(0, (2, this)), (1, (0, choice))]) rfl ?_
      refine r_callV gd hX hP rfl cv_X11_90_128 hS (d' := 0) (mc' := 0) (ms' := 0) (as' := [(0, 0)]) (st := []) (by first | decide | omega) (by first | decide | omega) (by first | decide | omega) rfl rfl (Nat.le_of_ble_eq_true rfl) (c_X11_refused E S G this 0 hS (by first | decide | omega) (by first | decide | omega)) ?_
      rintro _ _ _ ⟨rfl, ⟨G7, rfl⟩, z8, rfl, (⟨rfl, f9⟩ | ⟨rfl, f10⟩)⟩
      · skip
        exfalso; omega
      · skip
        refine r_if_eq hX hP rfl (tgt := 22) rfl (by first | decide | omega) (by first | decide | omega) (fun c11 => ?_) (fun c11 => ?_)
        · skip
          refine r_ex hX hP 1 (pc' := 23) (st' := [(2, this)]) (lo' := [(0, (2, this)), (1, (0, choice))]) rfl ?_
          refine r_getKR hX hP rfl fl_X11_41_128 hS (x := pip1) pip1e ?_
          refine r_ex hX hP 1 (pc' := 27) (st' := [(0, choice), (2, pip1)]) (lo' := [(0, (2, this)), (1, (0, choice))]) rfl ?_
          have ci12 : CI E S (hw [(128, 0)] G G7) := (ci_hw ci rfl)
          refine r_callV gd hX hP rfl cv_X11_196_157 pip1s (d' := 2) (mc' := 0) (ms' := 0) (as' := [(0, choice)]) (st := []) (by first | decide | omega) (by first | decide | omega) (by first | decide | omega) rfl rfl (Nat.le_of_ble_eq_true rfl) (c_get_Lpi E S (hw [(128, 0)] G G7) pip1 choice pip1s sip2 sip2e (by first | decide | omega) (by first | decide | omega) (by first | decide | omega) ci12) ?_
          rintro _ _ _ ⟨rfl, rfl, z13, rfl, z13s⟩
          refine r_cast hX hP rfl (tbg sg5 25 rfl rfl) ck_138_X5 z13s ?_
          refine r_ex hX hP 3 (pc' := 36) (st' := [(2, this), (2, z13)]) (lo' := [(0, (2, this)), (1, (0, choice)), (2, (2, z13))]) rfl ?_
          refine r_getR hX hP rfl fl_X11_16_128 hS (fun rf14 rf14e rf14s => ?_)
          refine r_getI hX hP rfl fl_X11_93_129 rf14s (fun af15 af15e af15a af15b => ?_)
          refine r_callU gd hX hP rfl cu_X11_274_138 z13s (d' := 0) (mc' := 0) (ms' := 0) (as' := [(0, af15)]) (st := []) (by first | decide | omega) (by first | decide | omega) (by first | decide | omega) rfl rfl (Nat.le_of_ble_eq_true rfl) (c_counts_Pck E S (hw [(128, 0)] G G7) z13 af15 z13s (by first | decide | omega) (by first | decide | omega)) ?_
          rintro _ _ _ ⟨rfl, rfl, z16, rfl, z16a, z16b⟩
          refine r_if_eq hX hP rfl (tgt := 90) rfl (by first | decide | omega) (by first | decide | omega) (fun c17 => ?_) (fun c17 => ?_)
          · skip
            refine r_ex hX hP 3 (pc' := 93) (st' := [(2, this)]) (lo' := [(0, (2, this)), (1, (0, choice)), (2, (2, z13)), (3, (0, 0))]) rfl ?_
            refine r_getKR hX hP rfl fl_X11_16_128 hS (x := rf14) rf14e ?_
            refine r_ex hX hP 1 (pc' := 97) (st' := [(2, z13), (2, rf14)]) (lo' := [(0, (2, this)), (1, (0, choice)), (2, (2, z13)), (3, (0, 0))]) rfl ?_
            refine r_callV gd hX hP rfl cv_X11_278_129 rf14s (d' := 3) (mc' := 0) (ms' := 0) (as' := [(2, z13)]) (st := []) (by first | decide | omega) (by first | decide | omega) (by first | decide | omega) rfl rfl (Nat.le_of_ble_eq_true rfl) (c_X8_bearerOf E S (hw [(128, 0)] G G7) rf14 z13 rf14s z13s ci12) ?_
            rintro _ _ _ ⟨rfl, rfl, z18, rfl, z18a, z18b⟩
            refine r_ex hX hP 4 (pc' := 106) (st' := [(0, 0), (0, z18), (2, this)]) (lo' := [(0, (2, this)), (1, (0, choice)), (2, (2, z13)), (3, (0, 0)), (4, (0, z18))]) rfl ?_
            refine r_callS gd hX hP rfl cs_X11_267 (d' := 0) (mc' := 0) (ms' := 0) (as' := [(0, z18), (0, 0)]) (st := [(2, this)]) (by first | decide | omega) (by first | decide | omega) (by first | decide | omega) rfl rfl (Nat.le_of_ble_eq_true rfl) (c_X11_noneOrUntold E S (hw [(128, 0)] G G7) z18 0 (by first | decide | omega) (by first | decide | omega) (by first | decide | omega) (by first | decide | omega)) ?_
            rintro _ _ _ ⟨rfl, rfl, z19, rfl, z19a, z19b⟩
            refine r_callV gd hX hP rfl cv_X11_90_128 hS (d' := 0) (mc' := 0) (ms' := 0) (as' := [(0, z19)]) (st := []) (by first | decide | omega) (by first | decide | omega) (by first | decide | omega) rfl rfl (Nat.le_of_ble_eq_true rfl) (c_X11_refused E S (hw [(128, 0)] G G7) this z19 hS (by first | decide | omega) (by first | decide | omega)) ?_
            rintro _ _ _ ⟨rfl, ⟨G20, rfl⟩, z21, rfl, (⟨rfl, f22⟩ | ⟨rfl, f23⟩)⟩
            · skip
              refine r_if_eq hX hP rfl (tgt := 119) rfl (by first | decide | omega) (by first | decide | omega) (fun c24 => ?_) (fun c24 => ?_)
              · skip
                exfalso; omega
              · skip
                refine r_ex hX hP 2 (pc' := 121) (st' := [(0, (-1))]) (lo' := [(0, (2, this)), (1, (0, choice)), (2, (2, z13)), (3, (0, 0)), (4, (0, z18))]) rfl ?_
                exact r_retI hX hP rfl rfl (by first | decide | omega) (by first | decide | omega) ⟨rfl, ⟨_, (hw_sub (hw_sub (hw_refl _ _) rfl) rfl).symm⟩, (-1), rfl, (by first | decide | omega)⟩
            · skip
              refine r_if_eq hX hP rfl (tgt := 119) rfl (by first | decide | omega) (by first | decide | omega) (fun c25 => ?_) (fun c25 => ?_)
              · skip
                refine r_ex hX hP 1 (pc' := 121) (st' := [(0, z18)]) (lo' := [(0, (2, this)), (1, (0, choice)), (2, (2, z13)), (3, (0, 0)), (4, (0, z18))]) rfl ?_
                exact r_retI hX hP rfl rfl (by first | decide | omega) (by first | decide | omega) ⟨rfl, ⟨_, (hw_sub (hw_sub (hw_refl _ _) rfl) rfl).symm⟩, z18, rfl, (by first | decide | omega)⟩
              · skip
                exfalso; omega
          · skip
            refine r_ex hX hP 2 (pc' := 50) (st' := [(2, z13), (2, this)]) (lo' := [(0, (2, this)), (1, (0, choice)), (2, (2, z13))]) rfl ?_
            refine r_getI hX hP rfl fl_X11_275_138 z13s (fun ef26 ef26e ef26a ef26b => ?_)
            refine r_peekR hX (tl_128 8 rfl (by decide)) hS (fun evp27 evp27e evp27s => ?_)
            refine r_peekI hX (tl_156 2 rfl (by decide)) evp27s (fun sip28 sip28e sip28a sip28b => ?_)
            refine r_callV gd hX hP rfl cv_X11_193_128 hS (d' := 1) (mc' := 0) (ms' := 0) (as' := [(0, ef26)]) (st := []) (by first | decide | omega) (by first | decide | omega) (by first | decide | omega) rfl rfl (Nat.le_of_ble_eq_true rfl) (c_X11_hasEvent E S (hw [(128, 0)] G G7) this ef26 hS evp27 evp27e evp27s sip28 sip28e (by first | decide | omega) (by first | decide | omega)) ?_
            rintro _ _ _ ⟨rfl, rfl, z29, rfl, (⟨rfl, f30, f31⟩ | rfl)⟩
            · skip
              refine r_if_eq hX hP rfl (tgt := 90) rfl (by first | decide | omega) (by first | decide | omega) (fun c32 => ?_) (fun c32 => ?_)
              · skip
                exfalso; omega
              · skip
                refine r_ex hX hP 1 (pc' := 60) (st' := [(2, this)]) (lo' := [(0, (2, this)), (1, (0, choice)), (2, (2, z13))]) rfl ?_
                refine r_getKR hX hP rfl fl_X11_37_128 hS (x := evp27) evp27e ?_
                refine r_ex hX hP 1 (pc' := 64) (st' := [(2, z13), (2, evp27)]) (lo' := [(0, (2, this)), (1, (0, choice)), (2, (2, z13))]) rfl ?_
                refine r_getKI hX hP rfl fl_X11_275_138 z13s (x := ef26) ef26e ?_
                have pk33 := ci_pk ci12 z13s evp27s ef26e sip28e
                refine r_callV gd hX hP rfl cv_X11_196_156 evp27s (d' := 2) (mc' := 0) (ms' := 0) (as' := [(0, ef26)]) (st := []) (by first | decide | omega) (by first | decide | omega) (by first | decide | omega) rfl rfl (Nat.le_of_ble_eq_true rfl) (c_get_Lev E S (hw [(128, 0)] G G7) evp27 ef26 evp27s sip28 sip28e (by first | decide | omega) (by first | decide | omega) (by first | decide | omega) ci12) ?_
                rintro _ _ _ ⟨rfl, rfl, z34, rfl, z34s⟩
                refine r_cast hX hP rfl (tbg sg4 200 rfl rfl) ck_137_X2 z34s ?_
                refine r_ex hX hP 1 (pc' := 74) (st' := [(2, this), (2, z34)]) (lo' := [(0, (2, this)), (1, (0, choice)), (2, (2, z13))]) rfl ?_
                refine r_getKR hX hP rfl fl_X11_16_128 hS (x := rf14) rf14e ?_
                refine r_getKI hX hP rfl fl_X11_93_129 rf14s (x := af15) af15e ?_
                refine r_callU gd hX hP rfl cu_X11_264_137 z34s (d' := 0) (mc' := 0) (ms' := 0) (as' := [(0, af15)]) (st := []) (by first | decide | omega) (by first | decide | omega) (by first | decide | omega) rfl rfl (Nat.le_of_ble_eq_true rfl) (c_counts_Evt E S (hw [(128, 0)] G G7) z34 af15 z34s (by first | decide | omega) (by first | decide | omega)) ?_
                rintro _ _ _ ⟨rfl, rfl, z35, rfl, z35a, z35b⟩
                refine r_if_eq hX hP rfl (tgt := 90) rfl (by first | decide | omega) (by first | decide | omega) (fun c36 => ?_) (fun c36 => ?_)
                · skip
                  refine r_ex hX hP 3 (pc' := 93) (st' := [(2, this)]) (lo' := [(0, (2, this)), (1, (0, choice)), (2, (2, z13)), (3, (0, 0))]) rfl ?_
                  refine r_getKR hX hP rfl fl_X11_16_128 hS (x := rf14) rf14e ?_
                  refine r_ex hX hP 1 (pc' := 97) (st' := [(2, z13), (2, rf14)]) (lo' := [(0, (2, this)), (1, (0, choice)), (2, (2, z13)), (3, (0, 0))]) rfl ?_
                  refine r_callV gd hX hP rfl cv_X11_278_129 rf14s (d' := 3) (mc' := 0) (ms' := 0) (as' := [(2, z13)]) (st := []) (by first | decide | omega) (by first | decide | omega) (by first | decide | omega) rfl rfl (Nat.le_of_ble_eq_true rfl) (c_X8_bearerOf E S (hw [(128, 0)] G G7) rf14 z13 rf14s z13s ci12) ?_
                  rintro _ _ _ ⟨rfl, rfl, z37, rfl, z37a, z37b⟩
                  refine r_ex hX hP 4 (pc' := 106) (st' := [(0, 0), (0, z37), (2, this)]) (lo' := [(0, (2, this)), (1, (0, choice)), (2, (2, z13)), (3, (0, 0)), (4, (0, z37))]) rfl ?_
                  refine r_callS gd hX hP rfl cs_X11_267 (d' := 0) (mc' := 0) (ms' := 0) (as' := [(0, z37), (0, 0)]) (st := [(2, this)]) (by first | decide | omega) (by first | decide | omega) (by first | decide | omega) rfl rfl (Nat.le_of_ble_eq_true rfl) (c_X11_noneOrUntold E S (hw [(128, 0)] G G7) z37 0 (by first | decide | omega) (by first | decide | omega) (by first | decide | omega) (by first | decide | omega)) ?_
                  rintro _ _ _ ⟨rfl, rfl, z38, rfl, z38a, z38b⟩
                  refine r_callV gd hX hP rfl cv_X11_90_128 hS (d' := 0) (mc' := 0) (ms' := 0) (as' := [(0, z38)]) (st := []) (by first | decide | omega) (by first | decide | omega) (by first | decide | omega) rfl rfl (Nat.le_of_ble_eq_true rfl) (c_X11_refused E S (hw [(128, 0)] G G7) this z38 hS (by first | decide | omega) (by first | decide | omega)) ?_
                  rintro _ _ _ ⟨rfl, ⟨G39, rfl⟩, z40, rfl, (⟨rfl, f41⟩ | ⟨rfl, f42⟩)⟩
                  · skip
                    refine r_if_eq hX hP rfl (tgt := 119) rfl (by first | decide | omega) (by first | decide | omega) (fun c43 => ?_) (fun c43 => ?_)
                    · skip
                      exfalso; omega
                    · skip
                      refine r_ex hX hP 2 (pc' := 121) (st' := [(0, (-1))]) (lo' := [(0, (2, this)), (1, (0, choice)), (2, (2, z13)), (3, (0, 0)), (4, (0, z37))]) rfl ?_
                      exact r_retI hX hP rfl rfl (by first | decide | omega) (by first | decide | omega) ⟨rfl, ⟨_, (hw_sub (hw_sub (hw_refl _ _) rfl) rfl).symm⟩, (-1), rfl, (by first | decide | omega)⟩
                  · skip
                    refine r_if_eq hX hP rfl (tgt := 119) rfl (by first | decide | omega) (by first | decide | omega) (fun c44 => ?_) (fun c44 => ?_)
                    · skip
                      refine r_ex hX hP 1 (pc' := 121) (st' := [(0, z37)]) (lo' := [(0, (2, this)), (1, (0, choice)), (2, (2, z13)), (3, (0, 0)), (4, (0, z37))]) rfl ?_
                      exact r_retI hX hP rfl rfl (by first | decide | omega) (by first | decide | omega) ⟨rfl, ⟨_, (hw_sub (hw_sub (hw_refl _ _) rfl) rfl).symm⟩, z37, rfl, (by first | decide | omega)⟩
                    · skip
                      exfalso; omega
                · skip
                  refine r_ex hX hP 4 (pc' := 93) (st' := [(2, this)]) (lo' := [(0, (2, this)), (1, (0, choice)), (2, (2, z13)), (3, (0, 1))]) rfl ?_
                  refine r_getKR hX hP rfl fl_X11_16_128 hS (x := rf14) rf14e ?_
                  refine r_ex hX hP 1 (pc' := 97) (st' := [(2, z13), (2, rf14)]) (lo' := [(0, (2, this)), (1, (0, choice)), (2, (2, z13)), (3, (0, 1))]) rfl ?_
                  refine r_callV gd hX hP rfl cv_X11_278_129 rf14s (d' := 3) (mc' := 0) (ms' := 0) (as' := [(2, z13)]) (st := []) (by first | decide | omega) (by first | decide | omega) (by first | decide | omega) rfl rfl (Nat.le_of_ble_eq_true rfl) (c_X8_bearerOf E S (hw [(128, 0)] G G7) rf14 z13 rf14s z13s ci12) ?_
                  rintro _ _ _ ⟨rfl, rfl, z45, rfl, z45a, z45b⟩
                  refine r_ex hX hP 4 (pc' := 106) (st' := [(0, 1), (0, z45), (2, this)]) (lo' := [(0, (2, this)), (1, (0, choice)), (2, (2, z13)), (3, (0, 1)), (4, (0, z45))]) rfl ?_
                  refine r_callS gd hX hP rfl cs_X11_267 (d' := 0) (mc' := 0) (ms' := 0) (as' := [(0, z45), (0, 1)]) (st := [(2, this)]) (by first | decide | omega) (by first | decide | omega) (by first | decide | omega) rfl rfl (Nat.le_of_ble_eq_true rfl) (c_X11_noneOrUntold E S (hw [(128, 0)] G G7) z45 1 (by first | decide | omega) (by first | decide | omega) (by first | decide | omega) (by first | decide | omega)) ?_
                  rintro _ _ _ ⟨rfl, rfl, z46, rfl, z46a, z46b⟩
                  refine r_callV gd hX hP rfl cv_X11_90_128 hS (d' := 0) (mc' := 0) (ms' := 0) (as' := [(0, z46)]) (st := []) (by first | decide | omega) (by first | decide | omega) (by first | decide | omega) rfl rfl (Nat.le_of_ble_eq_true rfl) (c_X11_refused E S (hw [(128, 0)] G G7) this z46 hS (by first | decide | omega) (by first | decide | omega)) ?_
                  rintro _ _ _ ⟨rfl, ⟨G47, rfl⟩, z48, rfl, (⟨rfl, f49⟩ | ⟨rfl, f50⟩)⟩
                  · skip
                    refine r_if_eq hX hP rfl (tgt := 119) rfl (by first | decide | omega) (by first | decide | omega) (fun c51 => ?_) (fun c51 => ?_)
                    · skip
                      exfalso; omega
                    · skip
                      refine r_ex hX hP 2 (pc' := 121) (st' := [(0, (-1))]) (lo' := [(0, (2, this)), (1, (0, choice)), (2, (2, z13)), (3, (0, 1)), (4, (0, z45))]) rfl ?_
                      exact r_retI hX hP rfl rfl (by first | decide | omega) (by first | decide | omega) ⟨rfl, ⟨_, (hw_sub (hw_sub (hw_refl _ _) rfl) rfl).symm⟩, (-1), rfl, (by first | decide | omega)⟩
                  · skip
                    refine r_if_eq hX hP rfl (tgt := 119) rfl (by first | decide | omega) (by first | decide | omega) (fun c52 => ?_) (fun c52 => ?_)
                    · skip
                      refine r_ex hX hP 1 (pc' := 121) (st' := [(0, z45)]) (lo' := [(0, (2, this)), (1, (0, choice)), (2, (2, z13)), (3, (0, 1)), (4, (0, z45))]) rfl ?_
                      exact r_retI hX hP rfl rfl (by first | decide | omega) (by first | decide | omega) ⟨rfl, ⟨_, (hw_sub (hw_sub (hw_refl _ _) rfl) rfl).symm⟩, z45, rfl, (by first | decide | omega)⟩
                    · skip
                      exfalso; omega
            · skip
              refine r_if_eq hX hP rfl (tgt := 90) rfl (by first | decide | omega) (by first | decide | omega) (fun c53 => ?_) (fun c53 => ?_)
              · skip
                refine r_ex hX hP 3 (pc' := 93) (st' := [(2, this)]) (lo' := [(0, (2, this)), (1, (0, choice)), (2, (2, z13)), (3, (0, 0))]) rfl ?_
                refine r_getKR hX hP rfl fl_X11_16_128 hS (x := rf14) rf14e ?_
                refine r_ex hX hP 1 (pc' := 97) (st' := [(2, z13), (2, rf14)]) (lo' := [(0, (2, this)), (1, (0, choice)), (2, (2, z13)), (3, (0, 0))]) rfl ?_
                refine r_callV gd hX hP rfl cv_X11_278_129 rf14s (d' := 3) (mc' := 0) (ms' := 0) (as' := [(2, z13)]) (st := []) (by first | decide | omega) (by first | decide | omega) (by first | decide | omega) rfl rfl (Nat.le_of_ble_eq_true rfl) (c_X8_bearerOf E S (hw [(128, 0)] G G7) rf14 z13 rf14s z13s ci12) ?_
                rintro _ _ _ ⟨rfl, rfl, z54, rfl, z54a, z54b⟩
                refine r_ex hX hP 4 (pc' := 106) (st' := [(0, 0), (0, z54), (2, this)]) (lo' := [(0, (2, this)), (1, (0, choice)), (2, (2, z13)), (3, (0, 0)), (4, (0, z54))]) rfl ?_
                refine r_callS gd hX hP rfl cs_X11_267 (d' := 0) (mc' := 0) (ms' := 0) (as' := [(0, z54), (0, 0)]) (st := [(2, this)]) (by first | decide | omega) (by first | decide | omega) (by first | decide | omega) rfl rfl (Nat.le_of_ble_eq_true rfl) (c_X11_noneOrUntold E S (hw [(128, 0)] G G7) z54 0 (by first | decide | omega) (by first | decide | omega) (by first | decide | omega) (by first | decide | omega)) ?_
                rintro _ _ _ ⟨rfl, rfl, z55, rfl, z55a, z55b⟩
                refine r_callV gd hX hP rfl cv_X11_90_128 hS (d' := 0) (mc' := 0) (ms' := 0) (as' := [(0, z55)]) (st := []) (by first | decide | omega) (by first | decide | omega) (by first | decide | omega) rfl rfl (Nat.le_of_ble_eq_true rfl) (c_X11_refused E S (hw [(128, 0)] G G7) this z55 hS (by first | decide | omega) (by first | decide | omega)) ?_
                rintro _ _ _ ⟨rfl, ⟨G56, rfl⟩, z57, rfl, (⟨rfl, f58⟩ | ⟨rfl, f59⟩)⟩
                · skip
                  refine r_if_eq hX hP rfl (tgt := 119) rfl (by first | decide | omega) (by first | decide | omega) (fun c60 => ?_) (fun c60 => ?_)
                  · skip
                    exfalso; omega
                  · skip
                    refine r_ex hX hP 2 (pc' := 121) (st' := [(0, (-1))]) (lo' := [(0, (2, this)), (1, (0, choice)), (2, (2, z13)), (3, (0, 0)), (4, (0, z54))]) rfl ?_
                    exact r_retI hX hP rfl rfl (by first | decide | omega) (by first | decide | omega) ⟨rfl, ⟨_, (hw_sub (hw_sub (hw_refl _ _) rfl) rfl).symm⟩, (-1), rfl, (by first | decide | omega)⟩
                · skip
                  refine r_if_eq hX hP rfl (tgt := 119) rfl (by first | decide | omega) (by first | decide | omega) (fun c61 => ?_) (fun c61 => ?_)
                  · skip
                    refine r_ex hX hP 1 (pc' := 121) (st' := [(0, z54)]) (lo' := [(0, (2, this)), (1, (0, choice)), (2, (2, z13)), (3, (0, 0)), (4, (0, z54))]) rfl ?_
                    exact r_retI hX hP rfl rfl (by first | decide | omega) (by first | decide | omega) ⟨rfl, ⟨_, (hw_sub (hw_sub (hw_refl _ _) rfl) rfl).symm⟩, z54, rfl, (by first | decide | omega)⟩
                  · skip
                    exfalso; omega
              · skip
                exfalso; omega
        · skip
          exfalso; omega
  · skip
    refine r_if_eq hX hP rfl (tgt := 13) rfl (by first | decide | omega) (by first | decide | omega) (fun c62 => ?_) (fun c62 => ?_)
    · skip
      refine r_ex hX hP 1 (pc' := 14) (st' := [(0, 1), (2, this)]) (lo' := [(0, (2, this)), (1, (0, choice))]) rfl ?_
      refine r_callV gd hX hP rfl cv_X11_90_128 hS (d' := 0) (mc' := 0) (ms' := 0) (as' := [(0, 1)]) (st := []) (by first | decide | omega) (by first | decide | omega) (by first | decide | omega) rfl rfl (Nat.le_of_ble_eq_true rfl) (c_X11_refused E S G this 1 hS (by first | decide | omega) (by first | decide | omega)) ?_
      rintro _ _ _ ⟨rfl, ⟨G63, rfl⟩, z64, rfl, (⟨rfl, f65⟩ | ⟨rfl, f66⟩)⟩
      · skip
        refine r_if_eq hX hP rfl (tgt := 22) rfl (by first | decide | omega) (by first | decide | omega) (fun c67 => ?_) (fun c67 => ?_)
        · skip
          exfalso; omega
        · skip
          refine r_ex hX hP 1 (pc' := 21) (st' := [(0, (-1))]) (lo' := [(0, (2, this)), (1, (0, choice))]) rfl ?_
          exact r_retI hX hP rfl rfl (by first | decide | omega) (by first | decide | omega) ⟨rfl, ⟨_, (hw_sub (hw_refl _ _) rfl).symm⟩, (-1), rfl, (by first | decide | omega)⟩
      · skip
        exfalso; omega
    · skip
      exfalso; omega
set_option maxRecDepth 100000 in
set_option maxHeartbeats 4000000 in
theorem c_X11_done (E : En) (S : Sg) (G : Gh) (this : Int) (trade : Int) (hS : S this = 128) (trade_a : (-2147483648) ≤ trade) (trade_b : trade ≤ 2147483647) (ci : CI E S G) : Calls E mX11_done [(2, this), (0, trade)] S G 7 0 0 (fun r S' G' => S = S' ∧ (∃ G1, hw [(93, -1), (95, -1), (96, -1), (97, -1), (115, -1), (116, -1), (118, -1), (119, -1), (125, -1), (126, -1), (127, -1), (128, 0), (129, 1), (129, 2), (129, 15), (129, 16)] G G1 = G') ∧ ∃ z : Int, r = some (0, z) ∧ (-2147483648) ≤ z ∧ z ≤ 2147483647) := by
  refine calls_by [(0, (2, this)), (1, (0, trade))] rfl rfl (Nat.le_of_ble_eq_true rfl) (fun X hX => ?_)
  have hP := hPX11_done
  refine r_ex hX hP 3 (pc' := 3) (st' := [(0, trade), (2, this), (2, this)]) (lo' := [(0, (2, this)), (1, (0, trade))]) rfl ?_
  refine r_peekR hX (tl_128 7 rfl (by decide)) hS (fun trp1 trp1e trp1s => ?_)
  refine r_peekI hX (tl_155 2 rfl (by decide)) trp1s (fun sip2 sip2e sip2a sip2b => ?_)
  refine r_callV gd hX hP rfl cv_X11_227_128 hS (d' := 1) (mc' := 0) (ms' := 0) (as' := [(0, trade)]) (st := [(2, this)]) (by first | decide | omega) (by first | decide | omega) (by first | decide | omega) rfl rfl (Nat.le_of_ble_eq_true rfl) (c_X11_hasTrade E S G this trade hS trp1 trp1e trp1s sip2 sip2e (by first | decide | omega) (by first | decide | omega)) ?_
  rintro _ _ _ ⟨rfl, rfl, z3, rfl, (⟨rfl, f4, f5⟩ | rfl)⟩
  · skip
    refine r_if_eq hX hP rfl (tgt := 13) rfl (by first | decide | omega) (by first | decide | omega) (fun c6 => ?_) (fun c6 => ?_)
    · skip
      exfalso; omega
    · skip
      refine r_ex hX hP 2 (pc' := 14) (st' := [(0, 0), (2, this)]) (lo' := [(0, (2, this)), (1, (0, trade))]) rfl ?_
      refine r_callV gd hX hP rfl cv_X11_90_128 hS (d' := 0) (mc' := 0) (ms' := 0) (as' := [(0, 0)]) (st := []) (by first | decide | omega) (by first | decide | omega) (by first | decide | omega) rfl rfl (Nat.le_of_ble_eq_true rfl) (c_X11_refused E S G this 0 hS (by first | decide | omega) (by first | decide | omega)) ?_
      rintro _ _ _ ⟨rfl, ⟨G7, rfl⟩, z8, rfl, (⟨rfl, f9⟩ | ⟨rfl, f10⟩)⟩
      · skip
        exfalso; omega
      · skip
        refine r_if_eq hX hP rfl (tgt := 22) rfl (by first | decide | omega) (by first | decide | omega) (fun c11 => ?_) (fun c11 => ?_)
        · skip
          refine r_ex hX hP 1 (pc' := 23) (st' := [(2, this)]) (lo' := [(0, (2, this)), (1, (0, trade))]) rfl ?_
          refine r_getKR hX hP rfl fl_X11_33_128 hS (x := trp1) trp1e ?_
          refine r_ex hX hP 1 (pc' := 27) (st' := [(0, trade), (2, trp1)]) (lo' := [(0, (2, this)), (1, (0, trade))]) rfl ?_
          have ci12 : CI E S (hw [(128, 0)] G G7) := (ci_hw ci rfl)
          refine r_callV gd hX hP rfl cv_X11_196_155 trp1s (d' := 2) (mc' := 0) (ms' := 0) (as' := [(0, trade)]) (st := []) (by first | decide | omega) (by first | decide | omega) (by first | decide | omega) rfl rfl (Nat.le_of_ble_eq_true rfl) (c_get_Ltr E S (hw [(128, 0)] G G7) trp1 trade trp1s sip2 sip2e (by first | decide | omega) (by first | decide | omega) (by first | decide | omega) ci12) ?_
          rintro _ _ _ ⟨rfl, rfl, z13, rfl, z13s⟩
          refine r_cast hX hP rfl (tbg sg3 16 rfl rfl) ck_140_X1 z13s ?_
          refine r_ex hX hP 4 (pc' := 37) (st' := [(2, this), (2, z13), (2, this)]) (lo' := [(0, (2, this)), (1, (0, trade)), (2, (2, z13))]) rfl ?_
          refine r_getR hX hP rfl fl_X11_16_128 hS (fun rf14 rf14e rf14s => ?_)
          refine r_getI hX hP rfl fl_X11_93_129 rf14s (fun af15 af15e af15a af15b => ?_)
          refine r_callU gd hX hP rfl cu_X11_282_140 z13s (d' := 0) (mc' := 0) (ms' := 0) (as' := [(0, af15)]) (st := [(2, this)]) (by first | decide | omega) (by first | decide | omega) (by first | decide | omega) rfl rfl (Nat.le_of_ble_eq_true rfl) (c_counts_Trd E S (hw [(128, 0)] G G7) z13 af15 z13s (by first | decide | omega) (by first | decide | omega)) ?_
          rintro _ _ _ ⟨rfl, rfl, z16, rfl, z16a, z16b⟩
          refine r_if_eq hX hP rfl (tgt := 53) rfl (by first | decide | omega) (by first | decide | omega) (fun c17 => ?_) (fun c17 => ?_)
          · skip
            refine r_ex hX hP 1 (pc' := 55) (st' := [(0, 7), (2, this)]) (lo' := [(0, (2, this)), (1, (0, trade)), (2, (2, z13))]) rfl ?_
            refine r_callV gd hX hP rfl cv_X11_90_128 hS (d' := 0) (mc' := 0) (ms' := 0) (as' := [(0, 7)]) (st := []) (by first | decide | omega) (by first | decide | omega) (by first | decide | omega) rfl rfl (Nat.le_of_ble_eq_true rfl) (c_X11_refused E S (hw [(128, 0)] G G7) this 7 hS (by first | decide | omega) (by first | decide | omega)) ?_
            rintro _ _ _ ⟨rfl, ⟨G18, rfl⟩, z19, rfl, (⟨rfl, f20⟩ | ⟨rfl, f21⟩)⟩
            · skip
              refine r_if_eq hX hP rfl (tgt := 63) rfl (by first | decide | omega) (by first | decide | omega) (fun c22 => ?_) (fun c22 => ?_)
              · skip
                exfalso; omega
              · skip
                refine r_ex hX hP 1 (pc' := 62) (st' := [(0, (-1))]) (lo' := [(0, (2, this)), (1, (0, trade)), (2, (2, z13))]) rfl ?_
                exact r_retI hX hP rfl rfl (by first | decide | omega) (by first | decide | omega) ⟨rfl, ⟨_, (hw_sub (hw_sub (hw_refl _ _) rfl) rfl).symm⟩, (-1), rfl, (by first | decide | omega)⟩
            · skip
              exfalso; omega
          · skip
            refine r_ex hX hP 2 (pc' := 55) (st' := [(0, 0), (2, this)]) (lo' := [(0, (2, this)), (1, (0, trade)), (2, (2, z13))]) rfl ?_
            refine r_callV gd hX hP rfl cv_X11_90_128 hS (d' := 0) (mc' := 0) (ms' := 0) (as' := [(0, 0)]) (st := []) (by first | decide | omega) (by first | decide | omega) (by first | decide | omega) rfl rfl (Nat.le_of_ble_eq_true rfl) (c_X11_refused E S (hw [(128, 0)] G G7) this 0 hS (by first | decide | omega) (by first | decide | omega)) ?_
            rintro _ _ _ ⟨rfl, ⟨G23, rfl⟩, z24, rfl, (⟨rfl, f25⟩ | ⟨rfl, f26⟩)⟩
            · skip
              exfalso; omega
            · skip
              refine r_if_eq hX hP rfl (tgt := 63) rfl (by first | decide | omega) (by first | decide | omega) (fun c27 => ?_) (fun c27 => ?_)
              · skip
                refine r_ex hX hP 1 (pc' := 64) (st' := [(2, this)]) (lo' := [(0, (2, this)), (1, (0, trade)), (2, (2, z13))]) rfl ?_
                refine r_getKR hX hP rfl fl_X11_16_128 hS (x := rf14) rf14e ?_
                refine r_ex hX hP 1 (pc' := 68) (st' := [(2, z13), (2, rf14)]) (lo' := [(0, (2, this)), (1, (0, trade)), (2, (2, z13))]) rfl ?_
                refine r_getI hX hP rfl fl_X11_283_140 z13s (fun df28 df28e df28a df28b => ?_)
                have ci29 : CI E S (hw [(128, 0)] (hw [(128, 0)] G G7) G23) := (ci_hw ci12 rfl)
                refine r_callV gd hX hP rfl cv_X11_233_129 rf14s (d' := 6) (mc' := 0) (ms' := 0) (as' := [(0, df28)]) (st := []) (by first | decide | omega) (by first | decide | omega) (by first | decide | omega) rfl rfl (Nat.le_of_ble_eq_true rfl) (c_X8_to E S (hw [(128, 0)] (hw [(128, 0)] G G7) G23) rf14 df28 rf14s (by first | decide | omega) (by first | decide | omega) ci29) ?_
                rintro _ _ _ ⟨rfl, ⟨G30, rfl⟩, rfl, -⟩
                refine r_ex hX hP 2 (pc' := 76) (st' := [(2, this), (2, this)]) (lo' := [(0, (2, this)), (1, (0, trade)), (2, (2, z13))]) rfl ?_
                refine r_getKR hX hP rfl fl_X11_16_128 hS (x := rf14) rf14e ?_
                refine r_getI hX hP rfl fl_X11_235_129 rf14s (fun of31 of31e of31a of31b => ?_)
                refine r_if_eq hX hP rfl (tgt := 90) rfl (by first | decide | omega) (by first | decide | omega) (fun c32 => ?_) (fun c32 => ?_)
                · skip
                  refine r_ex hX hP 1 (pc' := 91) (st' := [(0, 0), (2, this)]) (lo' := [(0, (2, this)), (1, (0, trade)), (2, (2, z13))]) rfl ?_
                  refine r_callV gd hX hP rfl cv_X11_90_128 hS (d' := 0) (mc' := 0) (ms' := 0) (as' := [(0, 0)]) (st := []) (by first | decide | omega) (by first | decide | omega) (by first | decide | omega) rfl rfl (Nat.le_of_ble_eq_true rfl) (c_X11_refused E S (hw [(93, -1), (95, -1), (96, -1), (97, -1), (115, -1), (116, -1), (118, -1), (119, -1), (125, -1), (126, -1), (127, -1), (129, 1), (129, 2), (129, 15), (129, 16)] (hw [(128, 0)] (hw [(128, 0)] G G7) G23) G30) this 0 hS (by first | decide | omega) (by first | decide | omega)) ?_
                  rintro _ _ _ ⟨rfl, ⟨G33, rfl⟩, z34, rfl, (⟨rfl, f35⟩ | ⟨rfl, f36⟩)⟩
                  · skip
                    exfalso; omega
                  · skip
                    refine r_if_eq hX hP rfl (tgt := 99) rfl (by first | decide | omega) (by first | decide | omega) (fun c37 => ?_) (fun c37 => ?_)
                    · skip
                      refine r_ex hX hP 1 (pc' := 100) (st' := [(2, this)]) (lo' := [(0, (2, this)), (1, (0, trade)), (2, (2, z13))]) rfl ?_
                      refine r_getKR hX hP rfl fl_X11_16_128 hS (x := rf14) rf14e ?_
                      refine r_getR hX hP rfl fl_X11_286_129 rf14s (fun sf38 sf38e sf38s => ?_)
                      refine r_ex hX hP 1 (pc' := 107) (st' := [(0, trade), (2, sf38)]) (lo' := [(0, (2, this)), (1, (0, trade)), (2, (2, z13))]) rfl ?_
                      refine r_iald hX hP rfl al_115 sf38s (by first | decide | omega) (by first | decide | omega) (fun x39 x39e x39a x39b => ?_)
                      exact r_retI hX hP rfl rfl (by first | decide | omega) (by first | decide | omega) ⟨rfl, ⟨_, (hw_sub (hw_sub (hw_sub (hw_sub (hw_refl _ _) rfl) rfl) rfl) rfl).symm⟩, x39, rfl, (by first | decide | omega)⟩
                    · skip
                      exfalso; omega
                · skip
                  refine r_ex hX hP 2 (pc' := 91) (st' := [(0, 8), (2, this)]) (lo' := [(0, (2, this)), (1, (0, trade)), (2, (2, z13))]) rfl ?_
                  refine r_callV gd hX hP rfl cv_X11_90_128 hS (d' := 0) (mc' := 0) (ms' := 0) (as' := [(0, 8)]) (st := []) (by first | decide | omega) (by first | decide | omega) (by first | decide | omega) rfl rfl (Nat.le_of_ble_eq_true rfl) (c_X11_refused E S (hw [(93, -1), (95, -1), (96, -1), (97, -1), (115, -1), (116, -1), (118, -1), (119, -1), (125, -1), (126, -1), (127, -1), (129, 1), (129, 2), (129, 15), (129, 16)] (hw [(128, 0)] (hw [(128, 0)] G G7) G23) G30) this 8 hS (by first | decide | omega) (by first | decide | omega)) ?_
                  rintro _ _ _ ⟨rfl, ⟨G40, rfl⟩, z41, rfl, (⟨rfl, f42⟩ | ⟨rfl, f43⟩)⟩
                  · skip
                    refine r_if_eq hX hP rfl (tgt := 99) rfl (by first | decide | omega) (by first | decide | omega) (fun c44 => ?_) (fun c44 => ?_)
                    · skip
                      exfalso; omega
                    · skip
                      refine r_ex hX hP 1 (pc' := 98) (st' := [(0, (-1))]) (lo' := [(0, (2, this)), (1, (0, trade)), (2, (2, z13))]) rfl ?_
                      exact r_retI hX hP rfl rfl (by first | decide | omega) (by first | decide | omega) ⟨rfl, ⟨_, (hw_sub (hw_sub (hw_sub (hw_sub (hw_refl _ _) rfl) rfl) rfl) rfl).symm⟩, (-1), rfl, (by first | decide | omega)⟩
                  · skip
                    exfalso; omega
              · skip
                exfalso; omega
        · skip
          exfalso; omega
  · skip
    refine r_if_eq hX hP rfl (tgt := 13) rfl (by first | decide | omega) (by first | decide | omega) (fun c45 => ?_) (fun c45 => ?_)
    · skip
      refine r_ex hX hP 1 (pc' := 14) (st' := [(0, 1), (2, this)]) (lo' := [(0, (2, this)), (1, (0, trade))]) rfl ?_
      refine r_callV gd hX hP rfl cv_X11_90_128 hS (d' := 0) (mc' := 0) (ms' := 0) (as' := [(0, 1)]) (st := []) (by first | decide | omega) (by first | decide | omega) (by first | decide | omega) rfl rfl (Nat.le_of_ble_eq_true rfl) (c_X11_refused E S G this 1 hS (by first | decide | omega) (by first | decide | omega)) ?_
      rintro _ _ _ ⟨rfl, ⟨G46, rfl⟩, z47, rfl, (⟨rfl, f48⟩ | ⟨rfl, f49⟩)⟩
      · skip
        refine r_if_eq hX hP rfl (tgt := 22) rfl (by first | decide | omega) (by first | decide | omega) (fun c50 => ?_) (fun c50 => ?_)
        · skip
          exfalso; omega
        · skip
          refine r_ex hX hP 1 (pc' := 21) (st' := [(0, (-1))]) (lo' := [(0, (2, this)), (1, (0, trade))]) rfl ?_
          exact r_retI hX hP rfl rfl (by first | decide | omega) (by first | decide | omega) ⟨rfl, ⟨_, (hw_sub (hw_refl _ _) rfl).symm⟩, (-1), rfl, (by first | decide | omega)⟩
      · skip
        exfalso; omega
    · skip
      exfalso; omega
set_option maxRecDepth 100000 in
set_option maxHeartbeats 4000000 in
theorem c_X11_settledStatus (E : En) (S : Sg) (G : Gh) (this : Int) (trade : Int) (hS : S this = 128) (trade_a : 0 ≤ trade) (trade_b : trade ≤ 39) : Calls E mX11_settledStatus [(2, this), (0, trade)] S G 0 0 0 (fun r S' G' => S = S' ∧ G = G' ∧ ∃ z : Int, r = some (0, z) ∧ 0 ≤ z ∧ z ≤ 8) := by
  refine calls_by [(0, (2, this)), (1, (0, trade))] rfl rfl (Nat.le_of_ble_eq_true rfl) (fun X hX => ?_)
  have hP := hPX11_settledStatus
  refine r_ex hX hP 1 (pc' := 1) (st' := [(2, this)]) (lo' := [(0, (2, this)), (1, (0, trade))]) rfl ?_
  refine r_getR hX hP rfl fl_X11_16_128 hS (fun rf1 rf1e rf1s => ?_)
  refine r_getR hX hP rfl fl_X11_286_129 rf1s (fun sf2 sf2e sf2s => ?_)
  refine r_ex hX hP 1 (pc' := 8) (st' := [(0, trade), (2, sf2)]) (lo' := [(0, (2, this)), (1, (0, trade))]) rfl ?_
  refine r_iald hX hP rfl al_115 sf2s (by first | decide | omega) (by first | decide | omega) (fun x3 x3e x3a x3b => ?_)
  refine r_if_ne hX hP rfl (tgt := 15) rfl (by first | decide | omega) (by first | decide | omega) (fun c4 => ?_) (fun c4 => ?_)
  · skip
    refine r_ex hX hP 1 (pc' := 16) (st' := [(2, this)]) (lo' := [(0, (2, this)), (1, (0, trade))]) rfl ?_
    refine r_getKR hX hP rfl fl_X11_16_128 hS (x := rf1) rf1e ?_
    refine r_getI hX hP rfl fl_X11_235_129 rf1s (fun of5 of5e of5a of5b => ?_)
    refine r_if_eq hX hP rfl (tgt := 30) rfl (by first | decide | omega) (by first | decide | omega) (fun c6 => ?_) (fun c6 => ?_)
    · skip
      refine r_ex hX hP 1 (pc' := 31) (st' := [(0, 0)]) (lo' := [(0, (2, this)), (1, (0, trade))]) rfl ?_
      exact r_retI hX hP rfl rfl (by first | decide | omega) (by first | decide | omega) ⟨rfl, rfl, 0, rfl, (by first | decide | omega)⟩
    · skip
      refine r_ex hX hP 2 (pc' := 31) (st' := [(0, 8)]) (lo' := [(0, (2, this)), (1, (0, trade))]) rfl ?_
      exact r_retI hX hP rfl rfl (by first | decide | omega) (by first | decide | omega) ⟨rfl, rfl, 8, rfl, (by first | decide | omega)⟩
  · skip
    refine r_ex hX hP 1 (pc' := 14) (st' := [(0, 7)]) (lo' := [(0, (2, this)), (1, (0, trade))]) rfl ?_
    exact r_retI hX hP rfl rfl (by first | decide | omega) (by first | decide | omega) ⟨rfl, rfl, 7, rfl, (by first | decide | omega)⟩
set_option maxRecDepth 100000 in
set_option maxHeartbeats 4000000 in
theorem c_X11_owingSide (E : En) (S : Sg) (G : Gh) (deal : Int) (happened : Int) (deal_s : S deal = 140) (happened_s : S happened = 137) : Calls E mX11_owingSide [(2, deal), (2, happened)] S G 0 0 0 (fun r S' G' => S = S' ∧ G = G' ∧ ∃ z : Int, r = some (0, z) ∧ (-1) ≤ z ∧ z ≤ 1) := by
  refine calls_by [(0, (2, deal)), (1, (2, happened))] rfl rfl (Nat.le_of_ble_eq_true rfl) (fun X hX => ?_)
  have hP := hPX11_owingSide
  refine r_ex hX hP 1 (pc' := 1) (st' := [(2, deal)]) (lo' := [(0, (2, deal)), (1, (2, happened))]) rfl ?_
  refine r_getI hX hP rfl fl_X11_154_140 deal_s (fun df1 df1e df1a df1b => ?_)
  refine r_ex hX hP 1 (pc' := 5) (st' := [(2, happened), (0, df1)]) (lo' := [(0, (2, deal)), (1, (2, happened))]) rfl ?_
  refine r_getI hX hP rfl fl_X11_178_137 happened_s (fun ef2 ef2e ef2a ef2b => ?_)
  refine r_ic_ge hX hP rfl (tgt := 28) rfl (by first | decide | omega) (by first | decide | omega) (by first | decide | omega) (by first | decide | omega) (fun c3 => ?_) (fun c3 => ?_)
  · skip
    refine r_ex hX hP 1 (pc' := 29) (st' := [(2, deal)]) (lo' := [(0, (2, deal)), (1, (2, happened))]) rfl ?_
    refine r_getI hX hP rfl fl_X11_283_140 deal_s (fun df4 df4e df4a df4b => ?_)
    refine r_ex hX hP 1 (pc' := 33) (st' := [(2, happened), (0, df4)]) (lo' := [(0, (2, deal)), (1, (2, happened))]) rfl ?_
    refine r_getI hX hP rfl fl_X11_181_137 happened_s (fun rf5 rf5e rf5a rf5b => ?_)
    refine r_ic_gt hX hP rfl (tgt := 43) rfl (by first | decide | omega) (by first | decide | omega) (by first | decide | omega) (by first | decide | omega) (fun c6 => ?_) (fun c6 => ?_)
    · skip
      refine r_ex hX hP 1 (pc' := 44) (st' := [(0, 0)]) (lo' := [(0, (2, deal)), (1, (2, happened))]) rfl ?_
      exact r_retI hX hP rfl rfl (by first | decide | omega) (by first | decide | omega) ⟨rfl, rfl, 0, rfl, (by first | decide | omega)⟩
    · skip
      refine r_ex hX hP 2 (pc' := 44) (st' := [(0, (-1))]) (lo' := [(0, (2, deal)), (1, (2, happened))]) rfl ?_
      exact r_retI hX hP rfl rfl (by first | decide | omega) (by first | decide | omega) ⟨rfl, rfl, (-1), rfl, (by first | decide | omega)⟩
  · skip
    refine r_ex hX hP 1 (pc' := 12) (st' := [(2, deal)]) (lo' := [(0, (2, deal)), (1, (2, happened))]) rfl ?_
    refine r_getI hX hP rfl fl_X11_283_140 deal_s (fun df7 df7e df7a df7b => ?_)
    refine r_ex hX hP 1 (pc' := 16) (st' := [(2, happened), (0, df7)]) (lo' := [(0, (2, deal)), (1, (2, happened))]) rfl ?_
    refine r_getI hX hP rfl fl_X11_181_137 happened_s (fun rf8 rf8e rf8a rf8b => ?_)
    refine r_ic_le hX hP rfl (tgt := 26) rfl (by first | decide | omega) (by first | decide | omega) (by first | decide | omega) (by first | decide | omega) (fun c9 => ?_) (fun c9 => ?_)
    · skip
      refine r_ex hX hP 1 (pc' := 27) (st' := [(0, 0)]) (lo' := [(0, (2, deal)), (1, (2, happened))]) rfl ?_
      exact r_retI hX hP rfl rfl (by first | decide | omega) (by first | decide | omega) ⟨rfl, rfl, 0, rfl, (by first | decide | omega)⟩
    · skip
      refine r_ex hX hP 2 (pc' := 27) (st' := [(0, 1)]) (lo' := [(0, (2, deal)), (1, (2, happened))]) rfl ?_
      exact r_retI hX hP rfl rfl (by first | decide | omega) (by first | decide | omega) ⟨rfl, rfl, 1, rfl, (by first | decide | omega)⟩
set_option maxRecDepth 100000 in
set_option maxHeartbeats 4000000 in
theorem c_X11_workFor (E : En) (S : Sg) (G : Gh) (text : Int) (choice : Int) (shares : Int) (text_s : S text = 136) (choice_a : (-2147483648) ≤ choice) (choice_b : choice ≤ 2147483647) (shares_a : (-2147483648) ≤ shares) (shares_b : shares ≤ 2147483647) : Calls E mX11_workFor [(2, text), (0, choice), (0, shares)] S G 3 0 0 (fun r S' G' => S = S' ∧ (∃ G1, hw [(119, -1), (125, -1), (126, -1), (127, -1)] G G1 = G') ∧ r = none ∧ True) := by
  refine calls_by [(0, (2, text)), (1, (0, choice)), (2, (0, shares))] rfl rfl (Nat.le_of_ble_eq_true rfl) (fun X hX => ?_)
  have hP := hPX11_workFor
  refine r_ex hX hP 1 (pc' := 1) (st' := [(2, text)]) (lo' := [(0, (2, text)), (1, (0, choice)), (2, (0, shares))]) rfl ?_
  refine r_getR hX hP rfl fl_X11_336_136 text_s (fun hf1 hf1e hf1s => ?_)
  refine r_ex hX hP 1 (pc' := 5) (st' := [(1, 0), (2, hf1)]) (lo' := [(0, (2, text)), (1, (0, choice)), (2, (0, shares))]) rfl ?_
  refine r_callS gd hX hP rfl cs_X11_339 (d' := 0) (mc' := 0) (ms' := 0) (as' := [(2, hf1), (1, 0)]) (st := []) (by first | decide | omega) (by first | decide | omega) (by first | decide | omega) rfl rfl (Nat.le_of_ble_eq_true rfl) (c_fillJ_J4 E S G hf1 0 hf1s (by first | decide | omega) (by first | decide | omega)) ?_
  rintro _ _ _ ⟨rfl, ⟨G2, rfl⟩, rfl, -⟩
  refine r_ex hX hP 1 (pc' := 9) (st' := [(2, text)]) (lo' := [(0, (2, text)), (1, (0, choice)), (2, (0, shares))]) rfl ?_
  refine r_getKR hX hP rfl fl_X11_336_136 text_s (x := hf1) hf1e ?_
  refine r_ex hX hP 2 (pc' := 14) (st' := [(0, shares), (0, 3), (2, hf1)]) (lo' := [(0, (2, text)), (1, (0, choice)), (2, (0, shares))]) rfl ?_
  refine r_i2l hX hP rfl (by first | decide | omega) (by first | decide | omega) ?_
  refine r_lastK hX hP rfl al_125 hf1s (by first | decide | omega) (by first | decide | omega) (by first | decide | omega) (by first | decide | omega) (fun h3 => ?_)
  refine r_ex hX hP 3 (pc' := 19) (st' := [(0, 2), (0, 0), (0, choice)]) (lo' := [(0, (2, text)), (1, (0, choice)), (2, (0, shares))]) rfl ?_
  refine r_callS gd hX hP rfl cs_X11_103 (d' := 0) (mc' := 0) (ms' := 0) (as' := [(0, choice), (0, 0), (0, 2)]) (st := []) (by first | decide | omega) (by first | decide | omega) (by first | decide | omega) rfl rfl (Nat.le_of_ble_eq_true rfl) (c_X11_within E S (up (hw [(125, -1)] G G2) 125 hf1 3 shares) choice 0 2 (by first | decide | omega) (by first | decide | omega) (by first | decide | omega) (by first | decide | omega) (by first | decide | omega) (by first | decide | omega)) ?_
  rintro _ _ _ ⟨rfl, rfl, z4, rfl, (⟨rfl, f5, f6⟩ | ⟨rfl, f7⟩)⟩
  · skip
    refine r_if_eq hX hP rfl (tgt := 33) rfl (by first | decide | omega) (by first | decide | omega) (fun c8 => ?_) (fun c8 => ?_)
    · skip
      exfalso; omega
    · skip
      refine r_ex hX hP 1 (pc' := 26) (st' := [(2, text)]) (lo' := [(0, (2, text)), (1, (0, choice)), (2, (0, shares))]) rfl ?_
      refine r_getKR hX hP rfl fl_X11_336_136 text_s (x := hf1) hf1e ?_
      refine r_ex hX hP 2 (pc' := 31) (st' := [(0, shares), (0, choice), (2, hf1)]) (lo' := [(0, (2, text)), (1, (0, choice)), (2, (0, shares))]) rfl ?_
      refine r_i2l hX hP rfl (by first | decide | omega) (by first | decide | omega) ?_
      refine r_lastK hX hP rfl al_125 hf1s (by first | decide | omega) (by first | decide | omega) (by first | decide | omega) (by first | decide | omega) (fun h9 => ?_)
      refine r_ex hX hP 1 (pc' := 34) (st' := [(2, text)]) (lo' := [(0, (2, text)), (1, (0, choice)), (2, (0, shares))]) rfl ?_
      refine r_callV gd hX hP rfl cv_X11_345_136 text_s (d' := 2) (mc' := 0) (ms' := 0) (as' := []) (st := []) (by first | decide | omega) (by first | decide | omega) (by first | decide | omega) rfl rfl (Nat.le_of_ble_eq_true rfl) (c_X9_work E S (up (up (hw [(125, -1)] G G2) 125 hf1 3 shares) 125 hf1 choice shares) text  text_s) ?_
      rintro _ _ _ ⟨rfl, ⟨G10, rfl⟩, rfl, -⟩
      exact r_retV hX hP rfl rfl (by first | decide | omega) (by first | decide | omega) ⟨rfl, ⟨_, (hw_sub (hw_up (hw_up (hw_sub (hw_refl _ _) rfl) rfl) rfl) rfl).symm⟩, rfl, trivial⟩
  · skip
    refine r_if_eq hX hP rfl (tgt := 33) rfl (by first | decide | omega) (by first | decide | omega) (fun c11 => ?_) (fun c11 => ?_)
    · skip
      refine r_ex hX hP 1 (pc' := 34) (st' := [(2, text)]) (lo' := [(0, (2, text)), (1, (0, choice)), (2, (0, shares))]) rfl ?_
      refine r_callV gd hX hP rfl cv_X11_345_136 text_s (d' := 2) (mc' := 0) (ms' := 0) (as' := []) (st := []) (by first | decide | omega) (by first | decide | omega) (by first | decide | omega) rfl rfl (Nat.le_of_ble_eq_true rfl) (c_X9_work E S (up (hw [(125, -1)] G G2) 125 hf1 3 shares) text  text_s) ?_
      rintro _ _ _ ⟨rfl, ⟨G12, rfl⟩, rfl, -⟩
      exact r_retV hX hP rfl rfl (by first | decide | omega) (by first | decide | omega) ⟨rfl, ⟨_, (hw_sub (hw_up (hw_sub (hw_refl _ _) rfl) rfl) rfl).symm⟩, rfl, trivial⟩
    · skip
      exfalso; omega
set_option maxRecDepth 100000 in
set_option maxHeartbeats 4000000 in
theorem c_X11_givenTo (E : En) (S : Sg) (G : Gh) (text : Int) (shares : Int) (paper : Int) (text_s : S text = 136) (shares_a : (-2147483648) ≤ shares) (shares_b : shares ≤ 2147483647) (paper_a : (-2147483648) ≤ paper) (paper_b : paper ≤ 2147483647) : Calls E mX11_givenTo [(2, text), (0, shares), (0, paper)] S G 4 0 0 (fun r S' G' => S = S' ∧ (∃ G1, hw [(119, -1), (125, -1), (126, -1), (127, -1)] G G1 = G') ∧ ∃ z : Int, r = some (1, z) ∧ (-9223372036854775808) ≤ z ∧ z ≤ 9223372036854775807) := by
  refine calls_by [(0, (2, text)), (1, (0, shares)), (2, (0, paper))] rfl rfl (Nat.le_of_ble_eq_true rfl) (fun X hX => ?_)
  have hP := hPX11_givenTo
  refine r_ex hX hP 3 (pc' := 3) (st' := [(0, shares), (0, (-1)), (2, text)]) (lo' := [(0, (2, text)), (1, (0, shares)), (2, (0, paper))]) rfl ?_
  refine r_callS gd hX hP rfl cs_X11_320 (d' := 3) (mc' := 0) (ms' := 0) (as' := [(2, text), (0, (-1)), (0, shares)]) (st := []) (by first | decide | omega) (by first | decide | omega) (by first | decide | omega) rfl rfl (Nat.le_of_ble_eq_true rfl) (c_X11_workFor E S G text (-1) shares text_s (by first | decide | omega) (by first | decide | omega) (by first | decide | omega) (by first | decide | omega)) ?_
  rintro _ _ _ ⟨rfl, ⟨G1, rfl⟩, rfl, -⟩
  refine r_ex hX hP 4 (pc' := 11) (st' := []) (lo' := [(0, (2, text)), (1, (0, shares)), (2, (0, paper)), (3, (1, 0)), (5, (0, 0))]) rfl ?_
  have loop11 : ∀ (nF : Nat) (l3_h11 l5_h11 : Int), (-9223372036854775808) ≤ l3_h11 → l3_h11 ≤ 9223372036854775807 → 0 ≤ l5_h11 → l5_h11 ≤ 30 → 30 - l5_h11 < (nF : Int) → X 0 0 11 [] [(0, (2, text)), (1, (0, shares)), (2, (0, paper)), (3, (1, l3_h11)), (5, (0, l5_h11))] S (hw [(119, -1), (125, -1), (126, -1), (127, -1)] G G1) := by
    intro nF
    induction nF with
    | zero => intro l3_h11 l5_h11 yh11_0 yh11_1 yh11_2 yh11_3 ym11; exfalso; omega
    | succ nF ih11 =>
      intro l3_h11 l5_h11 yh11_0 yh11_1 yh11_2 yh11_3 ym11
      refine r_ex hX hP 2 (pc' := 14) (st' := [(2, text), (0, l5_h11)]) (lo' := [(0, (2, text)), (1, (0, shares)), (2, (0, paper)), (3, (1, l3_h11)), (5, (0, l5_h11))]) rfl ?_
      refine r_getI hX hP rfl fl_X11_324_136 text_s (fun sf2 sf2e sf2a sf2b => ?_)
      refine r_ic_ge hX hP rfl (tgt := 75) rfl (by first | decide | omega) (by first | decide | omega) (by first | decide | omega) (by first | decide | omega) (fun c3 => ?_) (fun c3 => ?_)
      · skip
        refine r_ex hX hP 1 (pc' := 76) (st' := [(1, l3_h11)]) (lo' := [(0, (2, text)), (1, (0, shares)), (2, (0, paper)), (3, (1, l3_h11)), (5, (0, l5_h11))]) rfl ?_
        exact r_retL hX hP rfl rfl (by first | decide | omega) (by first | decide | omega) ⟨rfl, ⟨_, (hw_sub (hw_refl _ _) rfl).symm⟩, l3_h11, rfl, (by first | decide | omega)⟩
      · skip
        refine r_ex hX hP 2 (pc' := 22) (st' := [(0, (-1)), (0, paper)]) (lo' := [(0, (2, text)), (1, (0, shares)), (2, (0, paper)), (3, (1, l3_h11)), (5, (0, l5_h11))]) rfl ?_
        refine r_ic_ne hX hP rfl (tgt := 38) rfl (by first | decide | omega) (by first | decide | omega) (by first | decide | omega) (by first | decide | omega) (fun c4 => ?_) (fun c4 => ?_)
        · skip
          refine r_ex hX hP 1 (pc' := 39) (st' := [(2, text)]) (lo' := [(0, (2, text)), (1, (0, shares)), (2, (0, paper)), (3, (1, l3_h11)), (5, (0, l5_h11))]) rfl ?_
          refine r_getR hX hP rfl fl_X11_327_136 text_s (fun kf5 kf5e kf5s => ?_)
          refine r_ex hX hP 1 (pc' := 44) (st' := [(0, l5_h11), (2, kf5)]) (lo' := [(0, (2, text)), (1, (0, shares)), (2, (0, paper)), (3, (1, l3_h11)), (5, (0, l5_h11))]) rfl ?_
          refine r_iald hX hP rfl al_120 kf5s (by first | decide | omega) (by first | decide | omega) (fun x6 x6e x6a x6b => ?_)
          refine r_if_ne hX hP rfl (tgt := 69) rfl (by first | decide | omega) (by first | decide | omega) (fun c7 => ?_) (fun c7 => ?_)
          · skip
            refine r_ex hX hP 2 (pc' := 11) (st' := []) (lo' := [(0, (2, text)), (1, (0, shares)), (2, (0, paper)), (3, (1, l3_h11)), (5, (0, (l5_h11 + 1)))]) rfl ?_
            exact ih11 l3_h11 (l5_h11 + 1) (by first | decide | omega) (by first | decide | omega) (by first | decide | omega) (by first | decide | omega) (by first | decide | omega)
          · skip
            refine r_ex hX hP 1 (pc' := 49) (st' := [(2, text)]) (lo' := [(0, (2, text)), (1, (0, shares)), (2, (0, paper)), (3, (1, l3_h11)), (5, (0, l5_h11))]) rfl ?_
            refine r_getR hX hP rfl fl_X11_330_136 text_s (fun qf8 qf8e qf8s => ?_)
            refine r_ex hX hP 1 (pc' := 54) (st' := [(0, l5_h11), (2, qf8)]) (lo' := [(0, (2, text)), (1, (0, shares)), (2, (0, paper)), (3, (1, l3_h11)), (5, (0, l5_h11))]) rfl ?_
            refine r_iald hX hP rfl al_121 qf8s (by first | decide | omega) (by first | decide | omega) (fun x9 x9e x9a x9b => ?_)
            refine r_ex hX hP 1 (pc' := 56) (st' := [(0, paper), (0, x9)]) (lo' := [(0, (2, text)), (1, (0, shares)), (2, (0, paper)), (3, (1, l3_h11)), (5, (0, l5_h11))]) rfl ?_
            refine r_ic_ne hX hP rfl (tgt := 69) rfl (by first | decide | omega) (by first | decide | omega) (by first | decide | omega) (by first | decide | omega) (fun c10 => ?_) (fun c10 => ?_)
            · skip
              refine r_ex hX hP 2 (pc' := 11) (st' := []) (lo' := [(0, (2, text)), (1, (0, shares)), (2, (0, paper)), (3, (1, l3_h11)), (5, (0, (l5_h11 + 1)))]) rfl ?_
              exact ih11 l3_h11 (l5_h11 + 1) (by first | decide | omega) (by first | decide | omega) (by first | decide | omega) (by first | decide | omega) (by first | decide | omega)
            · skip
              refine r_ex hX hP 2 (pc' := 61) (st' := [(2, text), (1, l3_h11)]) (lo' := [(0, (2, text)), (1, (0, shares)), (2, (0, paper)), (3, (1, l3_h11)), (5, (0, l5_h11))]) rfl ?_
              refine r_getR hX hP rfl fl_X11_333_136 text_s (fun sf11 sf11e sf11s => ?_)
              refine r_ex hX hP 1 (pc' := 66) (st' := [(0, l5_h11), (2, sf11), (1, l3_h11)]) (lo' := [(0, (2, text)), (1, (0, shares)), (2, (0, paper)), (3, (1, l3_h11)), (5, (0, l5_h11))]) rfl ?_
              refine r_lald hX hP rfl al_127 sf11s (by first | decide | omega) (by first | decide | omega) (fun x12 x12e x12a x12b => ?_)
              refine r_ex hX hP 1 (pc' := 68) (st' := [(1, (l3_h11 + x12))]) (lo' := [(0, (2, text)), (1, (0, shares)), (2, (0, paper)), (3, (1, l3_h11)), (5, (0, l5_h11))]) rfl ?_
              refine r_hvL hX (fun w13 w13a w13b w13e => ?_)
              refine r_ex hX hP 3 (pc' := 11) (st' := []) (lo' := [(0, (2, text)), (1, (0, shares)), (2, (0, paper)), (3, (1, w13)), (5, (0, (l5_h11 + 1)))]) rfl ?_
              exact ih11 w13 (l5_h11 + 1) (by first | decide | omega) (by first | decide | omega) (by first | decide | omega) (by first | decide | omega) (by first | decide | omega)
        · skip
          refine r_ex hX hP 2 (pc' := 27) (st' := [(2, text), (1, l3_h11)]) (lo' := [(0, (2, text)), (1, (0, shares)), (2, (0, paper)), (3, (1, l3_h11)), (5, (0, l5_h11))]) rfl ?_
          refine r_getR hX hP rfl fl_X11_326_136 text_s (fun pf14 pf14e pf14s => ?_)
          refine r_ex hX hP 1 (pc' := 32) (st' := [(0, l5_h11), (2, pf14), (1, l3_h11)]) (lo' := [(0, (2, text)), (1, (0, shares)), (2, (0, paper)), (3, (1, l3_h11)), (5, (0, l5_h11))]) rfl ?_
          refine r_lald hX hP rfl al_127 pf14s (by first | decide | omega) (by first | decide | omega) (fun x15 x15e x15a x15b => ?_)
          refine r_ex hX hP 1 (pc' := 34) (st' := [(1, (l3_h11 + x15))]) (lo' := [(0, (2, text)), (1, (0, shares)), (2, (0, paper)), (3, (1, l3_h11)), (5, (0, l5_h11))]) rfl ?_
          refine r_hvL hX (fun w16 w16a w16b w16e => ?_)
          refine r_ex hX hP 4 (pc' := 11) (st' := []) (lo' := [(0, (2, text)), (1, (0, shares)), (2, (0, paper)), (3, (1, w16)), (5, (0, (l5_h11 + 1)))]) rfl ?_
          exact ih11 w16 (l5_h11 + 1) (by first | decide | omega) (by first | decide | omega) (by first | decide | omega) (by first | decide | omega) (by first | decide | omega)
  exact loop11 ((30 - 0) + 1 : Int).toNat 0 0 (by first | decide | omega) (by first | decide | omega) (by first | decide | omega) (by first | decide | omega) (by first | decide | omega)
