theorem fl_X8_65_129 : Fl RX8 65 129 14 (2, 118, 0) := ⟨9, 20, fs_129, RX8, TX8, rfl, rfl, by decide, rfl, by decide, rfl, cf_X8, (tbg sg1 184 rfl rfl)⟩
theorem al_118 : Al 118 0 96 (0, 0, 10240191) := ⟨rfl, by decide, by decide⟩
theorem fl_X8_156_138 : Fl RX8 156 138 5 (0, 0, 40000) := ⟨6, 6, fs_138, RX5, TX5, rfl, rfl, by decide, rfl, by decide, rfl, cf_X5, (tbg sg5 39 rfl rfl)⟩
theorem fl_X8_45_129 : Fl RX8 45 129 9 (2, 130, 0) := ⟨9, 20, fs_129, RX8, TX8, rfl, rfl, by decide, rfl, by decide, rfl, cf_X8, (tbg sg1 172 rfl rfl)⟩
theorem fl_X8_159_130 : Fl RX8 159 130 6 (2, 94, 0) := ⟨1, 18, fs_130, RX0, TX0, rfl, rfl, by decide, rfl, by decide, rfl, cf_X0, (tbg sg1 65 rfl rfl)⟩
theorem fl_X8_162_138 : Fl RX8 162 138 3 (0, 0, 19) := ⟨6, 6, fs_138, RX5, TX5, rfl, rfl, by decide, rfl, by decide, rfl, cf_X5, (tbg sg5 35 rfl rfl)⟩
theorem cv_X8_165_130 : Cv RX8 165 mX0_firstHand 130 1 := ⟨co_X0_firstHand, (tbg sg5 133 rfl rfl), (tbg sg5 134 rfl rfl), 1, 18, fs_130, RX0, TX0, rfl, by decide, rfl, (tbg sg5 135 rfl rfl)⟩
theorem fl_X8_59_129 : Fl RX8 59 129 12 (2, 156, 0) := ⟨9, 20, fs_129, RX8, TX8, rfl, rfl, by decide, rfl, by decide, rfl, cf_X8, (tbg sg1 180 rfl rfl)⟩
theorem co_Jx4a65c_get_915e3 : Co mJx4a65c_get_915e3 1 := ⟨(tbg sg5 8 rfl rfl), (tbg sg1 6 rfl rfl), by decide, by decide, by decide +kernel, by decide⟩
theorem cv_X8_97_156 : Cv RX8 97 mJx4a65c_get_915e3 156 1 := ⟨co_Jx4a65c_get_915e3, (tbg sg5 89 rfl rfl), (tbg sg5 6 rfl rfl), 0, 3, fs_156, RJx4a65c, TJx4a65c, rfl, by decide, rfl, (tbg sg5 7 rfl rfl)⟩
theorem ck_137_X2 : Ck 137 "ShareLife$Event" := ⟨3, 7, fs_137, RX2, TX2, rfl, by decide, rfl, Or.inl rfl⟩
theorem fl_X8_168_137 : Fl RX8 168 137 3 (2, 136, 0) := ⟨3, 7, fs_137, RX2, TX2, rfl, rfl, by decide, rfl, by decide, rfl, cf_X2, (tbg sg4 211 rfl rfl)⟩
theorem fl_X8_172_136 : Fl RX8 172 136 2 (0, (-1), 2) := ⟨10, 16, fs_136, RX9, TX9, rfl, rfl, by decide, rfl, by decide, rfl, cf_X9, (tbg sg3 180 rfl rfl)⟩
theorem fl_X8_62_129 : Fl RX8 62 129 13 (2, 157, 0) := ⟨9, 20, fs_129, RX8, TX8, rfl, rfl, by decide, rfl, by decide, rfl, cf_X8, (tbg sg1 183 rfl rfl)⟩
theorem co_Jx4a65c_size_8abf5 : Co mJx4a65c_size_8abf5 0 := ⟨(tbg sg3 15 rfl rfl), (tbg sg1 6 rfl rfl), by decide, by decide, by decide +kernel, by decide⟩
theorem cv_X8_93_157 : Cv RX8 93 mJx4a65c_size_8abf5 157 0 := ⟨co_Jx4a65c_size_8abf5, (tbg sg5 88 rfl rfl), (tbg sg3 13 rfl rfl), 0, 3, fs_157, RJx4a65c, TJx4a65c, rfl, by decide, rfl, (tbg sg3 14 rfl rfl)⟩
theorem cv_X8_97_157 : Cv RX8 97 mJx4a65c_get_915e3 157 1 := ⟨co_Jx4a65c_get_915e3, (tbg sg5 89 rfl rfl), (tbg sg5 6 rfl rfl), 0, 3, fs_157, RJx4a65c, TJx4a65c, rfl, by decide, rfl, (tbg sg5 7 rfl rfl)⟩
theorem ck_138_X5 : Ck 138 "ShareLife$Pick" := ⟨6, 6, fs_138, RX5, TX5, rfl, by decide, rfl, Or.inl rfl⟩
theorem fl_X8_177_138 : Fl RX8 177 138 2 (0, 0, 15) := ⟨6, 6, fs_138, RX5, TX5, rfl, rfl, by decide, rfl, by decide, rfl, cf_X5, (tbg sg5 32 rfl rfl)⟩
theorem fl_X8_10_129 : Fl RX8 10 129 0 (0, 0, 40000) := ⟨9, 20, fs_129, RX8, TX8, rfl, rfl, by decide, rfl, by decide, rfl, cf_X8, (tbg sg1 151 rfl rfl)⟩
theorem co_X10_counts : Co mX10_counts 1 := ⟨(tbg sg5 102 rfl rfl), (tbg sg1 11 rfl rfl), by decide, by decide, by decide +kernel, by decide⟩
theorem cu_X8_180_138 : Cu RX8 180 mX10_counts ⟨RX5, "counts", "(I)Z"⟩ 138 1 := ⟨co_X10_counts, rfl, 6, 6, fs_138, RX5, TX5, rfl, by decide, rfl, tbs [1231, 1232, 1234, 1203, 157] (by decide +kernel)⟩
theorem fl_X8_181_137 : Fl RX8 181 137 6 (0, 0, 40000) := ⟨3, 7, fs_137, RX2, TX2, rfl, rfl, by decide, rfl, by decide, rfl, cf_X2, (tbg sg4 218 rfl rfl)⟩
theorem co_X8_inTime : Co mX8_inTime 2 := ⟨(tbg sg5 132 rfl rfl), (tbg sg1 2 rfl rfl), by decide, by decide, by decide +kernel, by decide⟩
theorem cv_X8_184_129 : Cv RX8 184 mX8_inTime 129 2 := ⟨co_X8_inTime, (tbg sg5 129 rfl rfl), (tbg sg5 131 rfl rfl), 9, 20, fs_129, RX8, TX8, rfl, by decide, rfl, (tbm 45 (by decide +kernel) rfl)⟩
theorem fl_X8_188_138 : Fl RX8 188 138 4 (0, 0, 2) := ⟨6, 6, fs_138, RX5, TX5, rfl, rfl, by decide, rfl, by decide, rfl, cf_X5, (tbg sg5 37 rfl rfl)⟩
theorem fl_X8_191_130 : Fl RX8 191 130 5 (2, 94, 0) := ⟨1, 18, fs_130, RX0, TX0, rfl, rfl, by decide, rfl, by decide, rfl, cf_X0, (tbg sg1 63 rfl rfl)⟩
theorem co_X0_slowHand : Co mX0_slowHand 1 := ⟨(tbg sg6 23 rfl rfl), (tbg sg1 3 rfl rfl), by decide, by decide, by decide +kernel, by decide⟩
theorem cv_X8_194_130 : Cv RX8 194 mX0_slowHand 130 1 := ⟨co_X0_slowHand, (tbg sg6 20 rfl rfl), (tbg sg6 21 rfl rfl), 1, 18, fs_130, RX0, TX0, rfl, by decide, rfl, (tbg sg6 22 rfl rfl)⟩
theorem cu_X8_138_139 : Cu RX8 138 mX10_counts ⟨RX10, "counts", "(I)Z"⟩ 139 1 := ⟨co_X10_counts, rfl, 2, 9, fs_139, RX1, TX1, rfl, by decide, rfl, tbs [1202, 1204, 1205, 1203, 157] (by decide +kernel)⟩
theorem fl_X8_87_129 : Fl RX8 87 129 15 (0, 0, 96) := ⟨9, 20, fs_129, RX8, TX8, rfl, rfl, by decide, rfl, by decide, rfl, cf_X8, (tbg sg1 186 rfl rfl)⟩
theorem fp_X8_87_129 : Fp RX8 87 129 15 (0, 0, 96) := ⟨fl_X8_87_129, 9, 20, fs_129, RX8, TX8, .int, rfl, rfl, rfl, by decide +kernel, fun E S x h => ⟨rfl, rfl⟩⟩
theorem cu_X8_138_140 : Cu RX8 138 mX10_counts ⟨RX10, "counts", "(I)Z"⟩ 140 1 := ⟨co_X10_counts, rfl, 2, 9, fs_140, RX1, TX1, rfl, by decide, rfl, tbs [1202, 1204, 1205, 1203, 157] (by decide +kernel)⟩
theorem cu_X8_138_137 : Cu RX8 138 mX10_counts ⟨RX10, "counts", "(I)Z"⟩ 137 1 := ⟨co_X10_counts, rfl, 3, 7, fs_137, RX2, TX2, rfl, by decide, rfl, tbs [1202, 1204, 1206, 1203, 157] (by decide +kernel)⟩
theorem fl_X8_16_129 : Fl RX8 16 129 1 (0, 0, 1) := ⟨9, 20, fs_129, RX8, TX8, rfl, rfl, by decide, rfl, by decide, rfl, cf_X8, (tbg sg1 153 rfl rfl)⟩
theorem fp_X8_16_129 : Fp RX8 16 129 1 (0, 0, 1) := ⟨fl_X8_16_129, 9, 20, fs_129, RX8, TX8, .boolean, rfl, rfl, rfl, by decide +kernel, fun E S x h => zfit h⟩
theorem fl_X8_90_129 : Fl RX8 90 129 2 (0, 0, 1) := ⟨9, 20, fs_129, RX8, TX8, rfl, rfl, by decide, rfl, by decide, rfl, cf_X8, (tbg sg1 155 rfl rfl)⟩
theorem fp_X8_90_129 : Fp RX8 90 129 2 (0, 0, 1) := ⟨fl_X8_90_129, 9, 20, fs_129, RX8, TX8, .boolean, rfl, rfl, rfl, by decide +kernel, fun E S x h => zfit h⟩
theorem fl_X8_77_129 : Fl RX8 77 129 16 (0, 0, 96) := ⟨9, 20, fs_129, RX8, TX8, rfl, rfl, by decide, rfl, by decide, rfl, cf_X8, (tbg sg1 188 rfl rfl)⟩
theorem fp_X8_77_129 : Fp RX8 77 129 16 (0, 0, 96) := ⟨fl_X8_77_129, 9, 20, fs_129, RX8, TX8, .int, rfl, rfl, rfl, by decide +kernel, fun E S x h => ⟨rfl, rfl⟩⟩
theorem fl_X8_28_129 : Fl RX8 28 129 5 (2, 95, 0) := ⟨9, 20, fs_129, RX8, TX8, rfl, rfl, by decide, rfl, by decide, rfl, cf_X8, (tbg sg1 162 rfl rfl)⟩
theorem cs_X8_117 : Cs RX8 117 mJ7_fill_d0a16 2 := ⟨co_J7_fill_d0a16, (tbg sg5 84 rfl rfl), (tbg sg5 85 rfl rfl)⟩
theorem fl_X8_32_129 : Fl RX8 32 129 6 (2, 95, 0) := ⟨9, 20, fs_129, RX8, TX8, rfl, rfl, by decide, rfl, by decide, rfl, cf_X8, (tbg sg1 164 rfl rfl)⟩
theorem fl_X8_35_129 : Fl RX8 35 129 7 (2, 115, 0) := ⟨9, 20, fs_129, RX8, TX8, rfl, rfl, by decide, rfl, by decide, rfl, cf_X8, (tbg sg1 166 rfl rfl)⟩
theorem cs_X8_123 : Cs RX8 123 mJ7_fill_53178 2 := ⟨co_J7_fill_53178, (tbg sg5 87 rfl rfl), (tbg sg3 167 rfl rfl)⟩
theorem fl_X8_52_129 : Fl RX8 52 129 10 (2, 154, 0) := ⟨9, 20, fs_129, RX8, TX8, rfl, rfl, by decide, rfl, by decide, rfl, cf_X8, (tbg sg1 174 rfl rfl)⟩
theorem cv_X8_93_154 : Cv RX8 93 mJx4a65c_size_8abf5 154 0 := ⟨co_Jx4a65c_size_8abf5, (tbg sg5 88 rfl rfl), (tbg sg3 13 rfl rfl), 0, 3, fs_154, RJx4a65c, TJx4a65c, rfl, by decide, rfl, (tbg sg3 14 rfl rfl)⟩
theorem fl_X8_56_129 : Fl RX8 56 129 11 (2, 155, 0) := ⟨9, 20, fs_129, RX8, TX8, rfl, rfl, by decide, rfl, by decide, rfl, cf_X8, (tbg sg1 177 rfl rfl)⟩
theorem cv_X8_93_155 : Cv RX8 93 mJx4a65c_size_8abf5 155 0 := ⟨co_Jx4a65c_size_8abf5, (tbg sg5 88 rfl rfl), (tbg sg3 13 rfl rfl), 0, 3, fs_155, RJx4a65c, TJx4a65c, rfl, by decide, rfl, (tbg sg3 14 rfl rfl)⟩
theorem cv_X8_93_156 : Cv RX8 93 mJx4a65c_size_8abf5 156 0 := ⟨co_Jx4a65c_size_8abf5, (tbg sg5 88 rfl rfl), (tbg sg3 13 rfl rfl), 0, 3, fs_156, RJx4a65c, TJx4a65c, rfl, by decide, rfl, (tbg sg3 14 rfl rfl)⟩
theorem ck_137_X10 : Ck 137 "ShareLife$Told" := ⟨3, 7, fs_137, RX2, TX2, rfl, by decide, rfl, Or.inr (List.mem_filter.mpr ⟨sg11 _ (List.mem_of_getElem? (i := 32) rfl), rfl⟩)⟩
theorem fl_X8_135_137 : Fl RX8 135 137 5 (0, 0, 40000) := ⟨3, 7, fs_137, RX2, TX2, rfl, rfl, by decide, rfl, by decide, rfl, cf_X2, (tbg sg4 215 rfl rfl)⟩
theorem co_X8_line : Co mX8_line 4 := ⟨(tbg sg5 95 rfl rfl), (tbg sg1 2 rfl rfl), by decide, by decide, by decide +kernel, by decide⟩
theorem cv_X8_131_129 : Cv RX8 131 mX8_line 129 4 := ⟨co_X8_line, (tbg sg5 92 rfl rfl), (tbg sg5 94 rfl rfl), 9, 20, fs_129, RX8, TX8, rfl, by decide, rfl, (tbm 40 (by decide +kernel) rfl)⟩
theorem cv_X8_97_155 : Cv RX8 97 mJx4a65c_get_915e3 155 1 := ⟨co_Jx4a65c_get_915e3, (tbg sg5 89 rfl rfl), (tbg sg5 6 rfl rfl), 0, 3, fs_155, RJx4a65c, TJx4a65c, rfl, by decide, rfl, (tbg sg5 7 rfl rfl)⟩
theorem ck_140_X10 : Ck 140 "ShareLife$Told" := ⟨2, 9, fs_140, RX1, TX1, rfl, by decide, rfl, Or.inr (List.mem_filter.mpr ⟨sg11 _ (List.mem_of_getElem? (i := 31) rfl), rfl⟩)⟩
theorem ck_140_X1 : Ck 140 "ShareLife$Entry" := ⟨2, 9, fs_140, RX1, TX1, rfl, by decide, rfl, Or.inl rfl⟩
theorem fl_X8_128_140 : Fl RX8 128 140 3 (0, 0, 40000) := ⟨2, 9, fs_140, RX1, TX1, rfl, rfl, by decide, rfl, by decide, rfl, cf_X1, (tbg sg3 30 rfl rfl)⟩
theorem cv_X8_97_154 : Cv RX8 97 mJx4a65c_get_915e3 154 1 := ⟨co_Jx4a65c_get_915e3, (tbg sg5 89 rfl rfl), (tbg sg5 6 rfl rfl), 0, 3, fs_154, RJx4a65c, TJx4a65c, rfl, by decide, rfl, (tbg sg5 7 rfl rfl)⟩
theorem ck_139_X10 : Ck 139 "ShareLife$Told" := ⟨2, 9, fs_139, RX1, TX1, rfl, by decide, rfl, Or.inr (List.mem_filter.mpr ⟨sg11 _ (List.mem_of_getElem? (i := 31) rfl), rfl⟩)⟩
theorem ck_139_X1 : Ck 139 "ShareLife$Entry" := ⟨2, 9, fs_139, RX1, TX1, rfl, by decide, rfl, Or.inl rfl⟩
theorem fl_X8_128_139 : Fl RX8 128 139 3 (0, 0, 40000) := ⟨2, 9, fs_139, RX1, TX1, rfl, rfl, by decide, rfl, by decide, rfl, cf_X1, (tbg sg3 30 rfl rfl)⟩
theorem fl_X8_22_129 : Fl RX8 22 129 3 (2, 114, 0) := ⟨9, 20, fs_129, RX8, TX8, rfl, rfl, by decide, rfl, by decide, rfl, cf_X8, (tbg sg1 157 rfl rfl)⟩
theorem al_114 : Al 114 4 20 (2, 95, 0) := ⟨rfl, by decide, by decide⟩
theorem fl_X8_25_129 : Fl RX8 25 129 4 (2, 114, 0) := ⟨9, 20, fs_129, RX8, TX8, rfl, rfl, by decide, rfl, by decide, rfl, cf_X8, (tbg sg1 160 rfl rfl)⟩
theorem fl_X8_142_139 : Fl RX8 142 139 2 (0, 0, 19) := ⟨2, 9, fs_139, RX1, TX1, rfl, rfl, by decide, rfl, by decide, rfl, cf_X1, (tbg sg3 26 rfl rfl)⟩
theorem fl_X8_145_139 : Fl RX8 145 139 6 (0, 0, 19) := ⟨2, 9, fs_139, RX1, TX1, rfl, rfl, by decide, rfl, by decide, rfl, cf_X1, (tbg sg3 42 rfl rfl)⟩
theorem fl_X8_148_139 : Fl RX8 148 139 4 (0, (-2147483648), 2147483647) := ⟨2, 9, fs_139, RX1, TX1, rfl, rfl, by decide, rfl, by decide, rfl, cf_X1, (tbg sg3 33 rfl rfl)⟩
theorem fl_X8_151_139 : Fl RX8 151 139 8 (0, (-2147483648), 2147483647) := ⟨2, 9, fs_139, RX1, TX1, rfl, rfl, by decide, rfl, by decide, rfl, cf_X1, (tbg sg3 46 rfl rfl)⟩
theorem fl_X8_142_140 : Fl RX8 142 140 2 (0, 0, 19) := ⟨2, 9, fs_140, RX1, TX1, rfl, rfl, by decide, rfl, by decide, rfl, cf_X1, (tbg sg3 26 rfl rfl)⟩
theorem fl_X8_153_140 : Fl RX8 153 140 5 (0, 0, 19) := ⟨2, 9, fs_140, RX1, TX1, rfl, rfl, by decide, rfl, by decide, rfl, cf_X1, (tbg sg3 38 rfl rfl)⟩
theorem fl_X8_148_140 : Fl RX8 148 140 4 (0, (-2147483648), 2147483647) := ⟨2, 9, fs_140, RX1, TX1, rfl, rfl, by decide, rfl, by decide, rfl, cf_X1, (tbg sg3 33 rfl rfl)⟩
theorem fl_X8_145_140 : Fl RX8 145 140 6 (0, 0, 19) := ⟨2, 9, fs_140, RX1, TX1, rfl, rfl, by decide, rfl, by decide, rfl, cf_X1, (tbg sg3 42 rfl rfl)⟩
theorem co_X0_part : Co mX0_part 3 := ⟨(tbg sg5 162 rfl rfl), (tbg sg1 3 rfl rfl), by decide, by decide, by decide +kernel, by decide⟩
theorem cv_X8_239_130 : Cv RX8 239 mX0_part 130 3 := ⟨co_X0_part, (tbg sg5 159 rfl rfl), (tbg sg5 160 rfl rfl), 1, 18, fs_130, RX0, TX0, rfl, by decide, rfl, (tbg sg5 161 rfl rfl)⟩
theorem fl_X8_207_130 : Fl RX8 207 130 0 (0, 0, 20) := ⟨1, 18, fs_130, RX0, TX0, rfl, rfl, by decide, rfl, by decide, rfl, cf_X0, (tbg sg1 53 rfl rfl)⟩
theorem fl_X8_211_130 : Fl RX8 211 130 4 (2, 94, 0) := ⟨1, 18, fs_130, RX0, TX0, rfl, rfl, by decide, rfl, by decide, rfl, cf_X0, (tbg sg1 60 rfl rfl)⟩
theorem fl_X8_243_130 : Fl RX8 243 130 13 (2, 95, 0) := ⟨1, 18, fs_130, RX0, TX0, rfl, rfl, by decide, rfl, by decide, rfl, cf_X0, (tbg sg1 79 rfl rfl)⟩
theorem fl_X8_74_129 : Fl RX8 74 129 19 (2, 93, 0) := ⟨9, 20, fs_129, RX8, TX8, rfl, rfl, by decide, rfl, by decide, rfl, cf_X8, (tbg sg1 192 rfl rfl)⟩
theorem fl_X8_283_136 : Fl RX8 283 136 7 (2, 122, 0) := ⟨10, 16, fs_136, RX9, TX9, rfl, rfl, by decide, rfl, by decide, rfl, cf_X9, (tbg sg3 203 rfl rfl)⟩
theorem fl_X8_309_136 : Fl RX8 309 136 4 (2, 119, 0) := ⟨10, 16, fs_136, RX9, TX9, rfl, rfl, by decide, rfl, by decide, rfl, cf_X9, (tbg sg3 190 rfl rfl)⟩
theorem fl_X8_277_136 : Fl RX8 277 136 5 (2, 121, 0) := ⟨10, 16, fs_136, RX9, TX9, rfl, rfl, by decide, rfl, by decide, rfl, cf_X9, (tbg sg3 194 rfl rfl)⟩
theorem fl_X8_208_130 : Fl RX8 208 130 10 (2, 98, 0) := ⟨1, 18, fs_130, RX0, TX0, rfl, rfl, by decide, rfl, by decide, rfl, cf_X0, (tbg sg1 72 rfl rfl)⟩
theorem fl_X8_314_130 : Fl RX8 314 130 12 (2, 95, 0) := ⟨1, 18, fs_130, RX0, TX0, rfl, rfl, by decide, rfl, by decide, rfl, cf_X0, (tbg sg1 77 rfl rfl)⟩
theorem cv_X8_317_130 : Cv RX8 317 mX0_roll 130 2 := ⟨co_X0_roll, (tbg sg5 220 rfl rfl), (tbg sg5 142 rfl rfl), 1, 18, fs_130, RX0, TX0, rfl, by decide, rfl, (tbg sg5 143 rfl rfl)⟩
theorem fl_X8_217_137 : Fl RX8 217 137 2 (0, 0, 19) := ⟨3, 7, fs_137, RX2, TX2, rfl, rfl, by decide, rfl, by decide, rfl, cf_X2, (tbg sg4 207 rfl rfl)⟩
theorem fl_X8_225_136 : Fl RX8 225 136 1 (0, 0, 3) := ⟨10, 16, fs_136, RX9, TX9, rfl, rfl, by decide, rfl, by decide, rfl, cf_X9, (tbg sg3 176 rfl rfl)⟩
theorem co_X8_choiceOf : Co mX8_choiceOf 2 := ⟨(tbg sg5 123 rfl rfl), (tbg sg1 2 rfl rfl), by decide, by decide, by decide +kernel, by decide⟩
theorem cv_X8_228_129 : Cv RX8 228 mX8_choiceOf 129 2 := ⟨co_X8_choiceOf, (tbg sg5 120 rfl rfl), (tbg sg5 121 rfl rfl), 9, 20, fs_129, RX8, TX8, rfl, by decide, rfl, (tbg sg5 122 rfl rfl)⟩
theorem fl_X8_232_136 : Fl RX8 232 136 9 (2, 124, 0) := ⟨10, 16, fs_136, RX9, TX9, rfl, rfl, by decide, rfl, by decide, rfl, cf_X9, (tbg sg3 209 rfl rfl)⟩
theorem cv_X8_255_130 : Cv RX8 255 mX0_split 130 2 := ⟨co_X0_split, (tbg sg5 153 rfl rfl), (tbg sg5 154 rfl rfl), 1, 18, fs_130, RX0, TX0, rfl, by decide, rfl, (tbg sg5 155 rfl rfl)⟩
theorem fl_X8_71_129 : Fl RX8 71 129 18 (2, 95, 0) := ⟨9, 20, fs_129, RX8, TX8, rfl, rfl, by decide, rfl, by decide, rfl, cf_X8, (tbg sg1 191 rfl rfl)⟩
theorem fl_X8_259_130 : Fl RX8 259 130 16 (2, 96, 0) := ⟨1, 18, fs_130, RX0, TX0, rfl, rfl, by decide, rfl, by decide, rfl, cf_X0, (tbg sg1 84 rfl rfl)⟩
theorem fl_X8_249_136 : Fl RX8 249 136 10 (2, 124, 0) := ⟨10, 16, fs_136, RX9, TX9, rfl, rfl, by decide, rfl, by decide, rfl, cf_X9, (tbg sg3 213 rfl rfl)⟩
theorem fl_X8_252_130 : Fl RX8 252 130 15 (2, 96, 0) := ⟨1, 18, fs_130, RX0, TX0, rfl, rfl, by decide, rfl, by decide, rfl, cf_X0, (tbg sg1 82 rfl rfl)⟩
theorem fl_X8_246_130 : Fl RX8 246 130 11 (2, 98, 0) := ⟨1, 18, fs_130, RX0, TX0, rfl, rfl, by decide, rfl, by decide, rfl, cf_X0, (tbg sg1 74 rfl rfl)⟩
theorem fl_X8_68_129 : Fl RX8 68 129 17 (2, 95, 0) := ⟨9, 20, fs_129, RX8, TX8, rfl, rfl, by decide, rfl, by decide, rfl, cf_X8, (tbg sg1 190 rfl rfl)⟩
theorem co_X8_allotTops : Co mX8_allotTops 2 := ⟨(tbg sg5 152 rfl rfl), (tbg sg1 2 rfl rfl), by decide, by decide, by decide +kernel, by decide⟩
theorem cv_X8_235_129 : Cv RX8 235 mX8_allotTops 129 2 := ⟨co_X8_allotTops, (tbg sg5 149 rfl rfl), (tbg sg5 151 rfl rfl), 9, 20, fs_129, RX8, TX8, rfl, by decide, rfl, (tbm 47 (by decide +kernel) rfl)⟩
theorem co_X9_work : Co mX9_work 0 := ⟨(tbg sg5 171 rfl rfl), (tbg sg1 17 rfl rfl), by decide, by decide, by decide +kernel, by decide⟩
theorem cv_X8_265_136 : Cv RX8 265 mX9_work 136 0 := ⟨co_X9_work, (tbg sg5 168 rfl rfl), (tbg sg5 169 rfl rfl), 10, 16, fs_136, RX9, TX9, rfl, by decide, rfl, (tbg sg5 170 rfl rfl)⟩
theorem fl_X8_268_136 : Fl RX8 268 136 0 (0, 0, 30) := ⟨10, 16, fs_136, RX9, TX9, rfl, rfl, by decide, rfl, by decide, rfl, cf_X9, (tbg sg3 170 rfl rfl)⟩
theorem co_X9_taken : Co mX9_taken 1 := ⟨(tbg sg5 208 rfl rfl), (tbg sg1 17 rfl rfl), by decide, by decide, by decide +kernel, by decide⟩
theorem cv_X8_299_136 : Cv RX8 299 mX9_taken 136 1 := ⟨co_X9_taken, (tbg sg5 205 rfl rfl), (tbg sg5 206 rfl rfl), 10, 16, fs_136, RX9, TX9, rfl, by decide, rfl, (tbg sg5 207 rfl rfl)⟩
theorem co_X8_hand : Co mX8_hand 4 := ⟨(tbg sg5 192 rfl rfl), (tbg sg1 2 rfl rfl), by decide, by decide, by decide +kernel, by decide⟩
theorem cv_X8_286_129 : Cv RX8 286 mX8_hand 129 4 := ⟨co_X8_hand, (tbg sg5 189 rfl rfl), (tbg sg5 191 rfl rfl), 9, 20, fs_129, RX8, TX8, rfl, by decide, rfl, (tbm 52 (by decide +kernel) rfl)⟩
theorem fl_X8_270_136 : Fl RX8 270 136 12 (2, 126, 0) := ⟨10, 16, fs_136, RX9, TX9, rfl, rfl, by decide, rfl, by decide, rfl, cf_X9, (tbg sg3 221 rfl rfl)⟩
theorem fl_X8_298_136 : Fl RX8 298 136 15 (2, 127, 0) := ⟨10, 16, fs_136, RX9, TX9, rfl, rfl, by decide, rfl, by decide, rfl, cf_X9, (tbg sg3 228 rfl rfl)⟩
theorem fl_X8_274_136 : Fl RX8 274 136 3 (2, 120, 0) := ⟨10, 16, fs_136, RX9, TX9, rfl, rfl, by decide, rfl, by decide, rfl, cf_X9, (tbg sg3 184 rfl rfl)⟩
theorem tl_136 (j : Nat) {t : Ty} (h : fs_136.getD j (0, 0, 0) = t) (hj : j < fs_136.length) : Tl 136 j t := ⟨10, fs_136, rfl, hj, h, by decide⟩
theorem co_X8_moveWorth : Co mX8_moveWorth 4 := ⟨(tbg sg5 203 rfl rfl), (tbg sg1 2 rfl rfl), by decide, by decide, by decide +kernel, by decide⟩
theorem cv_X8_294_129 : Cv RX8 294 mX8_moveWorth 129 4 := ⟨co_X8_moveWorth, (tbg sg5 200 rfl rfl), (tbg sg5 202 rfl rfl), 9, 20, fs_129, RX8, TX8, rfl, by decide, rfl, (tbm 54 (by decide +kernel) rfl)⟩
theorem fl_X8_280_136 : Fl RX8 280 136 14 (2, 127, 0) := ⟨10, 16, fs_136, RX9, TX9, rfl, rfl, by decide, rfl, by decide, rfl, cf_X9, (tbg sg3 225 rfl rfl)⟩
theorem co_X8_noteGiven : Co mX8_noteGiven 3 := ⟨(tbg sg5 199 rfl rfl), (tbg sg1 2 rfl rfl), by decide, by decide, by decide +kernel, by decide⟩
theorem cv_X8_290_129 : Cv RX8 290 mX8_noteGiven 129 3 := ⟨co_X8_noteGiven, (tbg sg5 196 rfl rfl), (tbg sg5 198 rfl rfl), 9, 20, fs_129, RX8, TX8, rfl, by decide, rfl, (tbm 53 (by decide +kernel) rfl)⟩
theorem fl_X8_262_136 : Fl RX8 262 136 11 (2, 125, 0) := ⟨10, 16, fs_136, RX9, TX9, rfl, rfl, by decide, rfl, by decide, rfl, cf_X9, (tbg sg3 217 rfl rfl)⟩
theorem co_X8_sortShares : Co mX8_sortShares 2 := ⟨(tbg sg5 119 rfl rfl), (tbg sg1 2 rfl rfl), by decide, by decide, by decide +kernel, by decide⟩
theorem cv_X8_197_129 : Cv RX8 197 mX8_sortShares 129 2 := ⟨co_X8_sortShares, (tbg sg5 116 rfl rfl), (tbg sg5 118 rfl rfl), 9, 20, fs_129, RX8, TX8, rfl, by decide, rfl, (tbm 44 (by decide +kernel) rfl)⟩
theorem co_X0_rollRows : Co mX0_rollRows 0 := ⟨(tbg sg5 140 rfl rfl), (tbg sg1 3 rfl rfl), by decide, by decide, by decide +kernel, by decide⟩
theorem cv_X8_200_130 : Cv RX8 200 mX0_rollRows 130 0 := ⟨co_X0_rollRows, (tbg sg5 137 rfl rfl), (tbg sg5 138 rfl rfl), 1, 18, fs_130, RX0, TX0, rfl, by decide, rfl, (tbg sg5 139 rfl rfl)⟩
theorem co_X8_cutBack : Co mX8_cutBack 1 := ⟨(tbg sg5 148 rfl rfl), (tbg sg1 2 rfl rfl), by decide, by decide, by decide +kernel, by decide⟩
theorem cv_X8_203_129 : Cv RX8 203 mX8_cutBack 129 1 := ⟨co_X8_cutBack, (tbg sg5 145 rfl rfl), (tbg sg5 147 rfl rfl), 9, 20, fs_129, RX8, TX8, rfl, by decide, rfl, (tbm 46 (by decide +kernel) rfl)⟩
theorem co_X8_moveLeftWorth : Co mX8_moveLeftWorth 1 := ⟨(tbg sg5 215 rfl rfl), (tbg sg1 2 rfl rfl), by decide, by decide, by decide +kernel, by decide⟩
theorem cv_X8_218_129 : Cv RX8 218 mX8_moveLeftWorth 129 1 := ⟨co_X8_moveLeftWorth, (tbg sg5 212 rfl rfl), (tbg sg5 214 rfl rfl), 9, 20, fs_129, RX8, TX8, rfl, by decide, rfl, (tbm 55 (by decide +kernel) rfl)⟩
theorem co_X8_watch : Co mX8_watch 0 := ⟨(tbg sg5 219 rfl rfl), (tbg sg1 2 rfl rfl), by decide, by decide, by decide +kernel, by decide⟩
theorem cv_X8_222_129 : Cv RX8 222 mX8_watch 129 0 := ⟨co_X8_watch, (tbg sg5 216 rfl rfl), (tbg sg5 218 rfl rfl), 9, 20, fs_129, RX8, TX8, rfl, by decide, rfl, (tbm 56 (by decide +kernel) rfl)⟩
theorem co_X8_serve : Co mX8_serve 2 := ⟨(tbg sg5 167 rfl rfl), (tbg sg1 2 rfl rfl), by decide, by decide, by decide +kernel, by decide⟩
theorem cv_X8_214_129 : Cv RX8 214 mX8_serve 129 2 := ⟨co_X8_serve, (tbg sg5 164 rfl rfl), (tbg sg5 166 rfl rfl), 9, 20, fs_129, RX8, TX8, rfl, by decide, rfl, (tbm 48 (by decide +kernel) rfl)⟩
theorem fl_X8_39_129 : Fl RX8 39 129 8 (2, 117, 0) := ⟨9, 20, fs_129, RX8, TX8, rfl, rfl, by decide, rfl, by decide, rfl, cf_X8, (tbg sg1 169 rfl rfl)⟩
theorem al_117 : Al 117 4 16 (2, 116, 0) := ⟨rfl, by decide, by decide⟩
theorem al_116 : Al 116 1 60 (1, (-9223372036854775808), 9223372036854775807) := ⟨rfl, by decide, by decide⟩
theorem co_X8_restart : Co mX8_restart 0 := ⟨(tbg sg5 83 rfl rfl), (tbg sg1 2 rfl rfl), by decide, by decide, by decide +kernel, by decide⟩
theorem cv_X8_84_129 : Cv RX8 84 mX8_restart 129 0 := ⟨co_X8_restart, (tbg sg5 80 rfl rfl), (tbg sg5 82 rfl rfl), 9, 20, fs_129, RX8, TX8, rfl, by decide, rfl, (tbm 39 (by decide +kernel) rfl)⟩
theorem tl_129 (j : Nat) {t : Ty} (h : fs_129.getD j (0, 0, 0) = t) (hj : j < fs_129.length) : Tl 129 j t := ⟨9, fs_129, rfl, hj, h, by decide⟩
theorem co_X8_dayAt : Co mX8_dayAt 1 := ⟨(tbg sg5 79 rfl rfl), (tbg sg1 2 rfl rfl), by decide, by decide, by decide +kernel, by decide⟩
theorem cv_X8_80_129 : Cv RX8 80 mX8_dayAt 129 1 := ⟨co_X8_dayAt, (tbg sg5 76 rfl rfl), (tbg sg5 78 rfl rfl), 9, 20, fs_129, RX8, TX8, rfl, by decide, rfl, (tbm 38 (by decide +kernel) rfl)⟩
theorem co_X8_runEvent : Co mX8_runEvent 2 := ⟨(tbg sg5 115 rfl rfl), (tbg sg1 2 rfl rfl), by decide, by decide, by decide +kernel, by decide⟩
theorem cv_X8_113_129 : Cv RX8 113 mX8_runEvent 129 2 := ⟨co_X8_runEvent, (tbg sg5 112 rfl rfl), (tbg sg5 114 rfl rfl), 9, 20, fs_129, RX8, TX8, rfl, by decide, rfl, (tbm 43 (by decide +kernel) rfl)⟩
theorem co_X8_runTrade : Co mX8_runTrade 2 := ⟨(tbg sg5 111 rfl rfl), (tbg sg1 2 rfl rfl), by decide, by decide, by decide +kernel, by decide⟩
theorem cv_X8_107_129 : Cv RX8 107 mX8_runTrade 129 2 := ⟨co_X8_runTrade, (tbg sg5 108 rfl rfl), (tbg sg5 110 rfl rfl), 9, 20, fs_129, RX8, TX8, rfl, by decide, rfl, (tbm 42 (by decide +kernel) rfl)⟩
theorem co_X8_runIssue : Co mX8_runIssue 1 := ⟨(tbg sg5 107 rfl rfl), (tbg sg1 2 rfl rfl), by decide, by decide, by decide +kernel, by decide⟩
theorem cv_X8_103_129 : Cv RX8 103 mX8_runIssue 129 1 := ⟨co_X8_runIssue, (tbg sg5 104 rfl rfl), (tbg sg5 106 rfl rfl), 9, 20, fs_129, RX8, TX8, rfl, by decide, rfl, (tbm 41 (by decide +kernel) rfl)⟩
set_option maxRecDepth 100000 in
set_option maxHeartbeats 4000000 in
theorem c_X8_dayAt (E : En) (S : Sg) (G : Gh) (this : Int) (at_ : Int) (hS : S this = 129) (at__a : 0 ≤ at_) (at__b : at_ ≤ 95) : Calls E mX8_dayAt [(2, this), (0, at_)] S G 0 0 0 (fun r S' G' => S = S' ∧ G = G' ∧ ∃ z : Int, r = some (0, z) ∧ 0 ≤ z ∧ z ≤ 40000) := by
  refine calls_by [(0, (2, this)), (1, (0, at_))] rfl rfl (Nat.le_of_ble_eq_true rfl) (fun X hX => ?_)
  have hP := hPX8_dayAt
  refine r_ex hX hP 1 (pc' := 1) (st' := [(2, this)]) (lo' := [(0, (2, this)), (1, (0, at_))]) rfl ?_
  refine r_getR hX hP rfl fl_X8_65_129 hS (fun of1 of1e of1s => ?_)
  refine r_ex hX hP 1 (pc' := 5) (st' := [(0, at_), (2, of1)]) (lo' := [(0, (2, this)), (1, (0, at_))]) rfl ?_
  refine r_iald hX hP rfl al_118 of1s (by first | decide | omega) (by first | decide | omega) (fun x2 x2e x2a x2b => ?_)
  refine r_ex hX hP 1 (pc' := 9) (st' := [(0, 256), (0, x2)]) (lo' := [(0, (2, this)), (1, (0, at_))]) rfl ?_
  refine r_idiv hX hP rfl (by first | decide | omega) (by first | decide | omega) (by first | decide | omega) (by first | decide | omega) (by first | decide | omega) ?_
  obtain ⟨q3, q3e⟩ : ∃ q : Int, q = (Int.tdiv x2 256) := ⟨_, rfl⟩
  rw [← q3e]
  have q3b := td_pos q3e (by first | decide | omega) (by first | decide | omega)
  exact r_retI hX hP rfl rfl (by first | decide | omega) (by first | decide | omega) ⟨rfl, rfl, q3, rfl, (by first | decide | omega)⟩
set_option maxRecDepth 100000 in
set_option maxHeartbeats 4000000 in
theorem c_X8_inTime (E : En) (S : Sg) (G : Gh) (this : Int) (pick : Int) (last : Int) (hS : S this = 129) (pick_s : S pick = 138) (last_a : (-2147483648) ≤ last) (last_b : last ≤ 2147483647) : Calls E mX8_inTime [(2, this), (2, pick), (0, last)] S G 1 0 0 (fun r S' G' => S = S' ∧ G = G' ∧ ∃ z : Int, r = some (0, z) ∧ 0 ≤ z ∧ z ≤ 1) := by
  refine calls_by [(0, (2, this)), (1, (2, pick)), (2, (0, last))] rfl rfl (Nat.le_of_ble_eq_true rfl) (fun X hX => ?_)
  have hP := hPX8_inTime
  refine r_ex hX hP 1 (pc' := 1) (st' := [(2, pick)]) (lo' := [(0, (2, this)), (1, (2, pick)), (2, (0, last))]) rfl ?_
  refine r_getI hX hP rfl fl_X8_156_138 pick_s (fun df1 df1e df1a df1b => ?_)
  refine r_ex hX hP 1 (pc' := 5) (st' := [(2, this), (0, df1)]) (lo' := [(0, (2, this)), (1, (2, pick)), (2, (0, last))]) rfl ?_
  refine r_getR hX hP rfl fl_X8_45_129 hS (fun af2 af2e af2s => ?_)
  refine r_getR hX hP rfl fl_X8_159_130 af2s (fun df3 df3e df3s => ?_)
  refine r_ex hX hP 1 (pc' := 12) (st' := [(2, this), (2, df3), (0, df1)]) (lo' := [(0, (2, this)), (1, (2, pick)), (2, (0, last))]) rfl ?_
  refine r_getKR hX hP rfl fl_X8_45_129 hS (x := af2) af2e ?_
  refine r_ex hX hP 1 (pc' := 16) (st' := [(2, pick), (2, af2), (2, df3), (0, df1)]) (lo' := [(0, (2, this)), (1, (2, pick)), (2, (0, last))]) rfl ?_
  refine r_getI hX hP rfl fl_X8_162_138 pick_s (fun af4 af4e af4a af4b => ?_)
  refine r_callV gd hX hP rfl cv_X8_165_130 af2s (d' := 0) (mc' := 0) (ms' := 0) (as' := [(0, af4)]) (st := [(2, df3), (0, df1)]) (by first | decide | omega) (by first | decide | omega) (by first | decide | omega) rfl rfl (Nat.le_of_ble_eq_true rfl) (c_X0_firstHand E S G af2 af4 af2s (by first | decide | omega) (by first | decide | omega)) ?_
  rintro _ _ _ ⟨rfl, rfl, z5, rfl, z5a, z5b⟩
  refine r_iald hX hP rfl al_94 df3s (by first | decide | omega) (by first | decide | omega) (fun x6 x6e x6a x6b => ?_)
  refine r_ex hX hP 1 (pc' := 24) (st' := [(0, (df1 + x6))]) (lo' := [(0, (2, this)), (1, (2, pick)), (2, (0, last))]) rfl ?_
  refine r_hvI hX (fun w7 w7a w7b w7e => ?_)
  refine r_ex hX hP 1 (pc' := 25) (st' := [(0, last), (0, w7)]) (lo' := [(0, (2, this)), (1, (2, pick)), (2, (0, last))]) rfl ?_
  refine r_ic_gt hX hP rfl (tgt := 32) rfl (by first | decide | omega) (by first | decide | omega) (by first | decide | omega) (by first | decide | omega) (fun c8 => ?_) (fun c8 => ?_)
  · skip
    refine r_ex hX hP 1 (pc' := 33) (st' := [(0, 0)]) (lo' := [(0, (2, this)), (1, (2, pick)), (2, (0, last))]) rfl ?_
    exact r_retZ hX hP rfl rfl (by first | decide | omega) (by first | decide | omega) (by first | decide | omega) (by first | decide | omega) ⟨rfl, rfl, 0, rfl, (by first | decide | omega)⟩
  · skip
    refine r_ex hX hP 2 (pc' := 33) (st' := [(0, 1)]) (lo' := [(0, (2, this)), (1, (2, pick)), (2, (0, last))]) rfl ?_
    exact r_retZ hX hP rfl rfl (by first | decide | omega) (by first | decide | omega) (by first | decide | omega) (by first | decide | omega) ⟨rfl, rfl, 1, rfl, (by first | decide | omega)⟩
set_option maxRecDepth 100000 in
set_option maxHeartbeats 4000000 in
theorem c_X8_choiceOf (E : En) (S : Sg) (G : Gh) (this : Int) (event : Int) (account : Int) (hS : S this = 129) (evl : Int) (evl_e : evl = G 129 this 12) (evl_s : S evl = 156) (evn : Int) (evn_e : evn = G 156 evl 2) (event_a : 0 ≤ event) (event_b : event ≤ 15) (account_a : (-2147483648) ≤ account) (account_b : account ≤ 2147483647) (pre0 : event + 1 ≤ evn) (ci : CI E S G) : Calls E mX8_choiceOf [(2, this), (0, event), (0, account)] S G 3 0 0 (fun r S' G' => S = S' ∧ G = G' ∧ ∃ z : Int, r = some (0, z) ∧ (-1) ≤ z ∧ z ≤ 2) := by
  refine calls_by [(0, (2, this)), (1, (0, event)), (2, (0, account))] rfl rfl (Nat.le_of_ble_eq_true rfl) (fun X hX => ?_)
  have hP := hPX8_choiceOf
  refine r_peekI hX (tl_156 2 rfl (by decide)) evl_s (fun evn_o evn_oe evn_oa evn_ob => ?_)
  obtain rfl : evn = evn_o := evn_e.trans evn_oe.symm
  refine r_ex hX hP 1 (pc' := 1) (st' := [(2, this)]) (lo' := [(0, (2, this)), (1, (0, event)), (2, (0, account))]) rfl ?_
  refine r_getKR hX hP rfl fl_X8_59_129 hS (x := evl) evl_e ?_
  refine r_ex hX hP 1 (pc' := 5) (st' := [(0, event), (2, evl)]) (lo' := [(0, (2, this)), (1, (0, event)), (2, (0, account))]) rfl ?_
  refine r_callV gd hX hP rfl cv_X8_97_156 evl_s (d' := 2) (mc' := 0) (ms' := 0) (as' := [(0, event)]) (st := []) (by first | decide | omega) (by first | decide | omega) (by first | decide | omega) rfl rfl (Nat.le_of_ble_eq_true rfl) (c_get_Lev E S G evl event evl_s evn evn_e (by first | decide | omega) (by first | decide | omega) (by first | decide | omega) ci) ?_
  rintro _ _ _ ⟨rfl, rfl, z1, rfl, z1s⟩
  refine r_cast hX hP rfl (tbg sg5 103 rfl rfl) ck_137_X2 z1s ?_
  refine r_ex hX hP 2 (pc' := 13) (st' := [(2, z1)]) (lo' := [(0, (2, this)), (1, (0, event)), (2, (0, account)), (3, (2, z1))]) rfl ?_
  refine r_getR hX hP rfl fl_X8_168_137 z1s (fun tf2 tf2e tf2s => ?_)
  refine r_getI hX hP rfl fl_X8_172_136 tf2s (fun ff3 ff3e ff3a ff3b => ?_)
  refine r_ex hX hP 5 (pc' := 27) (st' := []) (lo' := [(0, (2, this)), (1, (0, event)), (2, (0, account)), (3, (2, z1)), (4, (0, ff3)), (5, (0, (-1))), (6, (0, 0))]) rfl ?_
  have loop27 : ∀ (nF : Nat) (l4_h27 l5_h27 l6_h27 : Int), (-1) ≤ l4_h27 → l4_h27 ≤ 2 → (-2147483648) ≤ l5_h27 → l5_h27 ≤ 2147483647 → 0 ≤ l6_h27 → l6_h27 ≤ 60 → 60 - l6_h27 < (nF : Int) → X 0 0 27 [] [(0, (2, this)), (1, (0, event)), (2, (0, account)), (3, (2, z1)), (4, (0, l4_h27)), (5, (0, l5_h27)), (6, (0, l6_h27))] S G := by
    intro nF
    induction nF with
    | zero => intro l4_h27 l5_h27 l6_h27 yh27_0 yh27_1 yh27_2 yh27_3 yh27_4 yh27_5 ym27; exfalso; omega
    | succ nF ih27 =>
      intro l4_h27 l5_h27 l6_h27 yh27_0 yh27_1 yh27_2 yh27_3 yh27_4 yh27_5 ym27
      refine r_ex hX hP 2 (pc' := 30) (st' := [(2, this), (0, l6_h27)]) (lo' := [(0, (2, this)), (1, (0, event)), (2, (0, account)), (3, (2, z1)), (4, (0, l4_h27)), (5, (0, l5_h27)), (6, (0, l6_h27))]) rfl ?_
      refine r_getR hX hP rfl fl_X8_62_129 hS (fun pf4 pf4e pf4s => ?_)
      refine r_peekI hX (tl_157 2 rfl (by decide)) pf4s (fun sip5 sip5e sip5a sip5b => ?_)
      refine r_callV gd hX hP rfl cv_X8_93_157 pf4s (d' := 0) (mc' := 0) (ms' := 0) (as' := []) (st := [(0, l6_h27)]) (by first | decide | omega) (by first | decide | omega) (by first | decide | omega) rfl rfl (Nat.le_of_ble_eq_true rfl) (c_size_Lpi E S G pf4  pf4s sip5 sip5e) ?_
      rintro _ _ _ ⟨rfl, rfl, z6, rfl, z6a, z6b, f7⟩
      refine r_ic_ge hX hP rfl (tgt := 138) rfl (by first | decide | omega) (by first | decide | omega) (by first | decide | omega) (by first | decide | omega) (fun c8 => ?_) (fun c8 => ?_)
      · skip
        refine r_ex hX hP 1 (pc' := 140) (st' := [(0, l4_h27)]) (lo' := [(0, (2, this)), (1, (0, event)), (2, (0, account)), (3, (2, z1)), (4, (0, l4_h27)), (5, (0, l5_h27)), (6, (0, l6_h27))]) rfl ?_
        exact r_retI hX hP rfl rfl (by first | decide | omega) (by first | decide | omega) ⟨rfl, rfl, l4_h27, rfl, (by first | decide | omega)⟩
      · skip
        refine r_ex hX hP 1 (pc' := 40) (st' := [(2, this)]) (lo' := [(0, (2, this)), (1, (0, event)), (2, (0, account)), (3, (2, z1)), (4, (0, l4_h27)), (5, (0, l5_h27)), (6, (0, l6_h27))]) rfl ?_
        refine r_getKR hX hP rfl fl_X8_62_129 hS (x := pf4) pf4e ?_
        refine r_ex hX hP 1 (pc' := 45) (st' := [(0, l6_h27), (2, pf4)]) (lo' := [(0, (2, this)), (1, (0, event)), (2, (0, account)), (3, (2, z1)), (4, (0, l4_h27)), (5, (0, l5_h27)), (6, (0, l6_h27))]) rfl ?_
        refine r_callV gd hX hP rfl cv_X8_97_157 pf4s (d' := 2) (mc' := 0) (ms' := 0) (as' := [(0, l6_h27)]) (st := []) (by first | decide | omega) (by first | decide | omega) (by first | decide | omega) rfl rfl (Nat.le_of_ble_eq_true rfl) (c_get_Lpi E S G pf4 l6_h27 pf4s sip5 sip5e (by first | decide | omega) (by first | decide | omega) (by first | decide | omega) ci) ?_
        rintro _ _ _ ⟨rfl, rfl, z9, rfl, z9s⟩
        refine r_cast hX hP rfl (tbg sg5 124 rfl rfl) ck_138_X5 z9s ?_
        refine r_ex hX hP 2 (pc' := 55) (st' := [(2, z9)]) (lo' := [(0, (2, this)), (1, (0, event)), (2, (0, account)), (3, (2, z1)), (4, (0, l4_h27)), (5, (0, l5_h27)), (6, (0, l6_h27)), (7, (2, z9))]) rfl ?_
        refine r_getI hX hP rfl fl_X8_177_138 z9s (fun ef10 ef10e ef10a ef10b => ?_)
        have pk11 := ci_pk ci z9s evl_s ef10e evn_e
        refine r_ex hX hP 1 (pc' := 59) (st' := [(0, event), (0, ef10)]) (lo' := [(0, (2, this)), (1, (0, event)), (2, (0, account)), (3, (2, z1)), (4, (0, l4_h27)), (5, (0, l5_h27)), (6, (0, l6_h27)), (7, (2, z9))]) rfl ?_
        refine r_ic_ne hX hP rfl (tgt := 87) rfl (by first | decide | omega) (by first | decide | omega) (by first | decide | omega) (by first | decide | omega) (fun c12 => ?_) (fun c12 => ?_)
        · skip
          refine r_ex hX hP 3 (pc' := 92) (st' := [(0, 0)]) (lo' := [(0, (2, this)), (1, (0, event)), (2, (0, account)), (3, (2, z1)), (4, (0, l4_h27)), (5, (0, l5_h27)), (6, (0, l6_h27)), (7, (2, z9)), (8, (0, 0))]) rfl ?_
          refine r_if_eq hX hP rfl (tgt := 132) rfl (by first | decide | omega) (by first | decide | omega) (fun c13 => ?_) (fun c13 => ?_)
          · skip
            refine r_ex hX hP 2 (pc' := 27) (st' := []) (lo' := [(0, (2, this)), (1, (0, event)), (2, (0, account)), (3, (2, z1)), (4, (0, l4_h27)), (5, (0, l5_h27)), (6, (0, (l6_h27 + 1))), (7, (2, z9)), (8, (0, 0))]) rfl ?_
            refine r_pick hX [0, 1, 2, 3, 4, 5, 6] (lo' := [(0, (2, this)), (1, (0, event)), (2, (0, account)), (3, (2, z1)), (4, (0, l4_h27)), (5, (0, l5_h27)), (6, (0, (l6_h27 + 1)))]) rfl ?_
            exact ih27 l4_h27 l5_h27 (l6_h27 + 1) (by first | decide | omega) (by first | decide | omega) (by first | decide | omega) (by first | decide | omega) (by first | decide | omega) (by first | decide | omega) (by first | decide | omega)
          · skip
            exfalso; omega
        · skip
          refine r_ex hX hP 1 (pc' := 64) (st' := [(2, z9)]) (lo' := [(0, (2, this)), (1, (0, event)), (2, (0, account)), (3, (2, z1)), (4, (0, l4_h27)), (5, (0, l5_h27)), (6, (0, l6_h27)), (7, (2, z9))]) rfl ?_
          refine r_getI hX hP rfl fl_X8_162_138 z9s (fun af14 af14e af14a af14b => ?_)
          refine r_ex hX hP 1 (pc' := 68) (st' := [(0, account), (0, af14)]) (lo' := [(0, (2, this)), (1, (0, event)), (2, (0, account)), (3, (2, z1)), (4, (0, l4_h27)), (5, (0, l5_h27)), (6, (0, l6_h27)), (7, (2, z9))]) rfl ?_
          refine r_ic_ne hX hP rfl (tgt := 87) rfl (by first | decide | omega) (by first | decide | omega) (by first | decide | omega) (by first | decide | omega) (fun c15 => ?_) (fun c15 => ?_)
          · skip
            refine r_ex hX hP 3 (pc' := 92) (st' := [(0, 0)]) (lo' := [(0, (2, this)), (1, (0, event)), (2, (0, account)), (3, (2, z1)), (4, (0, l4_h27)), (5, (0, l5_h27)), (6, (0, l6_h27)), (7, (2, z9)), (8, (0, 0))]) rfl ?_
            refine r_if_eq hX hP rfl (tgt := 132) rfl (by first | decide | omega) (by first | decide | omega) (fun c16 => ?_) (fun c16 => ?_)
            · skip
              refine r_ex hX hP 2 (pc' := 27) (st' := []) (lo' := [(0, (2, this)), (1, (0, event)), (2, (0, account)), (3, (2, z1)), (4, (0, l4_h27)), (5, (0, l5_h27)), (6, (0, (l6_h27 + 1))), (7, (2, z9)), (8, (0, 0))]) rfl ?_
              refine r_pick hX [0, 1, 2, 3, 4, 5, 6] (lo' := [(0, (2, this)), (1, (0, event)), (2, (0, account)), (3, (2, z1)), (4, (0, l4_h27)), (5, (0, l5_h27)), (6, (0, (l6_h27 + 1)))]) rfl ?_
              exact ih27 l4_h27 l5_h27 (l6_h27 + 1) (by first | decide | omega) (by first | decide | omega) (by first | decide | omega) (by first | decide | omega) (by first | decide | omega) (by first | decide | omega) (by first | decide | omega)
            · skip
              exfalso; omega
          · skip
            refine r_ex hX hP 2 (pc' := 74) (st' := [(2, this), (2, z9)]) (lo' := [(0, (2, this)), (1, (0, event)), (2, (0, account)), (3, (2, z1)), (4, (0, l4_h27)), (5, (0, l5_h27)), (6, (0, l6_h27)), (7, (2, z9))]) rfl ?_
            refine r_getI hX hP rfl fl_X8_10_129 hS (fun af17 af17e af17a af17b => ?_)
            refine r_callU gd hX hP rfl cu_X8_180_138 z9s (d' := 0) (mc' := 0) (ms' := 0) (as' := [(0, af17)]) (st := []) (by first | decide | omega) (by first | decide | omega) (by first | decide | omega) rfl rfl (Nat.le_of_ble_eq_true rfl) (c_counts_Pck E S G z9 af17 z9s (by first | decide | omega) (by first | decide | omega)) ?_
            rintro _ _ _ ⟨rfl, rfl, z18, rfl, z18a, z18b⟩
            refine r_if_eq hX hP rfl (tgt := 87) rfl (by first | decide | omega) (by first | decide | omega) (fun c19 => ?_) (fun c19 => ?_)
            · skip
              refine r_ex hX hP 3 (pc' := 92) (st' := [(0, 0)]) (lo' := [(0, (2, this)), (1, (0, event)), (2, (0, account)), (3, (2, z1)), (4, (0, l4_h27)), (5, (0, l5_h27)), (6, (0, l6_h27)), (7, (2, z9)), (8, (0, 0))]) rfl ?_
              refine r_if_eq hX hP rfl (tgt := 132) rfl (by first | decide | omega) (by first | decide | omega) (fun c20 => ?_) (fun c20 => ?_)
              · skip
                refine r_ex hX hP 2 (pc' := 27) (st' := []) (lo' := [(0, (2, this)), (1, (0, event)), (2, (0, account)), (3, (2, z1)), (4, (0, l4_h27)), (5, (0, l5_h27)), (6, (0, (l6_h27 + 1))), (7, (2, z9)), (8, (0, 0))]) rfl ?_
                refine r_pick hX [0, 1, 2, 3, 4, 5, 6] (lo' := [(0, (2, this)), (1, (0, event)), (2, (0, account)), (3, (2, z1)), (4, (0, l4_h27)), (5, (0, l5_h27)), (6, (0, (l6_h27 + 1)))]) rfl ?_
                exact ih27 l4_h27 l5_h27 (l6_h27 + 1) (by first | decide | omega) (by first | decide | omega) (by first | decide | omega) (by first | decide | omega) (by first | decide | omega) (by first | decide | omega) (by first | decide | omega)
              · skip
                exfalso; omega
            · skip
              refine r_ex hX hP 4 (pc' := 92) (st' := [(0, 1)]) (lo' := [(0, (2, this)), (1, (0, event)), (2, (0, account)), (3, (2, z1)), (4, (0, l4_h27)), (5, (0, l5_h27)), (6, (0, l6_h27)), (7, (2, z9)), (8, (0, 1))]) rfl ?_
              refine r_if_eq hX hP rfl (tgt := 132) rfl (by first | decide | omega) (by first | decide | omega) (fun c21 => ?_) (fun c21 => ?_)
              · skip
                exfalso; omega
              · skip
                refine r_ex hX hP 1 (pc' := 97) (st' := [(2, z9)]) (lo' := [(0, (2, this)), (1, (0, event)), (2, (0, account)), (3, (2, z1)), (4, (0, l4_h27)), (5, (0, l5_h27)), (6, (0, l6_h27)), (7, (2, z9)), (8, (0, 1))]) rfl ?_
                refine r_getI hX hP rfl fl_X8_156_138 z9s (fun df22 df22e df22a df22b => ?_)
                refine r_ex hX hP 1 (pc' := 102) (st' := [(0, l5_h27), (0, df22)]) (lo' := [(0, (2, this)), (1, (0, event)), (2, (0, account)), (3, (2, z1)), (4, (0, l4_h27)), (5, (0, l5_h27)), (6, (0, l6_h27)), (7, (2, z9)), (8, (0, 1))]) rfl ?_
                refine r_ic_lt hX hP rfl (tgt := 132) rfl (by first | decide | omega) (by first | decide | omega) (by first | decide | omega) (by first | decide | omega) (fun c23 => ?_) (fun c23 => ?_)
                · skip
                  refine r_ex hX hP 2 (pc' := 27) (st' := []) (lo' := [(0, (2, this)), (1, (0, event)), (2, (0, account)), (3, (2, z1)), (4, (0, l4_h27)), (5, (0, l5_h27)), (6, (0, (l6_h27 + 1))), (7, (2, z9)), (8, (0, 1))]) rfl ?_
                  refine r_pick hX [0, 1, 2, 3, 4, 5, 6] (lo' := [(0, (2, this)), (1, (0, event)), (2, (0, account)), (3, (2, z1)), (4, (0, l4_h27)), (5, (0, l5_h27)), (6, (0, (l6_h27 + 1)))]) rfl ?_
                  exact ih27 l4_h27 l5_h27 (l6_h27 + 1) (by first | decide | omega) (by first | decide | omega) (by first | decide | omega) (by first | decide | omega) (by first | decide | omega) (by first | decide | omega) (by first | decide | omega)
                · skip
                  refine r_ex hX hP 3 (pc' := 109) (st' := [(2, z1), (2, z9), (2, this)]) (lo' := [(0, (2, this)), (1, (0, event)), (2, (0, account)), (3, (2, z1)), (4, (0, l4_h27)), (5, (0, l5_h27)), (6, (0, l6_h27)), (7, (2, z9)), (8, (0, 1))]) rfl ?_
                  refine r_getI hX hP rfl fl_X8_181_137 z1s (fun lf24 lf24e lf24a lf24b => ?_)
                  refine r_callV gd hX hP rfl cv_X8_184_129 hS (d' := 1) (mc' := 0) (ms' := 0) (as' := [(2, z9), (0, lf24)]) (st := []) (by first | decide | omega) (by first | decide | omega) (by first | decide | omega) rfl rfl (Nat.le_of_ble_eq_true rfl) (c_X8_inTime E S G this z9 lf24 hS z9s (by first | decide | omega) (by first | decide | omega)) ?_
                  rintro _ _ _ ⟨rfl, rfl, z25, rfl, z25a, z25b⟩
                  refine r_if_eq hX hP rfl (tgt := 132) rfl (by first | decide | omega) (by first | decide | omega) (fun c26 => ?_) (fun c26 => ?_)
                  · skip
                    refine r_ex hX hP 2 (pc' := 27) (st' := []) (lo' := [(0, (2, this)), (1, (0, event)), (2, (0, account)), (3, (2, z1)), (4, (0, l4_h27)), (5, (0, l5_h27)), (6, (0, (l6_h27 + 1))), (7, (2, z9)), (8, (0, 1))]) rfl ?_
                    refine r_pick hX [0, 1, 2, 3, 4, 5, 6] (lo' := [(0, (2, this)), (1, (0, event)), (2, (0, account)), (3, (2, z1)), (4, (0, l4_h27)), (5, (0, l5_h27)), (6, (0, (l6_h27 + 1)))]) rfl ?_
                    exact ih27 l4_h27 l5_h27 (l6_h27 + 1) (by first | decide | omega) (by first | decide | omega) (by first | decide | omega) (by first | decide | omega) (by first | decide | omega) (by first | decide | omega) (by first | decide | omega)
                  · skip
                    refine r_ex hX hP 1 (pc' := 120) (st' := [(2, z9)]) (lo' := [(0, (2, this)), (1, (0, event)), (2, (0, account)), (3, (2, z1)), (4, (0, l4_h27)), (5, (0, l5_h27)), (6, (0, l6_h27)), (7, (2, z9)), (8, (0, 1))]) rfl ?_
                    refine r_getKI hX hP rfl fl_X8_156_138 z9s (x := df22) df22e ?_
                    refine r_ex hX hP 2 (pc' := 127) (st' := [(2, z9)]) (lo' := [(0, (2, this)), (1, (0, event)), (2, (0, account)), (3, (2, z1)), (4, (0, l4_h27)), (5, (0, df22)), (6, (0, l6_h27)), (7, (2, z9)), (8, (0, 1))]) rfl ?_
                    refine r_getI hX hP rfl fl_X8_188_138 z9s (fun cf27 cf27e cf27a cf27b => ?_)
                    refine r_ex hX hP 3 (pc' := 27) (st' := []) (lo' := [(0, (2, this)), (1, (0, event)), (2, (0, account)), (3, (2, z1)), (4, (0, cf27)), (5, (0, df22)), (6, (0, (l6_h27 + 1))), (7, (2, z9)), (8, (0, 1))]) rfl ?_
                    refine r_pick hX [0, 1, 2, 3, 4, 5, 6] (lo' := [(0, (2, this)), (1, (0, event)), (2, (0, account)), (3, (2, z1)), (4, (0, cf27)), (5, (0, df22)), (6, (0, (l6_h27 + 1)))]) rfl ?_
                    exact ih27 cf27 df22 (l6_h27 + 1) (by first | decide | omega) (by first | decide | omega) (by first | decide | omega) (by first | decide | omega) (by first | decide | omega) (by first | decide | omega) (by first | decide | omega)
  exact loop27 ((60 - 0) + 1 : Int).toNat ff3 (-1) 0 (by first | decide | omega) (by first | decide | omega) (by first | decide | omega) (by first | decide | omega) (by first | decide | omega) (by first | decide | omega) (by first | decide | omega)
set_option maxRecDepth 100000 in
set_option maxHeartbeats 4000000 in
theorem c_X8_bearerOf (E : En) (S : Sg) (G : Gh) (this : Int) (pick : Int) (hS : S this = 129) (pick_s : S pick = 138) (ci : CI E S G) : Calls E mX8_bearerOf [(2, this), (2, pick)] S G 3 0 0 (fun r S' G' => S = S' ∧ G = G' ∧ ∃ z : Int, r = some (0, z) ∧ (-1) ≤ z ∧ z ≤ 19) := by
  refine calls_by [(0, (2, this)), (1, (2, pick))] rfl rfl (Nat.le_of_ble_eq_true rfl) (fun X hX => ?_)
  have hP := hPX8_bearerOf
  refine r_ex hX hP 1 (pc' := 1) (st' := [(2, this)]) (lo' := [(0, (2, this)), (1, (2, pick))]) rfl ?_
  refine r_getR hX hP rfl fl_X8_59_129 hS (fun ef1 ef1e ef1s => ?_)
  refine r_ex hX hP 1 (pc' := 5) (st' := [(2, pick), (2, ef1)]) (lo' := [(0, (2, this)), (1, (2, pick))]) rfl ?_
  refine r_getI hX hP rfl fl_X8_177_138 pick_s (fun ef2 ef2e ef2a ef2b => ?_)
  refine r_peekI hX (tl_156 2 rfl (by decide)) ef1s (fun sip3 sip3e sip3a sip3b => ?_)
  have pk4 := ci_pk ci pick_s ef1s ef2e sip3e
  refine r_callV gd hX hP rfl cv_X8_97_156 ef1s (d' := 2) (mc' := 0) (ms' := 0) (as' := [(0, ef2)]) (st := []) (by first | decide | omega) (by first | decide | omega) (by first | decide | omega) rfl rfl (Nat.le_of_ble_eq_true rfl) (c_get_Lev E S G ef1 ef2 ef1s sip3 sip3e (by first | decide | omega) (by first | decide | omega) (by first | decide | omega) ci) ?_
  rintro _ _ _ ⟨rfl, rfl, z5, rfl, z5s⟩
  refine r_cast hX hP rfl (tbg sg5 103 rfl rfl) ck_137_X2 z5s ?_
  refine r_getI hX hP rfl fl_X8_181_137 z5s (fun lf6 lf6e lf6a lf6b => ?_)
  refine r_ex hX hP 2 (pc' := 19) (st' := [(2, pick)]) (lo' := [(0, (2, this)), (1, (2, pick)), (2, (0, lf6))]) rfl ?_
  refine r_getI hX hP rfl fl_X8_156_138 pick_s (fun df7 df7e df7a df7b => ?_)
  refine r_ex hX hP 2 (pc' := 24) (st' := [(2, this), (0, lf6), (0, df7)]) (lo' := [(0, (2, this)), (1, (2, pick)), (2, (0, lf6))]) rfl ?_
  refine r_getR hX hP rfl fl_X8_45_129 hS (fun af8 af8e af8s => ?_)
  refine r_getR hX hP rfl fl_X8_191_130 af8s (fun lf9 lf9e lf9s => ?_)
  refine r_ex hX hP 1 (pc' := 31) (st' := [(2, this), (2, lf9), (0, lf6), (0, df7)]) (lo' := [(0, (2, this)), (1, (2, pick)), (2, (0, lf6))]) rfl ?_
  refine r_getKR hX hP rfl fl_X8_45_129 hS (x := af8) af8e ?_
  refine r_ex hX hP 1 (pc' := 35) (st' := [(2, pick), (2, af8), (2, lf9), (0, lf6), (0, df7)]) (lo' := [(0, (2, this)), (1, (2, pick)), (2, (0, lf6))]) rfl ?_
  refine r_getI hX hP rfl fl_X8_162_138 pick_s (fun af10 af10e af10a af10b => ?_)
  refine r_callV gd hX hP rfl cv_X8_165_130 af8s (d' := 0) (mc' := 0) (ms' := 0) (as' := [(0, af10)]) (st := [(2, lf9), (0, lf6), (0, df7)]) (by first | decide | omega) (by first | decide | omega) (by first | decide | omega) rfl rfl (Nat.le_of_ble_eq_true rfl) (c_X0_firstHand E S G af8 af10 af8s (by first | decide | omega) (by first | decide | omega)) ?_
  rintro _ _ _ ⟨rfl, rfl, z11, rfl, z11a, z11b⟩
  refine r_iald hX hP rfl al_94 lf9s (by first | decide | omega) (by first | decide | omega) (fun x12 x12e x12a x12b => ?_)
  refine r_ex hX hP 1 (pc' := 43) (st' := [(0, (lf6 - x12)), (0, df7)]) (lo' := [(0, (2, this)), (1, (2, pick)), (2, (0, lf6))]) rfl ?_
  refine r_hvI hX (fun w13 w13a w13b w13e => ?_)
  refine r_ic_gt hX hP rfl (tgt := 50) rfl (by first | decide | omega) (by first | decide | omega) (by first | decide | omega) (by first | decide | omega) (fun c14 => ?_) (fun c14 => ?_)
  · skip
    refine r_ex hX hP 3 (pc' := 53) (st' := [(0, 0)]) (lo' := [(0, (2, this)), (1, (2, pick)), (2, (0, lf6)), (3, (0, 0))]) rfl ?_
    refine r_if_eq hX hP rfl (tgt := 79) rfl (by first | decide | omega) (by first | decide | omega) (fun c15 => ?_) (fun c15 => ?_)
    · skip
      refine r_ex hX hP 1 (pc' := 80) (st' := [(0, (-1))]) (lo' := [(0, (2, this)), (1, (2, pick)), (2, (0, lf6)), (3, (0, 0))]) rfl ?_
      exact r_retI hX hP rfl rfl (by first | decide | omega) (by first | decide | omega) ⟨rfl, rfl, (-1), rfl, (by first | decide | omega)⟩
    · skip
      exfalso; omega
  · skip
    refine r_ex hX hP 4 (pc' := 53) (st' := [(0, 1)]) (lo' := [(0, (2, this)), (1, (2, pick)), (2, (0, lf6)), (3, (0, 1))]) rfl ?_
    refine r_if_eq hX hP rfl (tgt := 79) rfl (by first | decide | omega) (by first | decide | omega) (fun c16 => ?_) (fun c16 => ?_)
    · skip
      exfalso; omega
    · skip
      refine r_ex hX hP 3 (pc' := 59) (st' := [(0, lf6), (2, pick), (2, this)]) (lo' := [(0, (2, this)), (1, (2, pick)), (2, (0, lf6)), (3, (0, 1))]) rfl ?_
      refine r_callV gd hX hP rfl cv_X8_184_129 hS (d' := 1) (mc' := 0) (ms' := 0) (as' := [(2, pick), (0, lf6)]) (st := []) (by first | decide | omega) (by first | decide | omega) (by first | decide | omega) rfl rfl (Nat.le_of_ble_eq_true rfl) (c_X8_inTime E S G this pick lf6 hS pick_s (by first | decide | omega) (by first | decide | omega)) ?_
      rintro _ _ _ ⟨rfl, rfl, z17, rfl, z17a, z17b⟩
      refine r_if_ne hX hP rfl (tgt := 79) rfl (by first | decide | omega) (by first | decide | omega) (fun c18 => ?_) (fun c18 => ?_)
      · skip
        refine r_ex hX hP 1 (pc' := 80) (st' := [(0, (-1))]) (lo' := [(0, (2, this)), (1, (2, pick)), (2, (0, lf6)), (3, (0, 1))]) rfl ?_
        exact r_retI hX hP rfl rfl (by first | decide | omega) (by first | decide | omega) ⟨rfl, rfl, (-1), rfl, (by first | decide | omega)⟩
      · skip
        refine r_ex hX hP 1 (pc' := 66) (st' := [(2, this)]) (lo' := [(0, (2, this)), (1, (2, pick)), (2, (0, lf6)), (3, (0, 1))]) rfl ?_
        refine r_getKR hX hP rfl fl_X8_45_129 hS (x := af8) af8e ?_
        refine r_ex hX hP 1 (pc' := 70) (st' := [(2, pick), (2, af8)]) (lo' := [(0, (2, this)), (1, (2, pick)), (2, (0, lf6)), (3, (0, 1))]) rfl ?_
        refine r_getKI hX hP rfl fl_X8_162_138 pick_s (x := af10) af10e ?_
        refine r_callV gd hX hP rfl cv_X8_194_130 af8s (d' := 1) (mc' := 0) (ms' := 0) (as' := [(0, af10)]) (st := []) (by first | decide | omega) (by first | decide | omega) (by first | decide | omega) rfl rfl (Nat.le_of_ble_eq_true rfl) (c_X0_slowHand E S G af8 af10 af8s (by first | decide | omega) (by first | decide | omega)) ?_
        rintro _ _ _ ⟨rfl, rfl, z19, rfl, z19a, z19b⟩
        refine r_ex hX hP 1 (pc' := 80) (st' := [(0, z19)]) (lo' := [(0, (2, this)), (1, (2, pick)), (2, (0, lf6)), (3, (0, 1))]) rfl ?_
        exact r_retI hX hP rfl rfl (by first | decide | omega) (by first | decide | omega) ⟨rfl, rfl, z19, rfl, (by first | decide | omega)⟩
set_option maxRecDepth 100000 in
set_option maxHeartbeats 4000000 in
theorem c_line_Iss (E : En) (S : Sg) (G : Gh) (this : Int) (told : Int) (day : Int) (kind : Int) (number : Int) (hS : S this = 129) (told_s : S told = 139) (day_a : 0 ≤ day) (day_b : day ≤ 40000) (kind_a : 0 ≤ kind) (kind_b : kind ≤ 2) (number_a : 0 ≤ number) (number_b : number ≤ 39) : Calls E mX8_line [(2, this), (2, told), (0, day), (0, kind), (0, number)] S G 1 0 0 (fun r S' G' => S = S' ∧ (∃ G1, hw [(118, -1), (129, 15)] G G1 = G') ∧ r = none ∧ True) := by
  refine calls_by [(0, (2, this)), (1, (2, told)), (2, (0, day)), (3, (0, kind)), (4, (0, number))] rfl rfl (Nat.le_of_ble_eq_true rfl) (fun X hX => ?_)
  have hP := hPX8_line
  refine r_ex hX hP 2 (pc' := 2) (st' := [(2, this), (2, told)]) (lo' := [(0, (2, this)), (1, (2, told)), (2, (0, day)), (3, (0, kind)), (4, (0, number))]) rfl ?_
  refine r_getI hX hP rfl fl_X8_10_129 hS (fun af1 af1e af1a af1b => ?_)
  refine r_callU gd hX hP rfl cu_X8_138_139 told_s (d' := 0) (mc' := 0) (ms' := 0) (as' := [(0, af1)]) (st := []) (by first | decide | omega) (by first | decide | omega) (by first | decide | omega) rfl rfl (Nat.le_of_ble_eq_true rfl) (c_counts_Iss E S G told af1 told_s (by first | decide | omega) (by first | decide | omega)) ?_
  rintro _ _ _ ⟨rfl, rfl, z2, rfl, z2a, z2b⟩
  refine r_if_eq hX hP rfl (tgt := 23) rfl (by first | decide | omega) (by first | decide | omega) (fun c3 => ?_) (fun c3 => ?_)
  · skip
    exact r_retV hX hP rfl rfl (by first | decide | omega) (by first | decide | omega) ⟨rfl, ⟨_, (hw_refl _ _).symm⟩, rfl, trivial⟩
  · skip
    refine r_ex hX hP 1 (pc' := 12) (st' := [(2, this)]) (lo' := [(0, (2, this)), (1, (2, told)), (2, (0, day)), (3, (0, kind)), (4, (0, number))]) rfl ?_
    refine r_getI hX hP rfl fl_X8_87_129 hS (fun cf4 cf4e cf4a cf4b => ?_)
    refine r_ex hX hP 1 (pc' := 16) (st' := [(2, this), (0, cf4)]) (lo' := [(0, (2, this)), (1, (2, told)), (2, (0, day)), (3, (0, kind)), (4, (0, number))]) rfl ?_
    refine r_getR hX hP rfl fl_X8_65_129 hS (fun of5 of5e of5s => ?_)
    refine r_alen hX hP rfl al_118 of5s ?_
    refine r_ic_lt hX hP rfl (tgt := 24) rfl (by first | decide | omega) (by first | decide | omega) (by first | decide | omega) (by first | decide | omega) (fun c6 => ?_) (fun c6 => ?_)
    · skip
      refine r_ex hX hP 11 (pc' := 38) (st' := [(2, this)]) (lo' := [(0, (2, this)), (1, (2, told)), (2, (0, day)), (3, (0, kind)), (4, (0, number)), (5, (0, ((((day * 4) + kind) * 64) + number)))]) rfl ?_
      refine r_getKI hX hP rfl fl_X8_87_129 hS (x := cf4) cf4e ?_
      refine r_ex hX hP 1 (pc' := 43) (st' := []) (lo' := [(0, (2, this)), (1, (2, told)), (2, (0, day)), (3, (0, kind)), (4, (0, number)), (5, (0, ((((day * 4) + kind) * 64) + number))), (6, (0, cf4))]) rfl ?_
      have x84 : ∀ (l6_x84 : Int) (Gx84 : Gh), 0 ≤ l6_x84 → l6_x84 ≤ 95 → X 0 0 84 [] [(0, (2, this)), (1, (2, told)), (2, (0, day)), (3, (0, kind)), (4, (0, number)), (5, (0, ((((day * 4) + kind) * 64) + number))), (6, (0, l6_x84))] S (hw [(118, -1)] G Gx84) := by
        intro l6_x84 Gx84 yx84_0 yx84_1
        refine r_ex hX hP 1 (pc' := 85) (st' := [(2, this)]) (lo' := [(0, (2, this)), (1, (2, told)), (2, (0, day)), (3, (0, kind)), (4, (0, number)), (5, (0, ((((day * 4) + kind) * 64) + number))), (6, (0, l6_x84))]) rfl ?_
        refine r_getKR hX hP rfl fl_X8_65_129 hS (x := of5) of5e ?_
        refine r_ex hX hP 2 (pc' := 92) (st' := [(0, ((((day * 4) + kind) * 64) + number)), (0, l6_x84), (2, of5)]) (lo' := [(0, (2, this)), (1, (2, told)), (2, (0, day)), (3, (0, kind)), (4, (0, number)), (5, (0, ((((day * 4) + kind) * 64) + number))), (6, (0, l6_x84))]) rfl ?_
        refine r_iastK hX hP rfl al_118 of5s (by first | decide | omega) (by first | decide | omega) (by first | decide | omega) (by first | decide | omega) (fun h7 => ?_)
        refine r_ex hX hP 2 (pc' := 95) (st' := [(2, this), (2, this)]) (lo' := [(0, (2, this)), (1, (2, told)), (2, (0, day)), (3, (0, kind)), (4, (0, number)), (5, (0, ((((day * 4) + kind) * 64) + number))), (6, (0, l6_x84))]) rfl ?_
        refine r_getKI hX hP rfl fl_X8_87_129 hS (x := cf4) cf4e ?_
        refine r_ex hX hP 2 (pc' := 100) (st' := [(0, (cf4 + 1)), (2, this)]) (lo' := [(0, (2, this)), (1, (2, told)), (2, (0, day)), (3, (0, kind)), (4, (0, number)), (5, (0, ((((day * 4) + kind) * 64) + number))), (6, (0, l6_x84))]) rfl ?_
        refine r_putIK hX hP rfl fp_X8_87_129 hS (by first | decide | omega) (by first | decide | omega) (fun h8 => ?_)
        exact r_retV hX hP rfl rfl (by first | decide | omega) (by first | decide | omega) ⟨rfl, ⟨_, (hw_up (hw_up (hw_sub (hw_refl _ _) rfl) rfl) rfl).symm⟩, rfl, trivial⟩
      have loop43 : ∀ (nF : Nat) (l6_h43 : Int) (Gh43 : Gh), 0 ≤ l6_h43 → l6_h43 ≤ 95 → l6_h43 - 0 < (nF : Int) → X 0 0 43 [] [(0, (2, this)), (1, (2, told)), (2, (0, day)), (3, (0, kind)), (4, (0, number)), (5, (0, ((((day * 4) + kind) * 64) + number))), (6, (0, l6_h43))] S (hw [(118, -1)] G Gh43) := by
        intro nF
        induction nF with
        | zero => intro l6_h43 Gh43 yh43_0 yh43_1 ym43; exfalso; omega
        | succ nF ih43 =>
          intro l6_h43 Gh43 yh43_0 yh43_1 ym43
          refine r_ex hX hP 1 (pc' := 45) (st' := [(0, l6_h43)]) (lo' := [(0, (2, this)), (1, (2, told)), (2, (0, day)), (3, (0, kind)), (4, (0, number)), (5, (0, ((((day * 4) + kind) * 64) + number))), (6, (0, l6_h43))]) rfl ?_
          refine r_if_le hX hP rfl (tgt := 84) rfl (by first | decide | omega) (by first | decide | omega) (fun c9 => ?_) (fun c9 => ?_)
          · skip
            refine r_eqG (X := X) (hw_sub (hw_refl [(118, -1)] _) rfl) ?_
            exact x84 l6_h43 _ (by first | decide | omega) (by first | decide | omega)
          · skip
            refine r_ex hX hP 1 (pc' := 49) (st' := [(2, this)]) (lo' := [(0, (2, this)), (1, (2, told)), (2, (0, day)), (3, (0, kind)), (4, (0, number)), (5, (0, ((((day * 4) + kind) * 64) + number))), (6, (0, l6_h43))]) rfl ?_
            refine r_getKR hX hP rfl fl_X8_65_129 hS (x := of5) of5e ?_
            refine r_ex hX hP 3 (pc' := 56) (st' := [(0, (l6_h43 - 1)), (2, of5)]) (lo' := [(0, (2, this)), (1, (2, told)), (2, (0, day)), (3, (0, kind)), (4, (0, number)), (5, (0, ((((day * 4) + kind) * 64) + number))), (6, (0, l6_h43))]) rfl ?_
            refine r_iald hX hP rfl al_118 of5s (by first | decide | omega) (by first | decide | omega) (fun x10 x10e x10a x10b => ?_)
            refine r_ex hX hP 1 (pc' := 59) (st' := [(0, ((((day * 4) + kind) * 64) + number)), (0, x10)]) (lo' := [(0, (2, this)), (1, (2, told)), (2, (0, day)), (3, (0, kind)), (4, (0, number)), (5, (0, ((((day * 4) + kind) * 64) + number))), (6, (0, l6_h43))]) rfl ?_
            refine r_ic_le hX hP rfl (tgt := 84) rfl (by first | decide | omega) (by first | decide | omega) (by first | decide | omega) (by first | decide | omega) (fun c11 => ?_) (fun c11 => ?_)
            · skip
              refine r_eqG (X := X) (hw_sub (hw_refl [(118, -1)] _) rfl) ?_
              exact x84 l6_h43 _ (by first | decide | omega) (by first | decide | omega)
            · skip
              refine r_ex hX hP 1 (pc' := 63) (st' := [(2, this)]) (lo' := [(0, (2, this)), (1, (2, told)), (2, (0, day)), (3, (0, kind)), (4, (0, number)), (5, (0, ((((day * 4) + kind) * 64) + number))), (6, (0, l6_h43))]) rfl ?_
              refine r_getKR hX hP rfl fl_X8_65_129 hS (x := of5) of5e ?_
              refine r_ex hX hP 2 (pc' := 69) (st' := [(2, this), (0, l6_h43), (2, of5)]) (lo' := [(0, (2, this)), (1, (2, told)), (2, (0, day)), (3, (0, kind)), (4, (0, number)), (5, (0, ((((day * 4) + kind) * 64) + number))), (6, (0, l6_h43))]) rfl ?_
              refine r_getKR hX hP rfl fl_X8_65_129 hS (x := of5) of5e ?_
              refine r_ex hX hP 3 (pc' := 76) (st' := [(0, (l6_h43 - 1)), (2, of5), (0, l6_h43), (2, of5)]) (lo' := [(0, (2, this)), (1, (2, told)), (2, (0, day)), (3, (0, kind)), (4, (0, number)), (5, (0, ((((day * 4) + kind) * 64) + number))), (6, (0, l6_h43))]) rfl ?_
              refine r_ialdK hX hP rfl al_118 of5s (by first | decide | omega) (by first | decide | omega) (x := x10) x10e ?_
              refine r_iastK hX hP rfl al_118 of5s (by first | decide | omega) (by first | decide | omega) (by first | decide | omega) (by first | decide | omega) (fun h12 => ?_)
              refine r_ex hX hP 2 (pc' := 43) (st' := []) (lo' := [(0, (2, this)), (1, (2, told)), (2, (0, day)), (3, (0, kind)), (4, (0, number)), (5, (0, ((((day * 4) + kind) * 64) + number))), (6, (0, (l6_h43 + (-1))))]) rfl ?_
              refine r_eqG (X := X) (hw_up (hw_base _ _ _) rfl) ?_
              exact ih43 (l6_h43 + (-1)) _ (by first | decide | omega) (by first | decide | omega) (by first | decide | omega)
      refine r_eqG (X := X) (hw_refl [(118, -1)] _) ?_
      exact loop43 ((cf4 - 0) + 1 : Int).toNat cf4 _ (by first | decide | omega) (by first | decide | omega) (by first | decide | omega)
    · skip
      exact r_retV hX hP rfl rfl (by first | decide | omega) (by first | decide | omega) ⟨rfl, ⟨_, (hw_refl _ _).symm⟩, rfl, trivial⟩
set_option maxRecDepth 100000 in
set_option maxHeartbeats 4000000 in
theorem c_line_Trd (E : En) (S : Sg) (G : Gh) (this : Int) (told : Int) (day : Int) (kind : Int) (number : Int) (hS : S this = 129) (told_s : S told = 140) (day_a : 0 ≤ day) (day_b : day ≤ 40000) (kind_a : 0 ≤ kind) (kind_b : kind ≤ 2) (number_a : 0 ≤ number) (number_b : number ≤ 39) : Calls E mX8_line [(2, this), (2, told), (0, day), (0, kind), (0, number)] S G 1 0 0 (fun r S' G' => S = S' ∧ (∃ G1, hw [(118, -1), (129, 15)] G G1 = G') ∧ r = none ∧ True) := by
  refine calls_by [(0, (2, this)), (1, (2, told)), (2, (0, day)), (3, (0, kind)), (4, (0, number))] rfl rfl (Nat.le_of_ble_eq_true rfl) (fun X hX => ?_)
  have hP := hPX8_line
  refine r_ex hX hP 2 (pc' := 2) (st' := [(2, this), (2, told)]) (lo' := [(0, (2, this)), (1, (2, told)), (2, (0, day)), (3, (0, kind)), (4, (0, number))]) rfl ?_
  refine r_getI hX hP rfl fl_X8_10_129 hS (fun af1 af1e af1a af1b => ?_)
  refine r_callU gd hX hP rfl cu_X8_138_140 told_s (d' := 0) (mc' := 0) (ms' := 0) (as' := [(0, af1)]) (st := []) (by first | decide | omega) (by first | decide | omega) (by first | decide | omega) rfl rfl (Nat.le_of_ble_eq_true rfl) (c_counts_Trd E S G told af1 told_s (by first | decide | omega) (by first | decide | omega)) ?_
  rintro _ _ _ ⟨rfl, rfl, z2, rfl, z2a, z2b⟩
  refine r_if_eq hX hP rfl (tgt := 23) rfl (by first | decide | omega) (by first | decide | omega) (fun c3 => ?_) (fun c3 => ?_)
  · skip
    exact r_retV hX hP rfl rfl (by first | decide | omega) (by first | decide | omega) ⟨rfl, ⟨_, (hw_refl _ _).symm⟩, rfl, trivial⟩
  · skip
    refine r_ex hX hP 1 (pc' := 12) (st' := [(2, this)]) (lo' := [(0, (2, this)), (1, (2, told)), (2, (0, day)), (3, (0, kind)), (4, (0, number))]) rfl ?_
    refine r_getI hX hP rfl fl_X8_87_129 hS (fun cf4 cf4e cf4a cf4b => ?_)
    refine r_ex hX hP 1 (pc' := 16) (st' := [(2, this), (0, cf4)]) (lo' := [(0, (2, this)), (1, (2, told)), (2, (0, day)), (3, (0, kind)), (4, (0, number))]) rfl ?_
    refine r_getR hX hP rfl fl_X8_65_129 hS (fun of5 of5e of5s => ?_)
    refine r_alen hX hP rfl al_118 of5s ?_
    refine r_ic_lt hX hP rfl (tgt := 24) rfl (by first | decide | omega) (by first | decide | omega) (by first | decide | omega) (by first | decide | omega) (fun c6 => ?_) (fun c6 => ?_)
    · skip
      refine r_ex hX hP 11 (pc' := 38) (st' := [(2, this)]) (lo' := [(0, (2, this)), (1, (2, told)), (2, (0, day)), (3, (0, kind)), (4, (0, number)), (5, (0, ((((day * 4) + kind) * 64) + number)))]) rfl ?_
      refine r_getKI hX hP rfl fl_X8_87_129 hS (x := cf4) cf4e ?_
      refine r_ex hX hP 1 (pc' := 43) (st' := []) (lo' := [(0, (2, this)), (1, (2, told)), (2, (0, day)), (3, (0, kind)), (4, (0, number)), (5, (0, ((((day * 4) + kind) * 64) + number))), (6, (0, cf4))]) rfl ?_
      have x84 : ∀ (l6_x84 : Int) (Gx84 : Gh), 0 ≤ l6_x84 → l6_x84 ≤ 95 → X 0 0 84 [] [(0, (2, this)), (1, (2, told)), (2, (0, day)), (3, (0, kind)), (4, (0, number)), (5, (0, ((((day * 4) + kind) * 64) + number))), (6, (0, l6_x84))] S (hw [(118, -1)] G Gx84) := by
        intro l6_x84 Gx84 yx84_0 yx84_1
        refine r_ex hX hP 1 (pc' := 85) (st' := [(2, this)]) (lo' := [(0, (2, this)), (1, (2, told)), (2, (0, day)), (3, (0, kind)), (4, (0, number)), (5, (0, ((((day * 4) + kind) * 64) + number))), (6, (0, l6_x84))]) rfl ?_
        refine r_getKR hX hP rfl fl_X8_65_129 hS (x := of5) of5e ?_
        refine r_ex hX hP 2 (pc' := 92) (st' := [(0, ((((day * 4) + kind) * 64) + number)), (0, l6_x84), (2, of5)]) (lo' := [(0, (2, this)), (1, (2, told)), (2, (0, day)), (3, (0, kind)), (4, (0, number)), (5, (0, ((((day * 4) + kind) * 64) + number))), (6, (0, l6_x84))]) rfl ?_
        refine r_iastK hX hP rfl al_118 of5s (by first | decide | omega) (by first | decide | omega) (by first | decide | omega) (by first | decide | omega) (fun h7 => ?_)
        refine r_ex hX hP 2 (pc' := 95) (st' := [(2, this), (2, this)]) (lo' := [(0, (2, this)), (1, (2, told)), (2, (0, day)), (3, (0, kind)), (4, (0, number)), (5, (0, ((((day * 4) + kind) * 64) + number))), (6, (0, l6_x84))]) rfl ?_
        refine r_getKI hX hP rfl fl_X8_87_129 hS (x := cf4) cf4e ?_
        refine r_ex hX hP 2 (pc' := 100) (st' := [(0, (cf4 + 1)), (2, this)]) (lo' := [(0, (2, this)), (1, (2, told)), (2, (0, day)), (3, (0, kind)), (4, (0, number)), (5, (0, ((((day * 4) + kind) * 64) + number))), (6, (0, l6_x84))]) rfl ?_
        refine r_putIK hX hP rfl fp_X8_87_129 hS (by first | decide | omega) (by first | decide | omega) (fun h8 => ?_)
        exact r_retV hX hP rfl rfl (by first | decide | omega) (by first | decide | omega) ⟨rfl, ⟨_, (hw_up (hw_up (hw_sub (hw_refl _ _) rfl) rfl) rfl).symm⟩, rfl, trivial⟩
      have loop43 : ∀ (nF : Nat) (l6_h43 : Int) (Gh43 : Gh), 0 ≤ l6_h43 → l6_h43 ≤ 95 → l6_h43 - 0 < (nF : Int) → X 0 0 43 [] [(0, (2, this)), (1, (2, told)), (2, (0, day)), (3, (0, kind)), (4, (0, number)), (5, (0, ((((day * 4) + kind) * 64) + number))), (6, (0, l6_h43))] S (hw [(118, -1)] G Gh43) := by
        intro nF
        induction nF with
        | zero => intro l6_h43 Gh43 yh43_0 yh43_1 ym43; exfalso; omega
        | succ nF ih43 =>
          intro l6_h43 Gh43 yh43_0 yh43_1 ym43
          refine r_ex hX hP 1 (pc' := 45) (st' := [(0, l6_h43)]) (lo' := [(0, (2, this)), (1, (2, told)), (2, (0, day)), (3, (0, kind)), (4, (0, number)), (5, (0, ((((day * 4) + kind) * 64) + number))), (6, (0, l6_h43))]) rfl ?_
          refine r_if_le hX hP rfl (tgt := 84) rfl (by first | decide | omega) (by first | decide | omega) (fun c9 => ?_) (fun c9 => ?_)
          · skip
            refine r_eqG (X := X) (hw_sub (hw_refl [(118, -1)] _) rfl) ?_
            exact x84 l6_h43 _ (by first | decide | omega) (by first | decide | omega)
          · skip
            refine r_ex hX hP 1 (pc' := 49) (st' := [(2, this)]) (lo' := [(0, (2, this)), (1, (2, told)), (2, (0, day)), (3, (0, kind)), (4, (0, number)), (5, (0, ((((day * 4) + kind) * 64) + number))), (6, (0, l6_h43))]) rfl ?_
            refine r_getKR hX hP rfl fl_X8_65_129 hS (x := of5) of5e ?_
            refine r_ex hX hP 3 (pc' := 56) (st' := [(0, (l6_h43 - 1)), (2, of5)]) (lo' := [(0, (2, this)), (1, (2, told)), (2, (0, day)), (3, (0, kind)), (4, (0, number)), (5, (0, ((((day * 4) + kind) * 64) + number))), (6, (0, l6_h43))]) rfl ?_
            refine r_iald hX hP rfl al_118 of5s (by first | decide | omega) (by first | decide | omega) (fun x10 x10e x10a x10b => ?_)
            refine r_ex hX hP 1 (pc' := 59) (st' := [(0, ((((day * 4) + kind) * 64) + number)), (0, x10)]) (lo' := [(0, (2, this)), (1, (2, told)), (2, (0, day)), (3, (0, kind)), (4, (0, number)), (5, (0, ((((day * 4) + kind) * 64) + number))), (6, (0, l6_h43))]) rfl ?_
            refine r_ic_le hX hP rfl (tgt := 84) rfl (by first | decide | omega) (by first | decide | omega) (by first | decide | omega) (by first | decide | omega) (fun c11 => ?_) (fun c11 => ?_)
            · skip
              refine r_eqG (X := X) (hw_sub (hw_refl [(118, -1)] _) rfl) ?_
              exact x84 l6_h43 _ (by first | decide | omega) (by first | decide | omega)
            · skip
              refine r_ex hX hP 1 (pc' := 63) (st' := [(2, this)]) (lo' := [(0, (2, this)), (1, (2, told)), (2, (0, day)), (3, (0, kind)), (4, (0, number)), (5, (0, ((((day * 4) + kind) * 64) + number))), (6, (0, l6_h43))]) rfl ?_
              refine r_getKR hX hP rfl fl_X8_65_129 hS (x := of5) of5e ?_
              refine r_ex hX hP 2 (pc' := 69) (st' := [(2, this), (0, l6_h43), (2, of5)]) (lo' := [(0, (2, this)), (1, (2, told)), (2, (0, day)), (3, (0, kind)), (4, (0, number)), (5, (0, ((((day * 4) + kind) * 64) + number))), (6, (0, l6_h43))]) rfl ?_
              refine r_getKR hX hP rfl fl_X8_65_129 hS (x := of5) of5e ?_
              refine r_ex hX hP 3 (pc' := 76) (st' := [(0, (l6_h43 - 1)), (2, of5), (0, l6_h43), (2, of5)]) (lo' := [(0, (2, this)), (1, (2, told)), (2, (0, day)), (3, (0, kind)), (4, (0, number)), (5, (0, ((((day * 4) + kind) * 64) + number))), (6, (0, l6_h43))]) rfl ?_
              refine r_ialdK hX hP rfl al_118 of5s (by first | decide | omega) (by first | decide | omega) (x := x10) x10e ?_
              refine r_iastK hX hP rfl al_118 of5s (by first | decide | omega) (by first | decide | omega) (by first | decide | omega) (by first | decide | omega) (fun h12 => ?_)
              refine r_ex hX hP 2 (pc' := 43) (st' := []) (lo' := [(0, (2, this)), (1, (2, told)), (2, (0, day)), (3, (0, kind)), (4, (0, number)), (5, (0, ((((day * 4) + kind) * 64) + number))), (6, (0, (l6_h43 + (-1))))]) rfl ?_
              refine r_eqG (X := X) (hw_up (hw_base _ _ _) rfl) ?_
              exact ih43 (l6_h43 + (-1)) _ (by first | decide | omega) (by first | decide | omega) (by first | decide | omega)
      refine r_eqG (X := X) (hw_refl [(118, -1)] _) ?_
      exact loop43 ((cf4 - 0) + 1 : Int).toNat cf4 _ (by first | decide | omega) (by first | decide | omega) (by first | decide | omega)
    · skip
      exact r_retV hX hP rfl rfl (by first | decide | omega) (by first | decide | omega) ⟨rfl, ⟨_, (hw_refl _ _).symm⟩, rfl, trivial⟩
set_option maxRecDepth 100000 in
set_option maxHeartbeats 4000000 in
theorem c_line_Evt (E : En) (S : Sg) (G : Gh) (this : Int) (told : Int) (day : Int) (kind : Int) (number : Int) (hS : S this = 129) (told_s : S told = 137) (day_a : 0 ≤ day) (day_b : day ≤ 40000) (kind_a : 0 ≤ kind) (kind_b : kind ≤ 2) (number_a : 0 ≤ number) (number_b : number ≤ 39) : Calls E mX8_line [(2, this), (2, told), (0, day), (0, kind), (0, number)] S G 1 0 0 (fun r S' G' => S = S' ∧ (∃ G1, hw [(118, -1), (129, 15)] G G1 = G') ∧ r = none ∧ True) := by
  refine calls_by [(0, (2, this)), (1, (2, told)), (2, (0, day)), (3, (0, kind)), (4, (0, number))] rfl rfl (Nat.le_of_ble_eq_true rfl) (fun X hX => ?_)
  have hP := hPX8_line
  refine r_ex hX hP 2 (pc' := 2) (st' := [(2, this), (2, told)]) (lo' := [(0, (2, this)), (1, (2, told)), (2, (0, day)), (3, (0, kind)), (4, (0, number))]) rfl ?_
  refine r_getI hX hP rfl fl_X8_10_129 hS (fun af1 af1e af1a af1b => ?_)
  refine r_callU gd hX hP rfl cu_X8_138_137 told_s (d' := 0) (mc' := 0) (ms' := 0) (as' := [(0, af1)]) (st := []) (by first | decide | omega) (by first | decide | omega) (by first | decide | omega) rfl rfl (Nat.le_of_ble_eq_true rfl) (c_counts_Evt E S G told af1 told_s (by first | decide | omega) (by first | decide | omega)) ?_
  rintro _ _ _ ⟨rfl, rfl, z2, rfl, z2a, z2b⟩
  refine r_if_eq hX hP rfl (tgt := 23) rfl (by first | decide | omega) (by first | decide | omega) (fun c3 => ?_) (fun c3 => ?_)
  · skip
    exact r_retV hX hP rfl rfl (by first | decide | omega) (by first | decide | omega) ⟨rfl, ⟨_, (hw_refl _ _).symm⟩, rfl, trivial⟩
  · skip
    refine r_ex hX hP 1 (pc' := 12) (st' := [(2, this)]) (lo' := [(0, (2, this)), (1, (2, told)), (2, (0, day)), (3, (0, kind)), (4, (0, number))]) rfl ?_
    refine r_getI hX hP rfl fl_X8_87_129 hS (fun cf4 cf4e cf4a cf4b => ?_)
    refine r_ex hX hP 1 (pc' := 16) (st' := [(2, this), (0, cf4)]) (lo' := [(0, (2, this)), (1, (2, told)), (2, (0, day)), (3, (0, kind)), (4, (0, number))]) rfl ?_
    refine r_getR hX hP rfl fl_X8_65_129 hS (fun of5 of5e of5s => ?_)
    refine r_alen hX hP rfl al_118 of5s ?_
    refine r_ic_lt hX hP rfl (tgt := 24) rfl (by first | decide | omega) (by first | decide | omega) (by first | decide | omega) (by first | decide | omega) (fun c6 => ?_) (fun c6 => ?_)
    · skip
      refine r_ex hX hP 11 (pc' := 38) (st' := [(2, this)]) (lo' := [(0, (2, this)), (1, (2, told)), (2, (0, day)), (3, (0, kind)), (4, (0, number)), (5, (0, ((((day * 4) + kind) * 64) + number)))]) rfl ?_
      refine r_getKI hX hP rfl fl_X8_87_129 hS (x := cf4) cf4e ?_
      refine r_ex hX hP 1 (pc' := 43) (st' := []) (lo' := [(0, (2, this)), (1, (2, told)), (2, (0, day)), (3, (0, kind)), (4, (0, number)), (5, (0, ((((day * 4) + kind) * 64) + number))), (6, (0, cf4))]) rfl ?_
      have x84 : ∀ (l6_x84 : Int) (Gx84 : Gh), 0 ≤ l6_x84 → l6_x84 ≤ 95 → X 0 0 84 [] [(0, (2, this)), (1, (2, told)), (2, (0, day)), (3, (0, kind)), (4, (0, number)), (5, (0, ((((day * 4) + kind) * 64) + number))), (6, (0, l6_x84))] S (hw [(118, -1)] G Gx84) := by
        intro l6_x84 Gx84 yx84_0 yx84_1
        refine r_ex hX hP 1 (pc' := 85) (st' := [(2, this)]) (lo' := [(0, (2, this)), (1, (2, told)), (2, (0, day)), (3, (0, kind)), (4, (0, number)), (5, (0, ((((day * 4) + kind) * 64) + number))), (6, (0, l6_x84))]) rfl ?_
        refine r_getKR hX hP rfl fl_X8_65_129 hS (x := of5) of5e ?_
        refine r_ex hX hP 2 (pc' := 92) (st' := [(0, ((((day * 4) + kind) * 64) + number)), (0, l6_x84), (2, of5)]) (lo' := [(0, (2, this)), (1, (2, told)), (2, (0, day)), (3, (0, kind)), (4, (0, number)), (5, (0, ((((day * 4) + kind) * 64) + number))), (6, (0, l6_x84))]) rfl ?_
        refine r_iastK hX hP rfl al_118 of5s (by first | decide | omega) (by first | decide | omega) (by first | decide | omega) (by first | decide | omega) (fun h7 => ?_)
        refine r_ex hX hP 2 (pc' := 95) (st' := [(2, this), (2, this)]) (lo' := [(0, (2, this)), (1, (2, told)), (2, (0, day)), (3, (0, kind)), (4, (0, number)), (5, (0, ((((day * 4) + kind) * 64) + number))), (6, (0, l6_x84))]) rfl ?_
        refine r_getKI hX hP rfl fl_X8_87_129 hS (x := cf4) cf4e ?_
        refine r_ex hX hP 2 (pc' := 100) (st' := [(0, (cf4 + 1)), (2, this)]) (lo' := [(0, (2, this)), (1, (2, told)), (2, (0, day)), (3, (0, kind)), (4, (0, number)), (5, (0, ((((day * 4) + kind) * 64) + number))), (6, (0, l6_x84))]) rfl ?_
        refine r_putIK hX hP rfl fp_X8_87_129 hS (by first | decide | omega) (by first | decide | omega) (fun h8 => ?_)
        exact r_retV hX hP rfl rfl (by first | decide | omega) (by first | decide | omega) ⟨rfl, ⟨_, (hw_up (hw_up (hw_sub (hw_refl _ _) rfl) rfl) rfl).symm⟩, rfl, trivial⟩
      have loop43 : ∀ (nF : Nat) (l6_h43 : Int) (Gh43 : Gh), 0 ≤ l6_h43 → l6_h43 ≤ 95 → l6_h43 - 0 < (nF : Int) → X 0 0 43 [] [(0, (2, this)), (1, (2, told)), (2, (0, day)), (3, (0, kind)), (4, (0, number)), (5, (0, ((((day * 4) + kind) * 64) + number))), (6, (0, l6_h43))] S (hw [(118, -1)] G Gh43) := by
        intro nF
        induction nF with
        | zero => intro l6_h43 Gh43 yh43_0 yh43_1 ym43; exfalso; omega
        | succ nF ih43 =>
          intro l6_h43 Gh43 yh43_0 yh43_1 ym43
          refine r_ex hX hP 1 (pc' := 45) (st' := [(0, l6_h43)]) (lo' := [(0, (2, this)), (1, (2, told)), (2, (0, day)), (3, (0, kind)), (4, (0, number)), (5, (0, ((((day * 4) + kind) * 64) + number))), (6, (0, l6_h43))]) rfl ?_
          refine r_if_le hX hP rfl (tgt := 84) rfl (by first | decide | omega) (by first | decide | omega) (fun c9 => ?_) (fun c9 => ?_)
          · skip
            refine r_eqG (X := X) (hw_sub (hw_refl [(118, -1)] _) rfl) ?_
            exact x84 l6_h43 _ (by first | decide | omega) (by first | decide | omega)
          · skip
            refine r_ex hX hP 1 (pc' := 49) (st' := [(2, this)]) (lo' := [(0, (2, this)), (1, (2, told)), (2, (0, day)), (3, (0, kind)), (4, (0, number)), (5, (0, ((((day * 4) + kind) * 64) + number))), (6, (0, l6_h43))]) rfl ?_
            refine r_getKR hX hP rfl fl_X8_65_129 hS (x := of5) of5e ?_
            refine r_ex hX hP 3 (pc' := 56) (st' := [(0, (l6_h43 - 1)), (2, of5)]) (lo' := [(0, (2, this)), (1, (2, told)), (2, (0, day)), (3, (0, kind)), (4, (0, number)), (5, (0, ((((day * 4) + kind) * 64) + number))), (6, (0, l6_h43))]) rfl ?_
            refine r_iald hX hP rfl al_118 of5s (by first | decide | omega) (by first | decide | omega) (fun x10 x10e x10a x10b => ?_)
            refine r_ex hX hP 1 (pc' := 59) (st' := [(0, ((((day * 4) + kind) * 64) + number)), (0, x10)]) (lo' := [(0, (2, this)), (1, (2, told)), (2, (0, day)), (3, (0, kind)), (4, (0, number)), (5, (0, ((((day * 4) + kind) * 64) + number))), (6, (0, l6_h43))]) rfl ?_
            refine r_ic_le hX hP rfl (tgt := 84) rfl (by first | decide | omega) (by first | decide | omega) (by first | decide | omega) (by first | decide | omega) (fun c11 => ?_) (fun c11 => ?_)
            · skip
              refine r_eqG (X := X) (hw_sub (hw_refl [(118, -1)] _) rfl) ?_
              exact x84 l6_h43 _ (by first | decide | omega) (by first | decide | omega)
            · skip
              refine r_ex hX hP 1 (pc' := 63) (st' := [(2, this)]) (lo' := [(0, (2, this)), (1, (2, told)), (2, (0, day)), (3, (0, kind)), (4, (0, number)), (5, (0, ((((day * 4) + kind) * 64) + number))), (6, (0, l6_h43))]) rfl ?_
              refine r_getKR hX hP rfl fl_X8_65_129 hS (x := of5) of5e ?_
              refine r_ex hX hP 2 (pc' := 69) (st' := [(2, this), (0, l6_h43), (2, of5)]) (lo' := [(0, (2, this)), (1, (2, told)), (2, (0, day)), (3, (0, kind)), (4, (0, number)), (5, (0, ((((day * 4) + kind) * 64) + number))), (6, (0, l6_h43))]) rfl ?_
              refine r_getKR hX hP rfl fl_X8_65_129 hS (x := of5) of5e ?_
              refine r_ex hX hP 3 (pc' := 76) (st' := [(0, (l6_h43 - 1)), (2, of5), (0, l6_h43), (2, of5)]) (lo' := [(0, (2, this)), (1, (2, told)), (2, (0, day)), (3, (0, kind)), (4, (0, number)), (5, (0, ((((day * 4) + kind) * 64) + number))), (6, (0, l6_h43))]) rfl ?_
              refine r_ialdK hX hP rfl al_118 of5s (by first | decide | omega) (by first | decide | omega) (x := x10) x10e ?_
              refine r_iastK hX hP rfl al_118 of5s (by first | decide | omega) (by first | decide | omega) (by first | decide | omega) (by first | decide | omega) (fun h12 => ?_)
              refine r_ex hX hP 2 (pc' := 43) (st' := []) (lo' := [(0, (2, this)), (1, (2, told)), (2, (0, day)), (3, (0, kind)), (4, (0, number)), (5, (0, ((((day * 4) + kind) * 64) + number))), (6, (0, (l6_h43 + (-1))))]) rfl ?_
              refine r_eqG (X := X) (hw_up (hw_base _ _ _) rfl) ?_
              exact ih43 (l6_h43 + (-1)) _ (by first | decide | omega) (by first | decide | omega) (by first | decide | omega)
      refine r_eqG (X := X) (hw_refl [(118, -1)] _) ?_
      exact loop43 ((cf4 - 0) + 1 : Int).toNat cf4 _ (by first | decide | omega) (by first | decide | omega) (by first | decide | omega)
    · skip
      exact r_retV hX hP rfl rfl (by first | decide | omega) (by first | decide | omega) ⟨rfl, ⟨_, (hw_refl _ _).symm⟩, rfl, trivial⟩
set_option maxRecDepth 100000 in
set_option maxHeartbeats 4000000 in
theorem c_X8_restart (E : En) (S : Sg) (G : Gh) (this : Int) (hS : S this = 129) (ci : CI E S G) : Calls E mX8_restart [(2, this)] S G 3 0 0 (fun r S' G' => S = S' ∧ (∃ G1, hw [(95, -1), (115, -1), (118, -1), (129, 1), (129, 2), (129, 15), (129, 16)] G G1 = G') ∧ r = none ∧ ∃ nx : Int, nx = G' 129 this 16 ∧ nx = 0) := by
  refine calls_by [(0, (2, this))] rfl rfl (Nat.le_of_ble_eq_true rfl) (fun X hX => ?_)
  have hP := hPX8_restart
  refine r_ex hX hP 2 (pc' := 2) (st' := [(0, 0), (2, this)]) (lo' := [(0, (2, this))]) rfl ?_
  refine r_putIK hX hP rfl fp_X8_16_129 hS (by first | decide | omega) (by first | decide | omega) (fun h1 => ?_)
  refine r_ex hX hP 2 (pc' := 7) (st' := [(0, 0), (2, this)]) (lo' := [(0, (2, this))]) rfl ?_
  refine r_putIK hX hP rfl fp_X8_90_129 hS (by first | decide | omega) (by first | decide | omega) (fun h2 => ?_)
  refine r_ex hX hP 2 (pc' := 12) (st' := [(0, 0), (2, this)]) (lo' := [(0, (2, this))]) rfl ?_
  refine r_putIK hX hP rfl fp_X8_77_129 hS (by first | decide | omega) (by first | decide | omega) (fun h3 => ?_)
  refine r_ex hX hP 2 (pc' := 17) (st' := [(0, 0), (2, this)]) (lo' := [(0, (2, this))]) rfl ?_
  refine r_putIK hX hP rfl fp_X8_87_129 hS (by first | decide | omega) (by first | decide | omega) (fun h4 => ?_)
  refine r_ex hX hP 2 (pc' := 22) (st' := []) (lo' := [(0, (2, this)), (1, (0, 0))]) rfl ?_
  have loop22 : ∀ (nF : Nat) (l1_h22 : Int) (Gh22 : Gh), 0 ≤ l1_h22 → l1_h22 ≤ 20 → 20 - l1_h22 < (nF : Int) → X 0 0 22 [] [(0, (2, this)), (1, (0, l1_h22))] S (hw [(95, -1)] (up (up (up (up G 129 this 1 0) 129 this 2 0) 129 this 16 0) 129 this 15 0) Gh22) := by
    intro nF
    induction nF with
    | zero => intro l1_h22 Gh22 yh22_0 yh22_1 ym22; exfalso; omega
    | succ nF ih22 =>
      intro l1_h22 Gh22 yh22_0 yh22_1 ym22
      refine r_ex hX hP 2 (pc' := 25) (st' := [(0, 20), (0, l1_h22)]) (lo' := [(0, (2, this)), (1, (0, l1_h22))]) rfl ?_
      refine r_ic_ge hX hP rfl (tgt := 54) rfl (by first | decide | omega) (by first | decide | omega) (by first | decide | omega) (by first | decide | omega) (fun c5 => ?_) (fun c5 => ?_)
      · skip
        refine r_ex hX hP 1 (pc' := 55) (st' := [(2, this)]) (lo' := [(0, (2, this)), (1, (0, l1_h22))]) rfl ?_
        refine r_getR hX hP rfl fl_X8_28_129 hS (fun pf6 pf6e pf6s => ?_)
        refine r_ex hX hP 1 (pc' := 59) (st' := [(1, 0), (2, pf6)]) (lo' := [(0, (2, this)), (1, (0, l1_h22))]) rfl ?_
        refine r_callS gd hX hP rfl cs_X8_117 (d' := 0) (mc' := 0) (ms' := 0) (as' := [(2, pf6), (1, 0)]) (st := []) (by first | decide | omega) (by first | decide | omega) (by first | decide | omega) rfl rfl (Nat.le_of_ble_eq_true rfl) (c_fillJ_J20 E S (hw [(95, -1)] (up (up (up (up G 129 this 1 0) 129 this 2 0) 129 this 16 0) 129 this 15 0) Gh22) pf6 0 pf6s (by first | decide | omega) (by first | decide | omega)) ?_
        rintro _ _ _ ⟨rfl, ⟨G7, rfl⟩, rfl, -⟩
        refine r_ex hX hP 1 (pc' := 63) (st' := [(2, this)]) (lo' := [(0, (2, this)), (1, (0, l1_h22))]) rfl ?_
        refine r_getR hX hP rfl fl_X8_32_129 hS (fun rf8 rf8e rf8s => ?_)
        refine r_ex hX hP 1 (pc' := 67) (st' := [(1, 0), (2, rf8)]) (lo' := [(0, (2, this)), (1, (0, l1_h22))]) rfl ?_
        refine r_callS gd hX hP rfl cs_X8_117 (d' := 0) (mc' := 0) (ms' := 0) (as' := [(2, rf8), (1, 0)]) (st := []) (by first | decide | omega) (by first | decide | omega) (by first | decide | omega) rfl rfl (Nat.le_of_ble_eq_true rfl) (c_fillJ_J20 E S (hw [(95, -1)] (hw [(95, -1)] (up (up (up (up G 129 this 1 0) 129 this 2 0) 129 this 16 0) 129 this 15 0) Gh22) G7) rf8 0 rf8s (by first | decide | omega) (by first | decide | omega)) ?_
        rintro _ _ _ ⟨rfl, ⟨G9, rfl⟩, rfl, -⟩
        refine r_ex hX hP 1 (pc' := 71) (st' := [(2, this)]) (lo' := [(0, (2, this)), (1, (0, l1_h22))]) rfl ?_
        refine r_getR hX hP rfl fl_X8_35_129 hS (fun sf10 sf10e sf10s => ?_)
        refine r_ex hX hP 1 (pc' := 75) (st' := [(0, (-1)), (2, sf10)]) (lo' := [(0, (2, this)), (1, (0, l1_h22))]) rfl ?_
        refine r_callS gd hX hP rfl cs_X8_123 (d' := 0) (mc' := 0) (ms' := 0) (as' := [(2, sf10), (0, (-1))]) (st := []) (by first | decide | omega) (by first | decide | omega) (by first | decide | omega) rfl rfl (Nat.le_of_ble_eq_true rfl) (c_fillI_I40 E S (hw [(95, -1)] (hw [(95, -1)] (hw [(95, -1)] (up (up (up (up G 129 this 1 0) 129 this 2 0) 129 this 16 0) 129 this 15 0) Gh22) G7) G9) sf10 (-1) sf10s (by first | decide | omega) (by first | decide | omega)) ?_
        rintro _ _ _ ⟨rfl, ⟨G11, rfl⟩, rfl, -⟩
        refine r_ex hX hP 2 (pc' := 80) (st' := []) (lo' := [(0, (2, this)), (1, (0, 0))]) rfl ?_
        have loop80 : ∀ (nF : Nat) (l1_h80 : Int) (Gh80 : Gh), 0 ≤ l1_h80 → l1_h80 ≤ 60 → 60 - l1_h80 < (nF : Int) → X 0 0 80 [] [(0, (2, this)), (1, (0, l1_h80))] S (hw [(118, -1), (129, 15)] (hw [(115, -1)] (hw [(95, -1)] (hw [(95, -1)] (hw [(95, -1)] (up (up (up (up G 129 this 1 0) 129 this 2 0) 129 this 16 0) 129 this 15 0) Gh22) G7) G9) G11) Gh80) := by
          intro nF
          induction nF with
          | zero => intro l1_h80 Gh80 yh80_0 yh80_1 ym80; exfalso; omega
          | succ nF ih80 =>
            intro l1_h80 Gh80 yh80_0 yh80_1 ym80
            refine r_ex hX hP 2 (pc' := 82) (st' := [(2, this), (0, l1_h80)]) (lo' := [(0, (2, this)), (1, (0, l1_h80))]) rfl ?_
            refine r_getR hX hP rfl fl_X8_52_129 hS (fun if12 if12e if12s => ?_)
            refine r_peekI hX (tl_154 2 rfl (by decide)) if12s (fun sip13 sip13e sip13a sip13b => ?_)
            refine r_callV gd hX hP rfl cv_X8_93_154 if12s (d' := 0) (mc' := 0) (ms' := 0) (as' := []) (st := [(0, l1_h80)]) (by first | decide | omega) (by first | decide | omega) (by first | decide | omega) rfl rfl (Nat.le_of_ble_eq_true rfl) (c_size_Lis E S (hw [(118, -1), (129, 15)] (hw [(115, -1)] (hw [(95, -1)] (hw [(95, -1)] (hw [(95, -1)] (up (up (up (up G 129 this 1 0) 129 this 2 0) 129 this 16 0) 129 this 15 0) Gh22) G7) G9) G11) Gh80) if12  if12s sip13 sip13e) ?_
            rintro _ _ _ ⟨rfl, rfl, z14, rfl, z14a, z14b, f15⟩
            refine r_ic_ge hX hP rfl (tgt := 128) rfl (by first | decide | omega) (by first | decide | omega) (by first | decide | omega) (by first | decide | omega) (fun c16 => ?_) (fun c16 => ?_)
            · skip
              refine r_ex hX hP 2 (pc' := 130) (st' := []) (lo' := [(0, (2, this)), (1, (0, 0))]) rfl ?_
              have loop130 : ∀ (nF : Nat) (l1_h130 : Int) (Gh130 : Gh), 0 ≤ l1_h130 → l1_h130 ≤ 60 → 60 - l1_h130 < (nF : Int) → X 0 0 130 [] [(0, (2, this)), (1, (0, l1_h130))] S (hw [(118, -1), (129, 15)] (hw [(118, -1), (129, 15)] (hw [(115, -1)] (hw [(95, -1)] (hw [(95, -1)] (hw [(95, -1)] (up (up (up (up G 129 this 1 0) 129 this 2 0) 129 this 16 0) 129 this 15 0) Gh22) G7) G9) G11) Gh80) Gh130) := by
                intro nF
                induction nF with
                | zero => intro l1_h130 Gh130 yh130_0 yh130_1 ym130; exfalso; omega
                | succ nF ih130 =>
                  intro l1_h130 Gh130 yh130_0 yh130_1 ym130
                  refine r_ex hX hP 2 (pc' := 132) (st' := [(2, this), (0, l1_h130)]) (lo' := [(0, (2, this)), (1, (0, l1_h130))]) rfl ?_
                  refine r_getR hX hP rfl fl_X8_56_129 hS (fun tf17 tf17e tf17s => ?_)
                  refine r_peekI hX (tl_155 2 rfl (by decide)) tf17s (fun sip18 sip18e sip18a sip18b => ?_)
                  refine r_callV gd hX hP rfl cv_X8_93_155 tf17s (d' := 0) (mc' := 0) (ms' := 0) (as' := []) (st := [(0, l1_h130)]) (by first | decide | omega) (by first | decide | omega) (by first | decide | omega) rfl rfl (Nat.le_of_ble_eq_true rfl) (c_size_Ltr E S (hw [(118, -1), (129, 15)] (hw [(118, -1), (129, 15)] (hw [(115, -1)] (hw [(95, -1)] (hw [(95, -1)] (hw [(95, -1)] (up (up (up (up G 129 this 1 0) 129 this 2 0) 129 this 16 0) 129 this 15 0) Gh22) G7) G9) G11) Gh80) Gh130) tf17  tf17s sip18 sip18e) ?_
                  rintro _ _ _ ⟨rfl, rfl, z19, rfl, z19a, z19b, f20⟩
                  refine r_ic_ge hX hP rfl (tgt := 178) rfl (by first | decide | omega) (by first | decide | omega) (by first | decide | omega) (by first | decide | omega) (fun c21 => ?_) (fun c21 => ?_)
                  · skip
                    refine r_ex hX hP 2 (pc' := 180) (st' := []) (lo' := [(0, (2, this)), (1, (0, 0))]) rfl ?_
                    have loop180 : ∀ (nF : Nat) (l1_h180 : Int) (Gh180 : Gh), 0 ≤ l1_h180 → l1_h180 ≤ 60 → 60 - l1_h180 < (nF : Int) → X 0 0 180 [] [(0, (2, this)), (1, (0, l1_h180))] S (hw [(118, -1), (129, 15)] (hw [(118, -1), (129, 15)] (hw [(118, -1), (129, 15)] (hw [(115, -1)] (hw [(95, -1)] (hw [(95, -1)] (hw [(95, -1)] (up (up (up (up G 129 this 1 0) 129 this 2 0) 129 this 16 0) 129 this 15 0) Gh22) G7) G9) G11) Gh80) Gh130) Gh180) := by
                      intro nF
                      induction nF with
                      | zero => intro l1_h180 Gh180 yh180_0 yh180_1 ym180; exfalso; omega
                      | succ nF ih180 =>
                        intro l1_h180 Gh180 yh180_0 yh180_1 ym180
                        refine r_ex hX hP 2 (pc' := 182) (st' := [(2, this), (0, l1_h180)]) (lo' := [(0, (2, this)), (1, (0, l1_h180))]) rfl ?_
                        refine r_getR hX hP rfl fl_X8_59_129 hS (fun ef22 ef22e ef22s => ?_)
                        refine r_peekI hX (tl_156 2 rfl (by decide)) ef22s (fun sip23 sip23e sip23a sip23b => ?_)
                        refine r_callV gd hX hP rfl cv_X8_93_156 ef22s (d' := 0) (mc' := 0) (ms' := 0) (as' := []) (st := [(0, l1_h180)]) (by first | decide | omega) (by first | decide | omega) (by first | decide | omega) rfl rfl (Nat.le_of_ble_eq_true rfl) (c_size_Lev E S (hw [(118, -1), (129, 15)] (hw [(118, -1), (129, 15)] (hw [(118, -1), (129, 15)] (hw [(115, -1)] (hw [(95, -1)] (hw [(95, -1)] (hw [(95, -1)] (up (up (up (up G 129 this 1 0) 129 this 2 0) 129 this 16 0) 129 this 15 0) Gh22) G7) G9) G11) Gh80) Gh130) Gh180) ef22  ef22s sip23 sip23e) ?_
                        rintro _ _ _ ⟨rfl, rfl, z24, rfl, z24a, z24b, f25⟩
                        refine r_ic_ge hX hP rfl (tgt := 228) rfl (by first | decide | omega) (by first | decide | omega) (by first | decide | omega) (by first | decide | omega) (fun c26 => ?_) (fun c26 => ?_)
                        · skip
                          exact r_retV hX hP rfl rfl (by first | decide | omega) (by first | decide | omega) ⟨rfl, ⟨_, (hw_sub (hw_sub (hw_sub (hw_sub (hw_sub (hw_sub (hw_sub (hw_up (hw_up (hw_up (hw_up (hw_refl _ _) rfl) rfl) rfl) rfl) rfl) rfl) rfl) rfl) rfl) rfl) rfl).symm⟩, rfl, 0, h3, (by first | decide | omega)⟩
                        · skip
                          refine r_ex hX hP 2 (pc' := 193) (st' := [(2, this), (2, this)]) (lo' := [(0, (2, this)), (1, (0, l1_h180))]) rfl ?_
                          refine r_getKR hX hP rfl fl_X8_59_129 hS (x := ef22) ef22e ?_
                          refine r_ex hX hP 1 (pc' := 197) (st' := [(0, l1_h180), (2, ef22), (2, this)]) (lo' := [(0, (2, this)), (1, (0, l1_h180))]) rfl ?_
                          have ci27 : CI E S (hw [(118, -1), (129, 15)] (hw [(118, -1), (129, 15)] (hw [(118, -1), (129, 15)] (hw [(115, -1)] (hw [(95, -1)] (hw [(95, -1)] (hw [(95, -1)] (up (up (up (up G 129 this 1 0) 129 this 2 0) 129 this 16 0) 129 this 15 0) Gh22) G7) G9) G11) Gh80) Gh130) Gh180) := (ci_hw (ci_hw (ci_hw (ci_hw (ci_hw (ci_hw (ci_hw (ci_up (ci_up (ci_up (ci_up ci rfl) rfl) rfl) rfl) rfl) rfl) rfl) rfl) rfl) rfl) rfl)
                          refine r_callV gd hX hP rfl cv_X8_97_156 ef22s (d' := 2) (mc' := 0) (ms' := 0) (as' := [(0, l1_h180)]) (st := [(2, this)]) (by first | decide | omega) (by first | decide | omega) (by first | decide | omega) rfl rfl (Nat.le_of_ble_eq_true rfl) (c_get_Lev E S (hw [(118, -1), (129, 15)] (hw [(118, -1), (129, 15)] (hw [(118, -1), (129, 15)] (hw [(115, -1)] (hw [(95, -1)] (hw [(95, -1)] (hw [(95, -1)] (up (up (up (up G 129 this 1 0) 129 this 2 0) 129 this 16 0) 129 this 15 0) Gh22) G7) G9) G11) Gh80) Gh130) Gh180) ef22 l1_h180 ef22s sip23 sip23e (by first | decide | omega) (by first | decide | omega) (by first | decide | omega) ci27) ?_
                          rintro _ _ _ ⟨rfl, rfl, z28, rfl, z28s⟩
                          refine r_cast hX hP rfl (tbg sg5 90 rfl rfl) ck_137_X10 z28s ?_
                          refine r_ex hX hP 1 (pc' := 204) (st' := [(2, this), (2, z28), (2, this)]) (lo' := [(0, (2, this)), (1, (0, l1_h180))]) rfl ?_
                          refine r_getKR hX hP rfl fl_X8_59_129 hS (x := ef22) ef22e ?_
                          refine r_ex hX hP 1 (pc' := 208) (st' := [(0, l1_h180), (2, ef22), (2, z28), (2, this)]) (lo' := [(0, (2, this)), (1, (0, l1_h180))]) rfl ?_
                          refine r_callV gd hX hP rfl cv_X8_97_156 ef22s (d' := 2) (mc' := 0) (ms' := 0) (as' := [(0, l1_h180)]) (st := [(2, z28), (2, this)]) (by first | decide | omega) (by first | decide | omega) (by first | decide | omega) rfl rfl (Nat.le_of_ble_eq_true rfl) (c_get_Lev E S (hw [(118, -1), (129, 15)] (hw [(118, -1), (129, 15)] (hw [(118, -1), (129, 15)] (hw [(115, -1)] (hw [(95, -1)] (hw [(95, -1)] (hw [(95, -1)] (up (up (up (up G 129 this 1 0) 129 this 2 0) 129 this 16 0) 129 this 15 0) Gh22) G7) G9) G11) Gh80) Gh130) Gh180) ef22 l1_h180 ef22s sip23 sip23e (by first | decide | omega) (by first | decide | omega) (by first | decide | omega) ci27) ?_
                          rintro _ _ _ ⟨rfl, rfl, z29, rfl, z29s⟩
                          refine r_cast hX hP rfl (tbg sg5 103 rfl rfl) ck_137_X2 z29s ?_
                          refine r_getI hX hP rfl fl_X8_135_137 z29s (fun rf30 rf30e rf30a rf30b => ?_)
                          refine r_ex hX hP 2 (pc' := 219) (st' := [(0, l1_h180), (0, 2), (0, rf30), (2, z28), (2, this)]) (lo' := [(0, (2, this)), (1, (0, l1_h180))]) rfl ?_
                          refine r_callV gd hX hP rfl cv_X8_131_129 hS (d' := 1) (mc' := 0) (ms' := 0) (as' := [(2, z28), (0, rf30), (0, 2), (0, l1_h180)]) (st := []) (by first | decide | omega) (by first | decide | omega) (by first | decide | omega) rfl rfl (Nat.le_of_ble_eq_true rfl) (c_line_Evt E S (hw [(118, -1), (129, 15)] (hw [(118, -1), (129, 15)] (hw [(118, -1), (129, 15)] (hw [(115, -1)] (hw [(95, -1)] (hw [(95, -1)] (hw [(95, -1)] (up (up (up (up G 129 this 1 0) 129 this 2 0) 129 this 16 0) 129 this 15 0) Gh22) G7) G9) G11) Gh80) Gh130) Gh180) this z28 rf30 2 l1_h180 hS z28s (by first | decide | omega) (by first | decide | omega) (by first | decide | omega) (by first | decide | omega) (by first | decide | omega) (by first | decide | omega)) ?_
                          rintro _ _ _ ⟨rfl, ⟨G31, rfl⟩, rfl, -⟩
                          refine r_ex hX hP 2 (pc' := 180) (st' := []) (lo' := [(0, (2, this)), (1, (0, (l1_h180 + 1)))]) rfl ?_
                          refine r_eqG (X := X) (hw_sub (hw_base _ _ _) rfl) ?_
                          exact ih180 (l1_h180 + 1) _ (by first | decide | omega) (by first | decide | omega) (by first | decide | omega)
                    refine r_eqG (X := X) (hw_refl [(118, -1), (129, 15)] _) ?_
                    exact loop180 ((60 - 0) + 1 : Int).toNat 0 _ (by first | decide | omega) (by first | decide | omega) (by first | decide | omega)
                  · skip
                    refine r_ex hX hP 2 (pc' := 143) (st' := [(2, this), (2, this)]) (lo' := [(0, (2, this)), (1, (0, l1_h130))]) rfl ?_
                    refine r_getKR hX hP rfl fl_X8_56_129 hS (x := tf17) tf17e ?_
                    refine r_ex hX hP 1 (pc' := 147) (st' := [(0, l1_h130), (2, tf17), (2, this)]) (lo' := [(0, (2, this)), (1, (0, l1_h130))]) rfl ?_
                    have ci32 : CI E S (hw [(118, -1), (129, 15)] (hw [(118, -1), (129, 15)] (hw [(115, -1)] (hw [(95, -1)] (hw [(95, -1)] (hw [(95, -1)] (up (up (up (up G 129 this 1 0) 129 this 2 0) 129 this 16 0) 129 this 15 0) Gh22) G7) G9) G11) Gh80) Gh130) := (ci_hw (ci_hw (ci_hw (ci_hw (ci_hw (ci_hw (ci_up (ci_up (ci_up (ci_up ci rfl) rfl) rfl) rfl) rfl) rfl) rfl) rfl) rfl) rfl)
                    refine r_callV gd hX hP rfl cv_X8_97_155 tf17s (d' := 2) (mc' := 0) (ms' := 0) (as' := [(0, l1_h130)]) (st := [(2, this)]) (by first | decide | omega) (by first | decide | omega) (by first | decide | omega) rfl rfl (Nat.le_of_ble_eq_true rfl) (c_get_Ltr E S (hw [(118, -1), (129, 15)] (hw [(118, -1), (129, 15)] (hw [(115, -1)] (hw [(95, -1)] (hw [(95, -1)] (hw [(95, -1)] (up (up (up (up G 129 this 1 0) 129 this 2 0) 129 this 16 0) 129 this 15 0) Gh22) G7) G9) G11) Gh80) Gh130) tf17 l1_h130 tf17s sip18 sip18e (by first | decide | omega) (by first | decide | omega) (by first | decide | omega) ci32) ?_
                    rintro _ _ _ ⟨rfl, rfl, z33, rfl, z33s⟩
                    refine r_cast hX hP rfl (tbg sg5 90 rfl rfl) ck_140_X10 z33s ?_
                    refine r_ex hX hP 1 (pc' := 154) (st' := [(2, this), (2, z33), (2, this)]) (lo' := [(0, (2, this)), (1, (0, l1_h130))]) rfl ?_
                    refine r_getKR hX hP rfl fl_X8_56_129 hS (x := tf17) tf17e ?_
                    refine r_ex hX hP 1 (pc' := 158) (st' := [(0, l1_h130), (2, tf17), (2, z33), (2, this)]) (lo' := [(0, (2, this)), (1, (0, l1_h130))]) rfl ?_
                    refine r_callV gd hX hP rfl cv_X8_97_155 tf17s (d' := 2) (mc' := 0) (ms' := 0) (as' := [(0, l1_h130)]) (st := [(2, z33), (2, this)]) (by first | decide | omega) (by first | decide | omega) (by first | decide | omega) rfl rfl (Nat.le_of_ble_eq_true rfl) (c_get_Ltr E S (hw [(118, -1), (129, 15)] (hw [(118, -1), (129, 15)] (hw [(115, -1)] (hw [(95, -1)] (hw [(95, -1)] (hw [(95, -1)] (up (up (up (up G 129 this 1 0) 129 this 2 0) 129 this 16 0) 129 this 15 0) Gh22) G7) G9) G11) Gh80) Gh130) tf17 l1_h130 tf17s sip18 sip18e (by first | decide | omega) (by first | decide | omega) (by first | decide | omega) ci32) ?_
                    rintro _ _ _ ⟨rfl, rfl, z34, rfl, z34s⟩
                    refine r_cast hX hP rfl (tbg sg5 91 rfl rfl) ck_140_X1 z34s ?_
                    refine r_getI hX hP rfl fl_X8_128_140 z34s (fun df35 df35e df35a df35b => ?_)
                    refine r_ex hX hP 2 (pc' := 169) (st' := [(0, l1_h130), (0, 1), (0, df35), (2, z33), (2, this)]) (lo' := [(0, (2, this)), (1, (0, l1_h130))]) rfl ?_
                    refine r_callV gd hX hP rfl cv_X8_131_129 hS (d' := 1) (mc' := 0) (ms' := 0) (as' := [(2, z33), (0, df35), (0, 1), (0, l1_h130)]) (st := []) (by first | decide | omega) (by first | decide | omega) (by first | decide | omega) rfl rfl (Nat.le_of_ble_eq_true rfl) (c_line_Trd E S (hw [(118, -1), (129, 15)] (hw [(118, -1), (129, 15)] (hw [(115, -1)] (hw [(95, -1)] (hw [(95, -1)] (hw [(95, -1)] (up (up (up (up G 129 this 1 0) 129 this 2 0) 129 this 16 0) 129 this 15 0) Gh22) G7) G9) G11) Gh80) Gh130) this z33 df35 1 l1_h130 hS z33s (by first | decide | omega) (by first | decide | omega) (by first | decide | omega) (by first | decide | omega) (by first | decide | omega) (by first | decide | omega)) ?_
                    rintro _ _ _ ⟨rfl, ⟨G36, rfl⟩, rfl, -⟩
                    refine r_ex hX hP 2 (pc' := 130) (st' := []) (lo' := [(0, (2, this)), (1, (0, (l1_h130 + 1)))]) rfl ?_
                    refine r_eqG (X := X) (hw_sub (hw_base _ _ _) rfl) ?_
                    exact ih130 (l1_h130 + 1) _ (by first | decide | omega) (by first | decide | omega) (by first | decide | omega)
              refine r_eqG (X := X) (hw_refl [(118, -1), (129, 15)] _) ?_
              exact loop130 ((60 - 0) + 1 : Int).toNat 0 _ (by first | decide | omega) (by first | decide | omega) (by first | decide | omega)
            · skip
              refine r_ex hX hP 2 (pc' := 93) (st' := [(2, this), (2, this)]) (lo' := [(0, (2, this)), (1, (0, l1_h80))]) rfl ?_
              refine r_getKR hX hP rfl fl_X8_52_129 hS (x := if12) if12e ?_
              refine r_ex hX hP 1 (pc' := 97) (st' := [(0, l1_h80), (2, if12), (2, this)]) (lo' := [(0, (2, this)), (1, (0, l1_h80))]) rfl ?_
              have ci37 : CI E S (hw [(118, -1), (129, 15)] (hw [(115, -1)] (hw [(95, -1)] (hw [(95, -1)] (hw [(95, -1)] (up (up (up (up G 129 this 1 0) 129 this 2 0) 129 this 16 0) 129 this 15 0) Gh22) G7) G9) G11) Gh80) := (ci_hw (ci_hw (ci_hw (ci_hw (ci_hw (ci_up (ci_up (ci_up (ci_up ci rfl) rfl) rfl) rfl) rfl) rfl) rfl) rfl) rfl)
              refine r_callV gd hX hP rfl cv_X8_97_154 if12s (d' := 2) (mc' := 0) (ms' := 0) (as' := [(0, l1_h80)]) (st := [(2, this)]) (by first | decide | omega) (by first | decide | omega) (by first | decide | omega) rfl rfl (Nat.le_of_ble_eq_true rfl) (c_get_Lis E S (hw [(118, -1), (129, 15)] (hw [(115, -1)] (hw [(95, -1)] (hw [(95, -1)] (hw [(95, -1)] (up (up (up (up G 129 this 1 0) 129 this 2 0) 129 this 16 0) 129 this 15 0) Gh22) G7) G9) G11) Gh80) if12 l1_h80 if12s sip13 sip13e (by first | decide | omega) (by first | decide | omega) (by first | decide | omega) ci37) ?_
              rintro _ _ _ ⟨rfl, rfl, z38, rfl, z38s⟩
              refine r_cast hX hP rfl (tbg sg5 90 rfl rfl) ck_139_X10 z38s ?_
              refine r_ex hX hP 1 (pc' := 104) (st' := [(2, this), (2, z38), (2, this)]) (lo' := [(0, (2, this)), (1, (0, l1_h80))]) rfl ?_
              refine r_getKR hX hP rfl fl_X8_52_129 hS (x := if12) if12e ?_
              refine r_ex hX hP 1 (pc' := 108) (st' := [(0, l1_h80), (2, if12), (2, z38), (2, this)]) (lo' := [(0, (2, this)), (1, (0, l1_h80))]) rfl ?_
              refine r_callV gd hX hP rfl cv_X8_97_154 if12s (d' := 2) (mc' := 0) (ms' := 0) (as' := [(0, l1_h80)]) (st := [(2, z38), (2, this)]) (by first | decide | omega) (by first | decide | omega) (by first | decide | omega) rfl rfl (Nat.le_of_ble_eq_true rfl) (c_get_Lis E S (hw [(118, -1), (129, 15)] (hw [(115, -1)] (hw [(95, -1)] (hw [(95, -1)] (hw [(95, -1)] (up (up (up (up G 129 this 1 0) 129 this 2 0) 129 this 16 0) 129 this 15 0) Gh22) G7) G9) G11) Gh80) if12 l1_h80 if12s sip13 sip13e (by first | decide | omega) (by first | decide | omega) (by first | decide | omega) ci37) ?_
              rintro _ _ _ ⟨rfl, rfl, z39, rfl, z39s⟩
              refine r_cast hX hP rfl (tbg sg5 91 rfl rfl) ck_139_X1 z39s ?_
              refine r_getI hX hP rfl fl_X8_128_139 z39s (fun df40 df40e df40a df40b => ?_)
              refine r_ex hX hP 2 (pc' := 119) (st' := [(0, l1_h80), (0, 0), (0, df40), (2, z38), (2, this)]) (lo' := [(0, (2, this)), (1, (0, l1_h80))]) rfl ?_
              refine r_callV gd hX hP rfl cv_X8_131_129 hS (d' := 1) (mc' := 0) (ms' := 0) (as' := [(2, z38), (0, df40), (0, 0), (0, l1_h80)]) (st := []) (by first | decide | omega) (by first | decide | omega) (by first | decide | omega) rfl rfl (Nat.le_of_ble_eq_true rfl) (c_line_Iss E S (hw [(118, -1), (129, 15)] (hw [(115, -1)] (hw [(95, -1)] (hw [(95, -1)] (hw [(95, -1)] (up (up (up (up G 129 this 1 0) 129 this 2 0) 129 this 16 0) 129 this 15 0) Gh22) G7) G9) G11) Gh80) this z38 df40 0 l1_h80 hS z38s (by first | decide | omega) (by first | decide | omega) (by first | decide | omega) (by first | decide | omega) (by first | decide | omega) (by first | decide | omega)) ?_
              rintro _ _ _ ⟨rfl, ⟨G41, rfl⟩, rfl, -⟩
              refine r_ex hX hP 2 (pc' := 80) (st' := []) (lo' := [(0, (2, this)), (1, (0, (l1_h80 + 1)))]) rfl ?_
              refine r_eqG (X := X) (hw_sub (hw_base _ _ _) rfl) ?_
              exact ih80 (l1_h80 + 1) _ (by first | decide | omega) (by first | decide | omega) (by first | decide | omega)
        refine r_eqG (X := X) (hw_refl [(118, -1), (129, 15)] _) ?_
        exact loop80 ((60 - 0) + 1 : Int).toNat 0 _ (by first | decide | omega) (by first | decide | omega) (by first | decide | omega)
      · skip
        refine r_ex hX hP 1 (pc' := 29) (st' := [(2, this)]) (lo' := [(0, (2, this)), (1, (0, l1_h22))]) rfl ?_
        refine r_getR hX hP rfl fl_X8_22_129 hS (fun hf42 hf42e hf42s => ?_)
        refine r_ex hX hP 1 (pc' := 33) (st' := [(0, l1_h22), (2, hf42)]) (lo' := [(0, (2, this)), (1, (0, l1_h22))]) rfl ?_
        refine r_aald hX hP rfl al_114 rfl hf42s (by first | decide | omega) (by first | decide | omega) (fun r43 r43e r43s => ?_)
        refine r_ex hX hP 1 (pc' := 35) (st' := [(1, 0), (2, r43)]) (lo' := [(0, (2, this)), (1, (0, l1_h22))]) rfl ?_
        refine r_callS gd hX hP rfl cs_X8_117 (d' := 0) (mc' := 0) (ms' := 0) (as' := [(2, r43), (1, 0)]) (st := []) (by first | decide | omega) (by first | decide | omega) (by first | decide | omega) rfl rfl (Nat.le_of_ble_eq_true rfl) (c_fillJ_J20 E S (hw [(95, -1)] (up (up (up (up G 129 this 1 0) 129 this 2 0) 129 this 16 0) 129 this 15 0) Gh22) r43 0 r43s (by first | decide | omega) (by first | decide | omega)) ?_
        rintro _ _ _ ⟨rfl, ⟨G44, rfl⟩, rfl, -⟩
        refine r_ex hX hP 1 (pc' := 39) (st' := [(2, this)]) (lo' := [(0, (2, this)), (1, (0, l1_h22))]) rfl ?_
        refine r_getR hX hP rfl fl_X8_25_129 hS (fun tf45 tf45e tf45s => ?_)
        refine r_ex hX hP 1 (pc' := 43) (st' := [(0, l1_h22), (2, tf45)]) (lo' := [(0, (2, this)), (1, (0, l1_h22))]) rfl ?_
        refine r_aald hX hP rfl al_114 rfl tf45s (by first | decide | omega) (by first | decide | omega) (fun r46 r46e r46s => ?_)
        refine r_ex hX hP 1 (pc' := 45) (st' := [(1, 0), (2, r46)]) (lo' := [(0, (2, this)), (1, (0, l1_h22))]) rfl ?_
        refine r_callS gd hX hP rfl cs_X8_117 (d' := 0) (mc' := 0) (ms' := 0) (as' := [(2, r46), (1, 0)]) (st := []) (by first | decide | omega) (by first | decide | omega) (by first | decide | omega) rfl rfl (Nat.le_of_ble_eq_true rfl) (c_fillJ_J20 E S (hw [(95, -1)] (hw [(95, -1)] (up (up (up (up G 129 this 1 0) 129 this 2 0) 129 this 16 0) 129 this 15 0) Gh22) G44) r46 0 r46s (by first | decide | omega) (by first | decide | omega)) ?_
        rintro _ _ _ ⟨rfl, ⟨G47, rfl⟩, rfl, -⟩
        refine r_ex hX hP 2 (pc' := 22) (st' := []) (lo' := [(0, (2, this)), (1, (0, (l1_h22 + 1)))]) rfl ?_
        refine r_eqG (X := X) (hw_sub (hw_sub (hw_base _ _ _) rfl) rfl) ?_
        exact ih22 (l1_h22 + 1) _ (by first | decide | omega) (by first | decide | omega) (by first | decide | omega)
  refine r_eqG (X := X) (hw_refl [(95, -1)] _) ?_
  exact loop22 ((20 - 0) + 1 : Int).toNat 0 _ (by first | decide | omega) (by first | decide | omega) (by first | decide | omega)
set_option maxRecDepth 100000 in
set_option maxHeartbeats 4000000 in
theorem c_X8_runIssue (E : En) (S : Sg) (G : Gh) (this : Int) (issue : Int) (hS : S this = 129) (issue_s : S issue = 139) : Calls E mX8_runIssue [(2, this), (2, issue)] S G 0 0 0 (fun r S' G' => S = S' ∧ (∃ G1, hw [(95, -1)] G G1 = G') ∧ r = none ∧ True) := by
  refine calls_by [(0, (2, this)), (1, (2, issue))] rfl rfl (Nat.le_of_ble_eq_true rfl) (fun X hX => ?_)
  have hP := hPX8_runIssue
  refine r_ex hX hP 1 (pc' := 1) (st' := [(2, this)]) (lo' := [(0, (2, this)), (1, (2, issue))]) rfl ?_
  refine r_getR hX hP rfl fl_X8_22_129 hS (fun hf1 hf1e hf1s => ?_)
  refine r_ex hX hP 1 (pc' := 5) (st' := [(2, issue), (2, hf1)]) (lo' := [(0, (2, this)), (1, (2, issue))]) rfl ?_
  refine r_getI hX hP rfl fl_X8_142_139 issue_s (fun pf2 pf2e pf2a pf2b => ?_)
  refine r_aald hX hP rfl al_114 rfl hf1s (by first | decide | omega) (by first | decide | omega) (fun r3 r3e r3s => ?_)
  refine r_ex hX hP 1 (pc' := 10) (st' := [(2, issue), (2, r3)]) (lo' := [(0, (2, this)), (1, (2, issue))]) rfl ?_
  refine r_getI hX hP rfl fl_X8_145_139 issue_s (fun tf4 tf4e tf4a tf4b => ?_)
  refine r_ex hX hP 1 (pc' := 14) (st' := [(0, tf4), (2, r3), (0, tf4), (2, r3)]) (lo' := [(0, (2, this)), (1, (2, issue))]) rfl ?_
  refine r_lald hX hP rfl al_95 r3s (by first | decide | omega) (by first | decide | omega) (fun x5 x5e x5a x5b => ?_)
  refine r_ex hX hP 1 (pc' := 16) (st' := [(2, issue), (1, x5), (0, tf4), (2, r3)]) (lo' := [(0, (2, this)), (1, (2, issue))]) rfl ?_
  refine r_getI hX hP rfl fl_X8_148_139 issue_s (fun nf6 nf6e nf6a nf6b => ?_)
  refine r_i2l hX hP rfl (by first | decide | omega) (by first | decide | omega) ?_
  refine r_ex hX hP 1 (pc' := 21) (st' := [(1, (x5 + nf6)), (0, tf4), (2, r3)]) (lo' := [(0, (2, this)), (1, (2, issue))]) rfl ?_
  refine r_hvL hX (fun w7 w7a w7b w7e => ?_)
  refine r_lastK hX hP rfl al_95 r3s (by first | decide | omega) (by first | decide | omega) (by first | decide | omega) (by first | decide | omega) (fun h8 => ?_)
  refine r_ex hX hP 1 (pc' := 23) (st' := [(2, this)]) (lo' := [(0, (2, this)), (1, (2, issue))]) rfl ?_
  refine r_getR hX hP rfl fl_X8_25_129 hS (fun tf9 tf9e tf9s => ?_)
  refine r_ex hX hP 1 (pc' := 27) (st' := [(2, issue), (2, tf9)]) (lo' := [(0, (2, this)), (1, (2, issue))]) rfl ?_
  refine r_getKI hX hP rfl fl_X8_142_139 issue_s (x := pf2) pf2e ?_
  refine r_aald hX hP rfl al_114 rfl tf9s (by first | decide | omega) (by first | decide | omega) (fun r10 r10e r10s => ?_)
  refine r_ex hX hP 1 (pc' := 32) (st' := [(2, issue), (2, r10)]) (lo' := [(0, (2, this)), (1, (2, issue))]) rfl ?_
  refine r_getKI hX hP rfl fl_X8_145_139 issue_s (x := tf4) tf4e ?_
  refine r_ex hX hP 1 (pc' := 36) (st' := [(0, tf4), (2, r10), (0, tf4), (2, r10)]) (lo' := [(0, (2, this)), (1, (2, issue))]) rfl ?_
  refine r_lald hX hP rfl al_95 r10s (by first | decide | omega) (by first | decide | omega) (fun x11 x11e x11a x11b => ?_)
  refine r_ex hX hP 1 (pc' := 38) (st' := [(2, issue), (1, x11), (0, tf4), (2, r10)]) (lo' := [(0, (2, this)), (1, (2, issue))]) rfl ?_
  refine r_getI hX hP rfl fl_X8_151_139 issue_s (fun pf12 pf12e pf12a pf12b => ?_)
  refine r_i2l hX hP rfl (by first | decide | omega) (by first | decide | omega) ?_
  refine r_ex hX hP 1 (pc' := 43) (st' := [(1, (x11 + pf12)), (0, tf4), (2, r10)]) (lo' := [(0, (2, this)), (1, (2, issue))]) rfl ?_
  refine r_hvL hX (fun w13 w13a w13b w13e => ?_)
  refine r_lastK hX hP rfl al_95 r10s (by first | decide | omega) (by first | decide | omega) (by first | decide | omega) (by first | decide | omega) (fun h14 => ?_)
  exact r_retV hX hP rfl rfl (by first | decide | omega) (by first | decide | omega) ⟨rfl, ⟨_, (hw_up (hw_up (hw_refl _ _) rfl) rfl).symm⟩, rfl, trivial⟩
set_option maxRecDepth 100000 in
set_option maxHeartbeats 4000000 in
theorem c_X8_runTrade (E : En) (S : Sg) (G : Gh) (this : Int) (trade : Int) (number : Int) (hS : S this = 129) (trade_s : S trade = 140) (number_a : 0 ≤ number) (number_b : number ≤ 39) : Calls E mX8_runTrade [(2, this), (2, trade), (0, number)] S G 0 0 0 (fun r S' G' => S = S' ∧ (∃ G1, hw [(95, -1), (115, -1)] G G1 = G') ∧ r = none ∧ True) := by
  refine calls_by [(0, (2, this)), (1, (2, trade)), (2, (0, number))] rfl rfl (Nat.le_of_ble_eq_true rfl) (fun X hX => ?_)
  have hP := hPX8_runTrade
  refine r_ex hX hP 1 (pc' := 1) (st' := [(2, this)]) (lo' := [(0, (2, this)), (1, (2, trade)), (2, (0, number))]) rfl ?_
  refine r_getR hX hP rfl fl_X8_22_129 hS (fun hf1 hf1e hf1s => ?_)
  refine r_ex hX hP 1 (pc' := 5) (st' := [(2, trade), (2, hf1)]) (lo' := [(0, (2, this)), (1, (2, trade)), (2, (0, number))]) rfl ?_
  refine r_getI hX hP rfl fl_X8_142_140 trade_s (fun pf2 pf2e pf2a pf2b => ?_)
  refine r_aald hX hP rfl al_114 rfl hf1s (by first | decide | omega) (by first | decide | omega) (fun r3 r3e r3s => ?_)
  refine r_ex hX hP 2 (pc' := 11) (st' := [(2, this)]) (lo' := [(0, (2, this)), (1, (2, trade)), (2, (0, number)), (3, (2, r3))]) rfl ?_
  refine r_getR hX hP rfl fl_X8_25_129 hS (fun tf4 tf4e tf4s => ?_)
  refine r_ex hX hP 1 (pc' := 15) (st' := [(2, trade), (2, tf4)]) (lo' := [(0, (2, this)), (1, (2, trade)), (2, (0, number)), (3, (2, r3))]) rfl ?_
  refine r_getKI hX hP rfl fl_X8_142_140 trade_s (x := pf2) pf2e ?_
  refine r_aald hX hP rfl al_114 rfl tf4s (by first | decide | omega) (by first | decide | omega) (fun r5 r5e r5s => ?_)
  refine r_ex hX hP 3 (pc' := 23) (st' := [(2, trade), (2, r3)]) (lo' := [(0, (2, this)), (1, (2, trade)), (2, (0, number)), (3, (2, r3)), (4, (2, r5))]) rfl ?_
  refine r_getI hX hP rfl fl_X8_153_140 trade_s (fun ff6 ff6e ff6a ff6b => ?_)
  refine r_lald hX hP rfl al_95 r3s (by first | decide | omega) (by first | decide | omega) (fun x7 x7e x7a x7b => ?_)
  refine r_ex hX hP 3 (pc' := 32) (st' := [(2, trade), (1, x7)]) (lo' := [(0, (2, this)), (1, (2, trade)), (2, (0, number)), (3, (2, r3)), (4, (2, r5)), (5, (1, x7))]) rfl ?_
  refine r_getI hX hP rfl fl_X8_148_140 trade_s (fun nf8 nf8e nf8a nf8b => ?_)
  refine r_i2l hX hP rfl (by first | decide | omega) (by first | decide | omega) ?_
  refine r_lc_lt hX hP rfl rfl (tgt := 47) rfl (by first | decide | omega) (by first | decide | omega) (by first | decide | omega) (by first | decide | omega) (fun c9 => ?_) (fun c9 => ?_)
  · skip
    refine r_ex hX hP 1 (pc' := 48) (st' := [(2, this)]) (lo' := [(0, (2, this)), (1, (2, trade)), (2, (0, number)), (3, (2, r3)), (4, (2, r5)), (5, (1, x7))]) rfl ?_
    refine r_getR hX hP rfl fl_X8_35_129 hS (fun sf10 sf10e sf10s => ?_)
    refine r_ex hX hP 2 (pc' := 53) (st' := [(0, 0), (0, number), (2, sf10)]) (lo' := [(0, (2, this)), (1, (2, trade)), (2, (0, number)), (3, (2, r3)), (4, (2, r5)), (5, (1, x7))]) rfl ?_
    refine r_iastK hX hP rfl al_115 sf10s (by first | decide | omega) (by first | decide | omega) (by first | decide | omega) (by first | decide | omega) (fun h11 => ?_)
    exact r_retV hX hP rfl rfl (by first | decide | omega) (by first | decide | omega) ⟨rfl, ⟨_, (hw_up (hw_refl _ _) rfl).symm⟩, rfl, trivial⟩
  · skip
    refine r_ex hX hP 2 (pc' := 43) (st' := [(1, 0), (1, x7)]) (lo' := [(0, (2, this)), (1, (2, trade)), (2, (0, number)), (3, (2, r3)), (4, (2, r5)), (5, (1, x7))]) rfl ?_
    refine r_lc_gt hX hP rfl rfl (tgt := 55) rfl (by first | decide | omega) (by first | decide | omega) (by first | decide | omega) (by first | decide | omega) (fun c12 => ?_) (fun c12 => ?_)
    · skip
      refine r_ex hX hP 2 (pc' := 58) (st' := [(2, trade), (2, r5)]) (lo' := [(0, (2, this)), (1, (2, trade)), (2, (0, number)), (3, (2, r3)), (4, (2, r5)), (5, (1, x7))]) rfl ?_
      refine r_getKI hX hP rfl fl_X8_153_140 trade_s (x := ff6) ff6e ?_
      refine r_lald hX hP rfl al_95 r5s (by first | decide | omega) (by first | decide | omega) (fun x13 x13e x13a x13b => ?_)
      refine r_ex hX hP 1 (pc' := 63) (st' := [(2, trade), (1, x13)]) (lo' := [(0, (2, this)), (1, (2, trade)), (2, (0, number)), (3, (2, r3)), (4, (2, r5)), (5, (1, x7))]) rfl ?_
      refine r_getKI hX hP rfl fl_X8_148_140 trade_s (x := nf8) nf8e ?_
      refine r_i2l hX hP rfl (by first | decide | omega) (by first | decide | omega) ?_
      refine r_ex hX hP 1 (pc' := 68) (st' := [(1, (x13 * nf8))]) (lo' := [(0, (2, this)), (1, (2, trade)), (2, (0, number)), (3, (2, r3)), (4, (2, r5)), (5, (1, x7))]) rfl ?_
      refine r_hvL hX (fun w14 w14a w14b w14e => ?_)
      refine r_ex hX hP 1 (pc' := 70) (st' := [(1, x7), (1, w14)]) (lo' := [(0, (2, this)), (1, (2, trade)), (2, (0, number)), (3, (2, r3)), (4, (2, r5)), (5, (1, x7))]) rfl ?_
      refine r_ldiv hX hP rfl (by first | decide | omega) (by first | decide | omega) (by first | decide | omega) (by first | decide | omega) (by first | decide | omega) ?_
      obtain ⟨q15, q15e⟩ : ∃ q : Int, q = (Int.tdiv w14 x7) := ⟨_, rfl⟩
      rw [← q15e]
      have q15b := td_gen q15e (by first | decide | omega)
      refine r_hvL hX (fun w16 w16a w16b w16e => ?_)
      refine r_ex hX hP 3 (pc' := 75) (st' := [(2, trade), (2, r3)]) (lo' := [(0, (2, this)), (1, (2, trade)), (2, (0, number)), (3, (2, r3)), (4, (2, r5)), (5, (1, x7)), (7, (1, w16))]) rfl ?_
      refine r_getKI hX hP rfl fl_X8_153_140 trade_s (x := ff6) ff6e ?_
      refine r_ex hX hP 1 (pc' := 79) (st' := [(0, ff6), (2, r3), (0, ff6), (2, r3)]) (lo' := [(0, (2, this)), (1, (2, trade)), (2, (0, number)), (3, (2, r3)), (4, (2, r5)), (5, (1, x7)), (7, (1, w16))]) rfl ?_
      refine r_laldK hX hP rfl al_95 r3s (by first | decide | omega) (by first | decide | omega) (x := x7) x7e ?_
      refine r_ex hX hP 1 (pc' := 81) (st' := [(2, trade), (1, x7), (0, ff6), (2, r3)]) (lo' := [(0, (2, this)), (1, (2, trade)), (2, (0, number)), (3, (2, r3)), (4, (2, r5)), (5, (1, x7)), (7, (1, w16))]) rfl ?_
      refine r_getKI hX hP rfl fl_X8_148_140 trade_s (x := nf8) nf8e ?_
      refine r_i2l hX hP rfl (by first | decide | omega) (by first | decide | omega) ?_
      refine r_ex hX hP 1 (pc' := 86) (st' := [(1, (x7 - nf8)), (0, ff6), (2, r3)]) (lo' := [(0, (2, this)), (1, (2, trade)), (2, (0, number)), (3, (2, r3)), (4, (2, r5)), (5, (1, x7)), (7, (1, w16))]) rfl ?_
      refine r_hvL hX (fun w17 w17a w17b w17e => ?_)
      refine r_lastK hX hP rfl al_95 r3s (by first | decide | omega) (by first | decide | omega) (by first | decide | omega) (by first | decide | omega) (fun h18 => ?_)
      refine r_ex hX hP 2 (pc' := 89) (st' := [(2, trade), (2, r3)]) (lo' := [(0, (2, this)), (1, (2, trade)), (2, (0, number)), (3, (2, r3)), (4, (2, r5)), (5, (1, x7)), (7, (1, w16))]) rfl ?_
      refine r_getI hX hP rfl fl_X8_145_140 trade_s (fun tf19 tf19e tf19a tf19b => ?_)
      refine r_ex hX hP 1 (pc' := 93) (st' := [(0, tf19), (2, r3), (0, tf19), (2, r3)]) (lo' := [(0, (2, this)), (1, (2, trade)), (2, (0, number)), (3, (2, r3)), (4, (2, r5)), (5, (1, x7)), (7, (1, w16))]) rfl ?_
      refine r_lald hX hP rfl al_95 r3s (by first | decide | omega) (by first | decide | omega) (fun x20 x20e x20a x20b => ?_)
      refine r_ex hX hP 1 (pc' := 95) (st' := [(2, trade), (1, x20), (0, tf19), (2, r3)]) (lo' := [(0, (2, this)), (1, (2, trade)), (2, (0, number)), (3, (2, r3)), (4, (2, r5)), (5, (1, x7)), (7, (1, w16))]) rfl ?_
      refine r_getKI hX hP rfl fl_X8_148_140 trade_s (x := nf8) nf8e ?_
      refine r_i2l hX hP rfl (by first | decide | omega) (by first | decide | omega) ?_
      refine r_ex hX hP 1 (pc' := 100) (st' := [(1, (x20 + nf8)), (0, tf19), (2, r3)]) (lo' := [(0, (2, this)), (1, (2, trade)), (2, (0, number)), (3, (2, r3)), (4, (2, r5)), (5, (1, x7)), (7, (1, w16))]) rfl ?_
      refine r_hvL hX (fun w21 w21a w21b w21e => ?_)
      refine r_lastK hX hP rfl al_95 r3s (by first | decide | omega) (by first | decide | omega) (by first | decide | omega) (by first | decide | omega) (fun h22 => ?_)
      refine r_ex hX hP 2 (pc' := 104) (st' := [(2, trade), (2, r5)]) (lo' := [(0, (2, this)), (1, (2, trade)), (2, (0, number)), (3, (2, r3)), (4, (2, r5)), (5, (1, x7)), (7, (1, w16))]) rfl ?_
      refine r_getKI hX hP rfl fl_X8_153_140 trade_s (x := ff6) ff6e ?_
      refine r_ex hX hP 1 (pc' := 108) (st' := [(0, ff6), (2, r5), (0, ff6), (2, r5)]) (lo' := [(0, (2, this)), (1, (2, trade)), (2, (0, number)), (3, (2, r3)), (4, (2, r5)), (5, (1, x7)), (7, (1, w16))]) rfl ?_
      refine r_lald hX hP rfl al_95 r5s (by first | decide | omega) (by first | decide | omega) (fun x23 x23e x23a x23b => ?_)
      refine r_ex hX hP 2 (pc' := 112) (st' := [(1, (x23 - w16)), (0, ff6), (2, r5)]) (lo' := [(0, (2, this)), (1, (2, trade)), (2, (0, number)), (3, (2, r3)), (4, (2, r5)), (5, (1, x7)), (7, (1, w16))]) rfl ?_
      refine r_hvL hX (fun w24 w24a w24b w24e => ?_)
      refine r_lastK hX hP rfl al_95 r5s (by first | decide | omega) (by first | decide | omega) (by first | decide | omega) (by first | decide | omega) (fun h25 => ?_)
      refine r_ex hX hP 2 (pc' := 116) (st' := [(2, trade), (2, r5)]) (lo' := [(0, (2, this)), (1, (2, trade)), (2, (0, number)), (3, (2, r3)), (4, (2, r5)), (5, (1, x7)), (7, (1, w16))]) rfl ?_
      refine r_getKI hX hP rfl fl_X8_145_140 trade_s (x := tf19) tf19e ?_
      refine r_ex hX hP 1 (pc' := 120) (st' := [(0, tf19), (2, r5), (0, tf19), (2, r5)]) (lo' := [(0, (2, this)), (1, (2, trade)), (2, (0, number)), (3, (2, r3)), (4, (2, r5)), (5, (1, x7)), (7, (1, w16))]) rfl ?_
      refine r_lald hX hP rfl al_95 r5s (by first | decide | omega) (by first | decide | omega) (fun x26 x26e x26a x26b => ?_)
      refine r_ex hX hP 2 (pc' := 124) (st' := [(1, (x26 + w16)), (0, tf19), (2, r5)]) (lo' := [(0, (2, this)), (1, (2, trade)), (2, (0, number)), (3, (2, r3)), (4, (2, r5)), (5, (1, x7)), (7, (1, w16))]) rfl ?_
      refine r_hvL hX (fun w27 w27a w27b w27e => ?_)
      refine r_lastK hX hP rfl al_95 r5s (by first | decide | omega) (by first | decide | omega) (by first | decide | omega) (by first | decide | omega) (fun h28 => ?_)
      refine r_ex hX hP 1 (pc' := 126) (st' := [(2, this)]) (lo' := [(0, (2, this)), (1, (2, trade)), (2, (0, number)), (3, (2, r3)), (4, (2, r5)), (5, (1, x7)), (7, (1, w16))]) rfl ?_
      refine r_getR hX hP rfl fl_X8_35_129 hS (fun sf29 sf29e sf29s => ?_)
      refine r_ex hX hP 2 (pc' := 131) (st' := [(0, 1), (0, number), (2, sf29)]) (lo' := [(0, (2, this)), (1, (2, trade)), (2, (0, number)), (3, (2, r3)), (4, (2, r5)), (5, (1, x7)), (7, (1, w16))]) rfl ?_
      refine r_iastK hX hP rfl al_115 sf29s (by first | decide | omega) (by first | decide | omega) (by first | decide | omega) (by first | decide | omega) (fun h30 => ?_)
      exact r_retV hX hP rfl rfl (by first | decide | omega) (by first | decide | omega) ⟨rfl, ⟨_, (hw_up (hw_up (hw_up (hw_up (hw_up (hw_refl _ _) rfl) rfl) rfl) rfl) rfl).symm⟩, rfl, trivial⟩
    · skip
      refine r_ex hX hP 1 (pc' := 48) (st' := [(2, this)]) (lo' := [(0, (2, this)), (1, (2, trade)), (2, (0, number)), (3, (2, r3)), (4, (2, r5)), (5, (1, x7))]) rfl ?_
      refine r_getR hX hP rfl fl_X8_35_129 hS (fun sf31 sf31e sf31s => ?_)
      refine r_ex hX hP 2 (pc' := 53) (st' := [(0, 0), (0, number), (2, sf31)]) (lo' := [(0, (2, this)), (1, (2, trade)), (2, (0, number)), (3, (2, r3)), (4, (2, r5)), (5, (1, x7))]) rfl ?_
      refine r_iastK hX hP rfl al_115 sf31s (by first | decide | omega) (by first | decide | omega) (by first | decide | omega) (by first | decide | omega) (fun h32 => ?_)
      exact r_retV hX hP rfl rfl (by first | decide | omega) (by first | decide | omega) ⟨rfl, ⟨_, (hw_up (hw_refl _ _) rfl).symm⟩, rfl, trivial⟩
set_option maxRecDepth 100000 in
set_option maxHeartbeats 4000000 in
theorem c_X8_hand (E : En) (S : Sg) (G : Gh) (this : Int) (where_ : Int) (amount : Int) (head : Int) (row : Int) (hS : S this = 129) (where__s : S where_ = 95) (amount_a : (-9223372036854775808) ≤ amount) (amount_b : amount ≤ 9223372036854775807) (head_a : 0 ≤ head) (head_b : head ≤ 19) (row_a : 0 ≤ row) (row_b : row ≤ 3) : Calls E mX8_hand [(2, this), (2, where_), (1, amount), (0, head), (0, row)] S G 3 0 0 (fun r S' G' => S = S' ∧ (∃ G1, hw [(95, -1), (96, -1), (97, -1)] G G1 = G') ∧ r = none ∧ True) := by
  refine calls_by [(0, (2, this)), (1, (2, where_)), (2, (1, amount)), (4, (0, head)), (5, (0, row))] rfl rfl (Nat.le_of_ble_eq_true rfl) (fun X hX => ?_)
  have hP := hPX8_hand
  refine r_ex hX hP 2 (pc' := 2) (st' := [(1, 0), (1, amount)]) (lo' := [(0, (2, this)), (1, (2, where_)), (2, (1, amount)), (4, (0, head)), (5, (0, row))]) rfl ?_
  refine r_lc_ne hX hP rfl rfl (tgt := 7) rfl (by first | decide | omega) (by first | decide | omega) (by first | decide | omega) (by first | decide | omega) (fun c1 => ?_) (fun c1 => ?_)
  · skip
    refine r_ex hX hP 1 (pc' := 8) (st' := [(2, this)]) (lo' := [(0, (2, this)), (1, (2, where_)), (2, (1, amount)), (4, (0, head)), (5, (0, row))]) rfl ?_
    refine r_getR hX hP rfl fl_X8_45_129 hS (fun af2 af2e af2s => ?_)
    refine r_ex hX hP 1 (pc' := 12) (st' := [(1, amount), (2, af2)]) (lo' := [(0, (2, this)), (1, (2, where_)), (2, (1, amount)), (4, (0, head)), (5, (0, row))]) rfl ?_
    refine r_mabsL hX hP rfl (tbg sg5 193 rfl rfl) (tbg sg5 194 rfl rfl) (tbg sg1 14 rfl rfl) (tbg sg5 195 rfl rfl) (by decide) (by decide) (by decide) (Nat.le_of_ble_eq_true rfl) (by first | decide | omega) (by first | decide | omega) (fun c3 => ?_) (fun c3 => ?_)
    · skip
      refine r_ex hX hP 2 (pc' := 19) (st' := [(0, row), (0, head), (1, amount), (2, af2)]) (lo' := [(0, (2, this)), (1, (2, where_)), (2, (1, amount)), (4, (0, head)), (5, (0, row))]) rfl ?_
      refine r_callV gd hX hP rfl cv_X8_239_130 af2s (d' := 2) (mc' := 0) (ms' := 0) (as' := [(1, amount), (0, head), (0, row)]) (st := []) (by first | decide | omega) (by first | decide | omega) (by first | decide | omega) rfl rfl (Nat.le_of_ble_eq_true rfl) (c_X0_part E S G af2 amount head row af2s (by first | decide | omega) (by first | decide | omega) (by first | decide | omega) (by first | decide | omega) (by first | decide | omega) (by first | decide | omega)) ?_
      rintro _ _ _ ⟨rfl, ⟨G4, rfl⟩, rfl, -⟩
      refine r_ex hX hP 2 (pc' := 26) (st' := []) (lo' := [(0, (2, this)), (1, (2, where_)), (2, (1, amount)), (4, (0, head)), (5, (0, row)), (6, (0, head))]) rfl ?_
      have loop26 : ∀ (nF : Nat) (l6_h26 : Int) (Gh26 : Gh), 0 ≤ l6_h26 → l6_h26 ≤ 20 → 20 - l6_h26 < (nF : Int) → X 0 0 26 [] [(0, (2, this)), (1, (2, where_)), (2, (1, amount)), (4, (0, head)), (5, (0, row)), (6, (0, l6_h26))] S (hw [(95, -1)] (hw [(95, -1), (96, -1), (97, -1)] G G4) Gh26) := by
        intro nF
        induction nF with
        | zero => intro l6_h26 Gh26 yh26_0 yh26_1 ym26; exfalso; omega
        | succ nF ih26 =>
          intro l6_h26 Gh26 yh26_0 yh26_1 ym26
          refine r_ex hX hP 2 (pc' := 29) (st' := [(2, this), (0, l6_h26)]) (lo' := [(0, (2, this)), (1, (2, where_)), (2, (1, amount)), (4, (0, head)), (5, (0, row)), (6, (0, l6_h26))]) rfl ?_
          refine r_getKR hX hP rfl fl_X8_45_129 hS (x := af2) af2e ?_
          refine r_getI hX hP rfl fl_X8_207_130 af2s (fun cf5 cf5e cf5a cf5b => ?_)
          refine r_ic_ge hX hP rfl (tgt := 96) rfl (by first | decide | omega) (by first | decide | omega) (by first | decide | omega) (by first | decide | omega) (fun c6 => ?_) (fun c6 => ?_)
          · skip
            exact r_retV hX hP rfl rfl (by first | decide | omega) (by first | decide | omega) ⟨rfl, ⟨_, (hw_sub (hw_sub (hw_refl _ _) rfl) rfl).symm⟩, rfl, trivial⟩
          · skip
            refine r_ex hX hP 1 (pc' := 39) (st' := [(2, this)]) (lo' := [(0, (2, this)), (1, (2, where_)), (2, (1, amount)), (4, (0, head)), (5, (0, row)), (6, (0, l6_h26))]) rfl ?_
            refine r_getKR hX hP rfl fl_X8_45_129 hS (x := af2) af2e ?_
            refine r_getR hX hP rfl fl_X8_211_130 af2s (fun tf7 tf7e tf7s => ?_)
            refine r_ex hX hP 1 (pc' := 47) (st' := [(0, l6_h26), (2, tf7)]) (lo' := [(0, (2, this)), (1, (2, where_)), (2, (1, amount)), (4, (0, head)), (5, (0, row)), (6, (0, l6_h26))]) rfl ?_
            refine r_iald hX hP rfl al_94 tf7s (by first | decide | omega) (by first | decide | omega) (fun x8 x8e x8a x8b => ?_)
            refine r_ex hX hP 1 (pc' := 50) (st' := [(0, head), (0, x8)]) (lo' := [(0, (2, this)), (1, (2, where_)), (2, (1, amount)), (4, (0, head)), (5, (0, row)), (6, (0, l6_h26))]) rfl ?_
            refine r_ic_ne hX hP rfl (tgt := 90) rfl (by first | decide | omega) (by first | decide | omega) (by first | decide | omega) (by first | decide | omega) (fun c9 => ?_) (fun c9 => ?_)
            · skip
              refine r_ex hX hP 2 (pc' := 26) (st' := []) (lo' := [(0, (2, this)), (1, (2, where_)), (2, (1, amount)), (4, (0, head)), (5, (0, row)), (6, (0, (l6_h26 + 1)))]) rfl ?_
              refine r_eqG (X := X) (hw_base _ _ _) ?_
              exact ih26 (l6_h26 + 1) _ (by first | decide | omega) (by first | decide | omega) (by first | decide | omega)
            · skip
              refine r_ex hX hP 3 (pc' := 57) (st' := [(0, l6_h26), (2, where_), (0, l6_h26), (2, where_)]) (lo' := [(0, (2, this)), (1, (2, where_)), (2, (1, amount)), (4, (0, head)), (5, (0, row)), (6, (0, l6_h26))]) rfl ?_
              refine r_lald hX hP rfl al_95 where__s (by first | decide | omega) (by first | decide | omega) (fun x10 x10e x10a x10b => ?_)
              refine r_ex hX hP 2 (pc' := 60) (st' := [(1, 0), (1, amount), (1, x10), (0, l6_h26), (2, where_)]) (lo' := [(0, (2, this)), (1, (2, where_)), (2, (1, amount)), (4, (0, head)), (5, (0, row)), (6, (0, l6_h26))]) rfl ?_
              refine r_lc_ge hX hP rfl rfl (tgt := 78) rfl (by first | decide | omega) (by first | decide | omega) (by first | decide | omega) (by first | decide | omega) (fun c11 => ?_) (fun c11 => ?_)
              · skip
                refine r_ex hX hP 1 (pc' := 79) (st' := [(2, this), (1, x10), (0, l6_h26), (2, where_)]) (lo' := [(0, (2, this)), (1, (2, where_)), (2, (1, amount)), (4, (0, head)), (5, (0, row)), (6, (0, l6_h26))]) rfl ?_
                refine r_getKR hX hP rfl fl_X8_45_129 hS (x := af2) af2e ?_
                refine r_getR hX hP rfl fl_X8_243_130 af2s (fun gf12 gf12e gf12s => ?_)
                refine r_ex hX hP 1 (pc' := 87) (st' := [(0, l6_h26), (2, gf12), (1, x10), (0, l6_h26), (2, where_)]) (lo' := [(0, (2, this)), (1, (2, where_)), (2, (1, amount)), (4, (0, head)), (5, (0, row)), (6, (0, l6_h26))]) rfl ?_
                refine r_lald hX hP rfl al_95 gf12s (by first | decide | omega) (by first | decide | omega) (fun x13 x13e x13a x13b => ?_)
                refine r_ex hX hP 1 (pc' := 89) (st' := [(1, (x10 + x13)), (0, l6_h26), (2, where_)]) (lo' := [(0, (2, this)), (1, (2, where_)), (2, (1, amount)), (4, (0, head)), (5, (0, row)), (6, (0, l6_h26))]) rfl ?_
                refine r_hvL hX (fun w14 w14a w14b w14e => ?_)
                refine r_lastK hX hP rfl al_95 where__s (by first | decide | omega) (by first | decide | omega) (by first | decide | omega) (by first | decide | omega) (fun h15 => ?_)
                refine r_ex hX hP 2 (pc' := 26) (st' := []) (lo' := [(0, (2, this)), (1, (2, where_)), (2, (1, amount)), (4, (0, head)), (5, (0, row)), (6, (0, (l6_h26 + 1)))]) rfl ?_
                refine r_eqG (X := X) (hw_up (hw_base _ _ _) rfl) ?_
                exact ih26 (l6_h26 + 1) _ (by first | decide | omega) (by first | decide | omega) (by first | decide | omega)
              · skip
                exfalso; omega
      refine r_eqG (X := X) (hw_refl [(95, -1)] _) ?_
      exact loop26 ((20 - head) + 1 : Int).toNat head _ (by first | decide | omega) (by first | decide | omega) (by first | decide | omega)
    · skip
      refine r_hvL hX (fun w16 w16a w16b w16e => ?_)
      refine r_ex hX hP 2 (pc' := 19) (st' := [(0, row), (0, head), (1, w16), (2, af2)]) (lo' := [(0, (2, this)), (1, (2, where_)), (2, (1, amount)), (4, (0, head)), (5, (0, row))]) rfl ?_
      refine r_callV gd hX hP rfl cv_X8_239_130 af2s (d' := 2) (mc' := 0) (ms' := 0) (as' := [(1, w16), (0, head), (0, row)]) (st := []) (by first | decide | omega) (by first | decide | omega) (by first | decide | omega) rfl rfl (Nat.le_of_ble_eq_true rfl) (c_X0_part E S G af2 w16 head row af2s (by first | decide | omega) (by first | decide | omega) (by first | decide | omega) (by first | decide | omega) (by first | decide | omega) (by first | decide | omega)) ?_
      rintro _ _ _ ⟨rfl, ⟨G17, rfl⟩, rfl, -⟩
      refine r_ex hX hP 2 (pc' := 26) (st' := []) (lo' := [(0, (2, this)), (1, (2, where_)), (2, (1, amount)), (4, (0, head)), (5, (0, row)), (6, (0, head))]) rfl ?_
      have loop26 : ∀ (nF : Nat) (l6_h26 : Int) (Gh26 : Gh), 0 ≤ l6_h26 → l6_h26 ≤ 20 → 20 - l6_h26 < (nF : Int) → X 0 0 26 [] [(0, (2, this)), (1, (2, where_)), (2, (1, amount)), (4, (0, head)), (5, (0, row)), (6, (0, l6_h26))] S (hw [(95, -1)] (hw [(95, -1), (96, -1), (97, -1)] G G17) Gh26) := by
        intro nF
        induction nF with
        | zero => intro l6_h26 Gh26 yh26_0 yh26_1 ym26; exfalso; omega
        | succ nF ih26 =>
          intro l6_h26 Gh26 yh26_0 yh26_1 ym26
          refine r_ex hX hP 2 (pc' := 29) (st' := [(2, this), (0, l6_h26)]) (lo' := [(0, (2, this)), (1, (2, where_)), (2, (1, amount)), (4, (0, head)), (5, (0, row)), (6, (0, l6_h26))]) rfl ?_
          refine r_getKR hX hP rfl fl_X8_45_129 hS (x := af2) af2e ?_
          refine r_getI hX hP rfl fl_X8_207_130 af2s (fun cf18 cf18e cf18a cf18b => ?_)
          refine r_ic_ge hX hP rfl (tgt := 96) rfl (by first | decide | omega) (by first | decide | omega) (by first | decide | omega) (by first | decide | omega) (fun c19 => ?_) (fun c19 => ?_)
          · skip
            exact r_retV hX hP rfl rfl (by first | decide | omega) (by first | decide | omega) ⟨rfl, ⟨_, (hw_sub (hw_sub (hw_refl _ _) rfl) rfl).symm⟩, rfl, trivial⟩
          · skip
            refine r_ex hX hP 1 (pc' := 39) (st' := [(2, this)]) (lo' := [(0, (2, this)), (1, (2, where_)), (2, (1, amount)), (4, (0, head)), (5, (0, row)), (6, (0, l6_h26))]) rfl ?_
            refine r_getKR hX hP rfl fl_X8_45_129 hS (x := af2) af2e ?_
            refine r_getR hX hP rfl fl_X8_211_130 af2s (fun tf20 tf20e tf20s => ?_)
            refine r_ex hX hP 1 (pc' := 47) (st' := [(0, l6_h26), (2, tf20)]) (lo' := [(0, (2, this)), (1, (2, where_)), (2, (1, amount)), (4, (0, head)), (5, (0, row)), (6, (0, l6_h26))]) rfl ?_
            refine r_iald hX hP rfl al_94 tf20s (by first | decide | omega) (by first | decide | omega) (fun x21 x21e x21a x21b => ?_)
            refine r_ex hX hP 1 (pc' := 50) (st' := [(0, head), (0, x21)]) (lo' := [(0, (2, this)), (1, (2, where_)), (2, (1, amount)), (4, (0, head)), (5, (0, row)), (6, (0, l6_h26))]) rfl ?_
            refine r_ic_ne hX hP rfl (tgt := 90) rfl (by first | decide | omega) (by first | decide | omega) (by first | decide | omega) (by first | decide | omega) (fun c22 => ?_) (fun c22 => ?_)
            · skip
              refine r_ex hX hP 2 (pc' := 26) (st' := []) (lo' := [(0, (2, this)), (1, (2, where_)), (2, (1, amount)), (4, (0, head)), (5, (0, row)), (6, (0, (l6_h26 + 1)))]) rfl ?_
              refine r_eqG (X := X) (hw_base _ _ _) ?_
              exact ih26 (l6_h26 + 1) _ (by first | decide | omega) (by first | decide | omega) (by first | decide | omega)
            · skip
              refine r_ex hX hP 3 (pc' := 57) (st' := [(0, l6_h26), (2, where_), (0, l6_h26), (2, where_)]) (lo' := [(0, (2, this)), (1, (2, where_)), (2, (1, amount)), (4, (0, head)), (5, (0, row)), (6, (0, l6_h26))]) rfl ?_
              refine r_lald hX hP rfl al_95 where__s (by first | decide | omega) (by first | decide | omega) (fun x23 x23e x23a x23b => ?_)
              refine r_ex hX hP 2 (pc' := 60) (st' := [(1, 0), (1, amount), (1, x23), (0, l6_h26), (2, where_)]) (lo' := [(0, (2, this)), (1, (2, where_)), (2, (1, amount)), (4, (0, head)), (5, (0, row)), (6, (0, l6_h26))]) rfl ?_
              refine r_lc_ge hX hP rfl rfl (tgt := 78) rfl (by first | decide | omega) (by first | decide | omega) (by first | decide | omega) (by first | decide | omega) (fun c24 => ?_) (fun c24 => ?_)
              · skip
                refine r_ex hX hP 1 (pc' := 79) (st' := [(2, this), (1, x23), (0, l6_h26), (2, where_)]) (lo' := [(0, (2, this)), (1, (2, where_)), (2, (1, amount)), (4, (0, head)), (5, (0, row)), (6, (0, l6_h26))]) rfl ?_
                refine r_getKR hX hP rfl fl_X8_45_129 hS (x := af2) af2e ?_
                refine r_getR hX hP rfl fl_X8_243_130 af2s (fun gf25 gf25e gf25s => ?_)
                refine r_ex hX hP 1 (pc' := 87) (st' := [(0, l6_h26), (2, gf25), (1, x23), (0, l6_h26), (2, where_)]) (lo' := [(0, (2, this)), (1, (2, where_)), (2, (1, amount)), (4, (0, head)), (5, (0, row)), (6, (0, l6_h26))]) rfl ?_
                refine r_lald hX hP rfl al_95 gf25s (by first | decide | omega) (by first | decide | omega) (fun x26 x26e x26a x26b => ?_)
                refine r_ex hX hP 1 (pc' := 89) (st' := [(1, (x23 + x26)), (0, l6_h26), (2, where_)]) (lo' := [(0, (2, this)), (1, (2, where_)), (2, (1, amount)), (4, (0, head)), (5, (0, row)), (6, (0, l6_h26))]) rfl ?_
                refine r_hvL hX (fun w27 w27a w27b w27e => ?_)
                refine r_lastK hX hP rfl al_95 where__s (by first | decide | omega) (by first | decide | omega) (by first | decide | omega) (by first | decide | omega) (fun h28 => ?_)
                refine r_ex hX hP 2 (pc' := 26) (st' := []) (lo' := [(0, (2, this)), (1, (2, where_)), (2, (1, amount)), (4, (0, head)), (5, (0, row)), (6, (0, (l6_h26 + 1)))]) rfl ?_
                refine r_eqG (X := X) (hw_up (hw_base _ _ _) rfl) ?_
                exact ih26 (l6_h26 + 1) _ (by first | decide | omega) (by first | decide | omega) (by first | decide | omega)
              · skip
                refine r_ex hX hP 1 (pc' := 65) (st' := [(2, this), (1, x23), (0, l6_h26), (2, where_)]) (lo' := [(0, (2, this)), (1, (2, where_)), (2, (1, amount)), (4, (0, head)), (5, (0, row)), (6, (0, l6_h26))]) rfl ?_
                refine r_getKR hX hP rfl fl_X8_45_129 hS (x := af2) af2e ?_
                refine r_getR hX hP rfl fl_X8_243_130 af2s (fun gf29 gf29e gf29s => ?_)
                refine r_ex hX hP 1 (pc' := 73) (st' := [(0, l6_h26), (2, gf29), (1, x23), (0, l6_h26), (2, where_)]) (lo' := [(0, (2, this)), (1, (2, where_)), (2, (1, amount)), (4, (0, head)), (5, (0, row)), (6, (0, l6_h26))]) rfl ?_
                refine r_lald hX hP rfl al_95 gf29s (by first | decide | omega) (by first | decide | omega) (fun x30 x30e x30a x30b => ?_)
                refine r_ex hX hP 1 (pc' := 75) (st' := [(1, (-x30)), (1, x23), (0, l6_h26), (2, where_)]) (lo' := [(0, (2, this)), (1, (2, where_)), (2, (1, amount)), (4, (0, head)), (5, (0, row)), (6, (0, l6_h26))]) rfl ?_
                refine r_hvL hX (fun w31 w31a w31b w31e => ?_)
                refine r_ex hX hP 2 (pc' := 89) (st' := [(1, (x23 + w31)), (0, l6_h26), (2, where_)]) (lo' := [(0, (2, this)), (1, (2, where_)), (2, (1, amount)), (4, (0, head)), (5, (0, row)), (6, (0, l6_h26))]) rfl ?_
                refine r_hvL hX (fun w32 w32a w32b w32e => ?_)
                refine r_lastK hX hP rfl al_95 where__s (by first | decide | omega) (by first | decide | omega) (by first | decide | omega) (by first | decide | omega) (fun h33 => ?_)
                refine r_ex hX hP 2 (pc' := 26) (st' := []) (lo' := [(0, (2, this)), (1, (2, where_)), (2, (1, amount)), (4, (0, head)), (5, (0, row)), (6, (0, (l6_h26 + 1)))]) rfl ?_
                refine r_eqG (X := X) (hw_up (hw_base _ _ _) rfl) ?_
                exact ih26 (l6_h26 + 1) _ (by first | decide | omega) (by first | decide | omega) (by first | decide | omega)
      refine r_eqG (X := X) (hw_refl [(95, -1)] _) ?_
      exact loop26 ((20 - head) + 1 : Int).toNat head _ (by first | decide | omega) (by first | decide | omega) (by first | decide | omega)
  · skip
    exact r_retV hX hP rfl rfl (by first | decide | omega) (by first | decide | omega) ⟨rfl, ⟨_, (hw_refl _ _).symm⟩, rfl, trivial⟩
set_option maxRecDepth 100000 in
set_option maxHeartbeats 4000000 in
theorem c_X8_noteGiven (E : En) (S : Sg) (G : Gh) (this : Int) (paper : Int) (amount : Int) (head : Int) (hS : S this = 129) (paper_a : 0 ≤ paper) (paper_b : paper ≤ 19) (amount_a : (-9223372036854775808) ≤ amount) (amount_b : amount ≤ 9223372036854775807) (head_a : 0 ≤ head) (head_b : head ≤ 19) : Calls E mX8_noteGiven [(2, this), (0, paper), (1, amount), (0, head)] S G 0 0 0 (fun r S' G' => S = S' ∧ (∃ G1, hw [(93, -1)] G G1 = G') ∧ r = none ∧ True) := by
  refine calls_by [(0, (2, this)), (1, (0, paper)), (2, (1, amount)), (4, (0, head))] rfl rfl (Nat.le_of_ble_eq_true rfl) (fun X hX => ?_)
  have hP := hPX8_noteGiven
  refine r_ex hX hP 2 (pc' := 4) (st' := []) (lo' := [(0, (2, this)), (1, (0, paper)), (2, (1, amount)), (4, (0, head)), (5, (0, head))]) rfl ?_
  have x77 : ∀ (l5_x77 : Int) (Gx77 : Gh), 0 ≤ l5_x77 → l5_x77 ≤ 20 → X 0 0 77 [] [(0, (2, this)), (1, (0, paper)), (2, (1, amount)), (4, (0, head)), (5, (0, l5_x77))] S (hw [(93, -1)] G Gx77) := by
    intro l5_x77 Gx77 yx77_0 yx77_1
    exact r_retV hX hP rfl rfl (by first | decide | omega) (by first | decide | omega) ⟨rfl, ⟨_, (hw_sub (hw_refl _ _) rfl).symm⟩, rfl, trivial⟩
  have loop4 : ∀ (nF : Nat) (l5_h4 : Int) (Gh4 : Gh), 0 ≤ l5_h4 → l5_h4 ≤ 20 → 20 - l5_h4 < (nF : Int) → X 0 0 4 [] [(0, (2, this)), (1, (0, paper)), (2, (1, amount)), (4, (0, head)), (5, (0, l5_h4))] S (hw [(93, -1)] G Gh4) := by
    intro nF
    induction nF with
    | zero => intro l5_h4 Gh4 yh4_0 yh4_1 ym4; exfalso; omega
    | succ nF ih4 =>
      intro l5_h4 Gh4 yh4_0 yh4_1 ym4
      refine r_ex hX hP 2 (pc' := 7) (st' := [(2, this), (0, l5_h4)]) (lo' := [(0, (2, this)), (1, (0, paper)), (2, (1, amount)), (4, (0, head)), (5, (0, l5_h4))]) rfl ?_
      refine r_getR hX hP rfl fl_X8_45_129 hS (fun af1 af1e af1s => ?_)
      refine r_getI hX hP rfl fl_X8_207_130 af1s (fun cf2 cf2e cf2a cf2b => ?_)
      refine r_ic_ge hX hP rfl (tgt := 77) rfl (by first | decide | omega) (by first | decide | omega) (by first | decide | omega) (by first | decide | omega) (fun c3 => ?_) (fun c3 => ?_)
      · skip
        refine r_eqG (X := X) (hw_sub (hw_refl [(93, -1)] _) rfl) ?_
        exact x77 l5_h4 _ (by first | decide | omega) (by first | decide | omega)
      · skip
        refine r_ex hX hP 2 (pc' := 18) (st' := [(1, 0), (1, amount)]) (lo' := [(0, (2, this)), (1, (0, paper)), (2, (1, amount)), (4, (0, head)), (5, (0, l5_h4))]) rfl ?_
        refine r_lc_le hX hP rfl rfl (tgt := 77) rfl (by first | decide | omega) (by first | decide | omega) (by first | decide | omega) (by first | decide | omega) (fun c4 => ?_) (fun c4 => ?_)
        · skip
          refine r_eqG (X := X) (hw_sub (hw_refl [(93, -1)] _) rfl) ?_
          exact x77 l5_h4 _ (by first | decide | omega) (by first | decide | omega)
        · skip
          refine r_ex hX hP 1 (pc' := 23) (st' := [(2, this)]) (lo' := [(0, (2, this)), (1, (0, paper)), (2, (1, amount)), (4, (0, head)), (5, (0, l5_h4))]) rfl ?_
          refine r_getKR hX hP rfl fl_X8_45_129 hS (x := af1) af1e ?_
          refine r_getR hX hP rfl fl_X8_211_130 af1s (fun tf5 tf5e tf5s => ?_)
          refine r_ex hX hP 1 (pc' := 31) (st' := [(0, l5_h4), (2, tf5)]) (lo' := [(0, (2, this)), (1, (0, paper)), (2, (1, amount)), (4, (0, head)), (5, (0, l5_h4))]) rfl ?_
          refine r_iald hX hP rfl al_94 tf5s (by first | decide | omega) (by first | decide | omega) (fun x6 x6e x6a x6b => ?_)
          refine r_ex hX hP 1 (pc' := 34) (st' := [(0, head), (0, x6)]) (lo' := [(0, (2, this)), (1, (0, paper)), (2, (1, amount)), (4, (0, head)), (5, (0, l5_h4))]) rfl ?_
          refine r_ic_ne hX hP rfl (tgt := 71) rfl (by first | decide | omega) (by first | decide | omega) (by first | decide | omega) (by first | decide | omega) (fun c7 => ?_) (fun c7 => ?_)
          · skip
            refine r_ex hX hP 2 (pc' := 4) (st' := []) (lo' := [(0, (2, this)), (1, (0, paper)), (2, (1, amount)), (4, (0, head)), (5, (0, (l5_h4 + 1)))]) rfl ?_
            refine r_eqG (X := X) (hw_base _ _ _) ?_
            exact ih4 (l5_h4 + 1) _ (by first | decide | omega) (by first | decide | omega) (by first | decide | omega)
          · skip
            refine r_ex hX hP 1 (pc' := 38) (st' := [(2, this)]) (lo' := [(0, (2, this)), (1, (0, paper)), (2, (1, amount)), (4, (0, head)), (5, (0, l5_h4))]) rfl ?_
            refine r_getKR hX hP rfl fl_X8_45_129 hS (x := af1) af1e ?_
            refine r_getR hX hP rfl fl_X8_243_130 af1s (fun gf8 gf8e gf8s => ?_)
            refine r_ex hX hP 1 (pc' := 46) (st' := [(0, l5_h4), (2, gf8)]) (lo' := [(0, (2, this)), (1, (0, paper)), (2, (1, amount)), (4, (0, head)), (5, (0, l5_h4))]) rfl ?_
            refine r_lald hX hP rfl al_95 gf8s (by first | decide | omega) (by first | decide | omega) (fun x9 x9e x9a x9b => ?_)
            refine r_ex hX hP 1 (pc' := 48) (st' := [(1, 0), (1, x9)]) (lo' := [(0, (2, this)), (1, (0, paper)), (2, (1, amount)), (4, (0, head)), (5, (0, l5_h4))]) rfl ?_
            refine r_lc_le hX hP rfl rfl (tgt := 71) rfl (by first | decide | omega) (by first | decide | omega) (by first | decide | omega) (by first | decide | omega) (fun c10 => ?_) (fun c10 => ?_)
            · skip
              refine r_ex hX hP 2 (pc' := 4) (st' := []) (lo' := [(0, (2, this)), (1, (0, paper)), (2, (1, amount)), (4, (0, head)), (5, (0, (l5_h4 + 1)))]) rfl ?_
              refine r_eqG (X := X) (hw_base _ _ _) ?_
              exact ih4 (l5_h4 + 1) _ (by first | decide | omega) (by first | decide | omega) (by first | decide | omega)
            · skip
              refine r_ex hX hP 1 (pc' := 53) (st' := [(2, this)]) (lo' := [(0, (2, this)), (1, (0, paper)), (2, (1, amount)), (4, (0, head)), (5, (0, l5_h4))]) rfl ?_
              refine r_getR hX hP rfl fl_X8_74_129 hS (fun ff11 ff11e ff11s => ?_)
              refine r_ex hX hP 1 (pc' := 58) (st' := [(0, l5_h4), (2, ff11)]) (lo' := [(0, (2, this)), (1, (0, paper)), (2, (1, amount)), (4, (0, head)), (5, (0, l5_h4))]) rfl ?_
              refine r_iald hX hP rfl al_93 ff11s (by first | decide | omega) (by first | decide | omega) (fun x12 x12e x12a x12b => ?_)
              refine r_ex hX hP 1 (pc' := 60) (st' := [(0, (-1)), (0, x12)]) (lo' := [(0, (2, this)), (1, (0, paper)), (2, (1, amount)), (4, (0, head)), (5, (0, l5_h4))]) rfl ?_
              refine r_ic_ne hX hP rfl (tgt := 71) rfl (by first | decide | omega) (by first | decide | omega) (by first | decide | omega) (by first | decide | omega) (fun c13 => ?_) (fun c13 => ?_)
              · skip
                refine r_ex hX hP 2 (pc' := 4) (st' := []) (lo' := [(0, (2, this)), (1, (0, paper)), (2, (1, amount)), (4, (0, head)), (5, (0, (l5_h4 + 1)))]) rfl ?_
                refine r_eqG (X := X) (hw_base _ _ _) ?_
                exact ih4 (l5_h4 + 1) _ (by first | decide | omega) (by first | decide | omega) (by first | decide | omega)
              · skip
                refine r_ex hX hP 1 (pc' := 64) (st' := [(2, this)]) (lo' := [(0, (2, this)), (1, (0, paper)), (2, (1, amount)), (4, (0, head)), (5, (0, l5_h4))]) rfl ?_
                refine r_getKR hX hP rfl fl_X8_74_129 hS (x := ff11) ff11e ?_
                refine r_ex hX hP 2 (pc' := 70) (st' := [(0, paper), (0, l5_h4), (2, ff11)]) (lo' := [(0, (2, this)), (1, (0, paper)), (2, (1, amount)), (4, (0, head)), (5, (0, l5_h4))]) rfl ?_
                refine r_iastK hX hP rfl al_93 ff11s (by first | decide | omega) (by first | decide | omega) (by first | decide | omega) (by first | decide | omega) (fun h14 => ?_)
                refine r_ex hX hP 2 (pc' := 4) (st' := []) (lo' := [(0, (2, this)), (1, (0, paper)), (2, (1, amount)), (4, (0, head)), (5, (0, (l5_h4 + 1)))]) rfl ?_
                refine r_eqG (X := X) (hw_up (hw_base _ _ _) rfl) ?_
                exact ih4 (l5_h4 + 1) _ (by first | decide | omega) (by first | decide | omega) (by first | decide | omega)
  refine r_eqG (X := X) (hw_refl [(93, -1)] _) ?_
  exact loop4 ((20 - head) + 1 : Int).toNat head _ (by first | decide | omega) (by first | decide | omega) (by first | decide | omega)
set_option maxRecDepth 100000 in
set_option maxHeartbeats 4000000 in
theorem c_X8_moveWorth (E : En) (S : Sg) (G : Gh) (this : Int) (paper : Int) (text : Int) (i : Int) (head : Int) (hS : S this = 129) (text_s : S text = 136) (qa : Int) (qa_e : qa = G 136 text 5) (qa_s : S qa = 121) (qv : Int) (qv_e : qv = G 121 qa i) (paper_a : 0 ≤ paper) (paper_b : paper ≤ 19) (i_a : 0 ≤ i) (i_b : i ≤ 29) (head_a : 0 ≤ head) (head_b : head ≤ 19) (pre0 : 0 ≤ qv) (pre1 : qv ≤ 19) : Calls E mX8_moveWorth [(2, this), (0, paper), (2, text), (0, i), (0, head)] S G 0 0 0 (fun r S' G' => S = S' ∧ (∃ G1, hw [(95, -1)] G G1 = G') ∧ r = none ∧ True) := by
  refine calls_by [(0, (2, this)), (1, (0, paper)), (2, (2, text)), (3, (0, i)), (4, (0, head))] rfl rfl (Nat.le_of_ble_eq_true rfl) (fun X hX => ?_)
  have hP := hPX8_moveWorth
  refine r_ex hX hP 1 (pc' := 1) (st' := [(2, text)]) (lo' := [(0, (2, this)), (1, (0, paper)), (2, (2, text)), (3, (0, i)), (4, (0, head))]) rfl ?_
  refine r_getR hX hP rfl fl_X8_283_136 text_s (fun rf1 rf1e rf1s => ?_)
  refine r_ex hX hP 1 (pc' := 5) (st' := [(0, i), (2, rf1)]) (lo' := [(0, (2, this)), (1, (0, paper)), (2, (2, text)), (3, (0, i)), (4, (0, head))]) rfl ?_
  refine r_iald hX hP rfl al_122 rf1s (by first | decide | omega) (by first | decide | omega) (fun x2 x2e x2a x2b => ?_)
  refine r_ex hX hP 3 (pc' := 12) (st' := []) (lo' := [(0, (2, this)), (1, (0, paper)), (2, (2, text)), (3, (0, i)), (4, (0, head)), (5, (0, x2)), (6, (0, head))]) rfl ?_
  have loop12 : ∀ (nF : Nat) (l6_h12 : Int) (Gh12 : Gh), 0 ≤ l6_h12 → l6_h12 ≤ 20 → 20 - l6_h12 < (nF : Int) → X 0 0 12 [] [(0, (2, this)), (1, (0, paper)), (2, (2, text)), (3, (0, i)), (4, (0, head)), (5, (0, x2)), (6, (0, l6_h12))] S (hw [(95, -1)] G Gh12) := by
    intro nF
    induction nF with
    | zero => intro l6_h12 Gh12 yh12_0 yh12_1 ym12; exfalso; omega
    | succ nF ih12 =>
      intro l6_h12 Gh12 yh12_0 yh12_1 ym12
      refine r_ex hX hP 2 (pc' := 15) (st' := [(2, this), (0, l6_h12)]) (lo' := [(0, (2, this)), (1, (0, paper)), (2, (2, text)), (3, (0, i)), (4, (0, head)), (5, (0, x2)), (6, (0, l6_h12))]) rfl ?_
      refine r_getR hX hP rfl fl_X8_45_129 hS (fun af3 af3e af3s => ?_)
      refine r_getI hX hP rfl fl_X8_207_130 af3s (fun cf4 cf4e cf4a cf4b => ?_)
      refine r_ic_ge hX hP rfl (tgt := 137) rfl (by first | decide | omega) (by first | decide | omega) (by first | decide | omega) (by first | decide | omega) (fun c5 => ?_) (fun c5 => ?_)
      · skip
        exact r_retV hX hP rfl rfl (by first | decide | omega) (by first | decide | omega) ⟨rfl, ⟨_, (hw_sub (hw_refl _ _) rfl).symm⟩, rfl, trivial⟩
      · skip
        refine r_ex hX hP 2 (pc' := 27) (st' := [(0, 3), (0, x2)]) (lo' := [(0, (2, this)), (1, (0, paper)), (2, (2, text)), (3, (0, i)), (4, (0, head)), (5, (0, x2)), (6, (0, l6_h12))]) rfl ?_
        refine r_ic_eq hX hP rfl (tgt := 48) rfl (by first | decide | omega) (by first | decide | omega) (by first | decide | omega) (by first | decide | omega) (fun c6 => ?_) (fun c6 => ?_)
        · skip
          refine r_ex hX hP 4 (pc' := 57) (st' := [(0, 1)]) (lo' := [(0, (2, this)), (1, (0, paper)), (2, (2, text)), (3, (0, i)), (4, (0, head)), (5, (0, x2)), (6, (0, l6_h12)), (7, (0, 1))]) rfl ?_
          refine r_if_eq hX hP rfl (tgt := 131) rfl (by first | decide | omega) (by first | decide | omega) (fun c7 => ?_) (fun c7 => ?_)
          · skip
            exfalso; omega
          · skip
            refine r_ex hX hP 1 (pc' := 61) (st' := [(2, this)]) (lo' := [(0, (2, this)), (1, (0, paper)), (2, (2, text)), (3, (0, i)), (4, (0, head)), (5, (0, x2)), (6, (0, l6_h12)), (7, (0, 1))]) rfl ?_
            refine r_getKR hX hP rfl fl_X8_45_129 hS (x := af3) af3e ?_
            refine r_getR hX hP rfl fl_X8_211_130 af3s (fun tf8 tf8e tf8s => ?_)
            refine r_ex hX hP 1 (pc' := 69) (st' := [(0, l6_h12), (2, tf8)]) (lo' := [(0, (2, this)), (1, (0, paper)), (2, (2, text)), (3, (0, i)), (4, (0, head)), (5, (0, x2)), (6, (0, l6_h12)), (7, (0, 1))]) rfl ?_
            refine r_iald hX hP rfl al_94 tf8s (by first | decide | omega) (by first | decide | omega) (fun x9 x9e x9a x9b => ?_)
            refine r_ex hX hP 1 (pc' := 72) (st' := [(0, head), (0, x9)]) (lo' := [(0, (2, this)), (1, (0, paper)), (2, (2, text)), (3, (0, i)), (4, (0, head)), (5, (0, x2)), (6, (0, l6_h12)), (7, (0, 1))]) rfl ?_
            refine r_ic_ne hX hP rfl (tgt := 131) rfl (by first | decide | omega) (by first | decide | omega) (by first | decide | omega) (by first | decide | omega) (fun c10 => ?_) (fun c10 => ?_)
            · skip
              refine r_ex hX hP 2 (pc' := 12) (st' := []) (lo' := [(0, (2, this)), (1, (0, paper)), (2, (2, text)), (3, (0, i)), (4, (0, head)), (5, (0, x2)), (6, (0, (l6_h12 + 1))), (7, (0, 1))]) rfl ?_
              refine r_pick hX [0, 1, 2, 3, 4, 5, 6] (lo' := [(0, (2, this)), (1, (0, paper)), (2, (2, text)), (3, (0, i)), (4, (0, head)), (5, (0, x2)), (6, (0, (l6_h12 + 1)))]) rfl ?_
              refine r_eqG (X := X) (hw_base _ _ _) ?_
              exact ih12 (l6_h12 + 1) _ (by first | decide | omega) (by first | decide | omega) (by first | decide | omega)
            · skip
              refine r_ex hX hP 1 (pc' := 76) (st' := [(2, this)]) (lo' := [(0, (2, this)), (1, (0, paper)), (2, (2, text)), (3, (0, i)), (4, (0, head)), (5, (0, x2)), (6, (0, l6_h12)), (7, (0, 1))]) rfl ?_
              refine r_getR hX hP rfl fl_X8_25_129 hS (fun tf11 tf11e tf11s => ?_)
              refine r_ex hX hP 1 (pc' := 80) (st' := [(0, paper), (2, tf11)]) (lo' := [(0, (2, this)), (1, (0, paper)), (2, (2, text)), (3, (0, i)), (4, (0, head)), (5, (0, x2)), (6, (0, l6_h12)), (7, (0, 1))]) rfl ?_
              refine r_aald hX hP rfl al_114 rfl tf11s (by first | decide | omega) (by first | decide | omega) (fun r12 r12e r12s => ?_)
              refine r_ex hX hP 1 (pc' := 83) (st' := [(0, l6_h12), (2, r12)]) (lo' := [(0, (2, this)), (1, (0, paper)), (2, (2, text)), (3, (0, i)), (4, (0, head)), (5, (0, x2)), (6, (0, l6_h12)), (7, (0, 1))]) rfl ?_
              refine r_lald hX hP rfl al_95 r12s (by first | decide | omega) (by first | decide | omega) (fun x13 x13e x13a x13b => ?_)
              refine r_ex hX hP 1 (pc' := 85) (st' := [(2, text), (1, x13)]) (lo' := [(0, (2, this)), (1, (0, paper)), (2, (2, text)), (3, (0, i)), (4, (0, head)), (5, (0, x2)), (6, (0, l6_h12)), (7, (0, 1))]) rfl ?_
              refine r_getR hX hP rfl fl_X8_309_136 text_s (fun mf14 mf14e mf14s => ?_)
              refine r_ex hX hP 1 (pc' := 89) (st' := [(0, i), (2, mf14), (1, x13)]) (lo' := [(0, (2, this)), (1, (0, paper)), (2, (2, text)), (3, (0, i)), (4, (0, head)), (5, (0, x2)), (6, (0, l6_h12)), (7, (0, 1))]) rfl ?_
              refine r_iald hX hP rfl al_119 mf14s (by first | decide | omega) (by first | decide | omega) (fun x15 x15e x15a x15b => ?_)
              refine r_i2l hX hP rfl (by first | decide | omega) (by first | decide | omega) ?_
              refine r_ex hX hP 1 (pc' := 92) (st' := [(1, (x13 * x15))]) (lo' := [(0, (2, this)), (1, (0, paper)), (2, (2, text)), (3, (0, i)), (4, (0, head)), (5, (0, x2)), (6, (0, l6_h12)), (7, (0, 1))]) rfl ?_
              refine r_hvL hX (fun w16 w16a w16b w16e => ?_)
              refine r_ldc2 hX hP rfl (v := 1000) (tbg sg5 204 rfl rfl) ?_
              refine r_ldiv hX hP rfl (by first | decide | omega) (by first | decide | omega) (by first | decide | omega) (by first | decide | omega) (by first | decide | omega) ?_
              obtain ⟨q17, q17e⟩ : ∃ q : Int, q = (Int.tdiv w16 1000) := ⟨_, rfl⟩
              rw [← q17e]
              have q17b := td_gen q17e (by first | decide | omega)
              refine r_hvL hX (fun w18 w18a w18b w18e => ?_)
              refine r_ex hX hP 2 (pc' := 99) (st' := [(2, this)]) (lo' := [(0, (2, this)), (1, (0, paper)), (2, (2, text)), (3, (0, i)), (4, (0, head)), (5, (0, x2)), (6, (0, l6_h12)), (7, (0, 1)), (8, (1, w18))]) rfl ?_
              refine r_getKR hX hP rfl fl_X8_25_129 hS (x := tf11) tf11e ?_
              refine r_ex hX hP 1 (pc' := 103) (st' := [(0, paper), (2, tf11)]) (lo' := [(0, (2, this)), (1, (0, paper)), (2, (2, text)), (3, (0, i)), (4, (0, head)), (5, (0, x2)), (6, (0, l6_h12)), (7, (0, 1)), (8, (1, w18))]) rfl ?_
              refine r_aaldK hX hP rfl al_114 rfl tf11s (by first | decide | omega) (by first | decide | omega) (x := r12) r12e ?_
              refine r_ex hX hP 2 (pc' := 107) (st' := [(0, l6_h12), (2, r12), (0, l6_h12), (2, r12)]) (lo' := [(0, (2, this)), (1, (0, paper)), (2, (2, text)), (3, (0, i)), (4, (0, head)), (5, (0, x2)), (6, (0, l6_h12)), (7, (0, 1)), (8, (1, w18))]) rfl ?_
              refine r_laldK hX hP rfl al_95 r12s (by first | decide | omega) (by first | decide | omega) (x := x13) x13e ?_
              refine r_ex hX hP 2 (pc' := 111) (st' := [(1, (x13 - w18)), (0, l6_h12), (2, r12)]) (lo' := [(0, (2, this)), (1, (0, paper)), (2, (2, text)), (3, (0, i)), (4, (0, head)), (5, (0, x2)), (6, (0, l6_h12)), (7, (0, 1)), (8, (1, w18))]) rfl ?_
              refine r_hvL hX (fun w19 w19a w19b w19e => ?_)
              refine r_lastK hX hP rfl al_95 r12s (by first | decide | omega) (by first | decide | omega) (by first | decide | omega) (by first | decide | omega) (fun h20 => ?_)
              refine r_ex hX hP 1 (pc' := 113) (st' := [(2, this)]) (lo' := [(0, (2, this)), (1, (0, paper)), (2, (2, text)), (3, (0, i)), (4, (0, head)), (5, (0, x2)), (6, (0, l6_h12)), (7, (0, 1)), (8, (1, w18))]) rfl ?_
              refine r_getKR hX hP rfl fl_X8_25_129 hS (x := tf11) tf11e ?_
              refine r_ex hX hP 1 (pc' := 117) (st' := [(2, text), (2, tf11)]) (lo' := [(0, (2, this)), (1, (0, paper)), (2, (2, text)), (3, (0, i)), (4, (0, head)), (5, (0, x2)), (6, (0, l6_h12)), (7, (0, 1)), (8, (1, w18))]) rfl ?_
              refine r_getKR hX hP rfl fl_X8_277_136 text_s (x := qa) qa_e ?_
              refine r_ex hX hP 1 (pc' := 121) (st' := [(0, i), (2, qa), (2, tf11)]) (lo' := [(0, (2, this)), (1, (0, paper)), (2, (2, text)), (3, (0, i)), (4, (0, head)), (5, (0, x2)), (6, (0, l6_h12)), (7, (0, 1)), (8, (1, w18))]) rfl ?_
              refine r_ialdK hX hP rfl al_121 qa_s (by first | decide | omega) (by first | decide | omega) (x := qv) qv_e ?_
              refine r_aald hX hP rfl al_114 rfl tf11s (by first | decide | omega) (by first | decide | omega) (fun r21 r21e r21s => ?_)
              refine r_ex hX hP 2 (pc' := 126) (st' := [(0, l6_h12), (2, r21), (0, l6_h12), (2, r21)]) (lo' := [(0, (2, this)), (1, (0, paper)), (2, (2, text)), (3, (0, i)), (4, (0, head)), (5, (0, x2)), (6, (0, l6_h12)), (7, (0, 1)), (8, (1, w18))]) rfl ?_
              refine r_lald hX hP rfl al_95 r21s (by first | decide | omega) (by first | decide | omega) (fun x22 x22e x22a x22b => ?_)
              refine r_ex hX hP 2 (pc' := 130) (st' := [(1, (x22 + w18)), (0, l6_h12), (2, r21)]) (lo' := [(0, (2, this)), (1, (0, paper)), (2, (2, text)), (3, (0, i)), (4, (0, head)), (5, (0, x2)), (6, (0, l6_h12)), (7, (0, 1)), (8, (1, w18))]) rfl ?_
              refine r_hvL hX (fun w23 w23a w23b w23e => ?_)
              refine r_lastK hX hP rfl al_95 r21s (by first | decide | omega) (by first | decide | omega) (by first | decide | omega) (by first | decide | omega) (fun h24 => ?_)
              refine r_ex hX hP 2 (pc' := 12) (st' := []) (lo' := [(0, (2, this)), (1, (0, paper)), (2, (2, text)), (3, (0, i)), (4, (0, head)), (5, (0, x2)), (6, (0, (l6_h12 + 1))), (7, (0, 1)), (8, (1, w18))]) rfl ?_
              refine r_pick hX [0, 1, 2, 3, 4, 5, 6] (lo' := [(0, (2, this)), (1, (0, paper)), (2, (2, text)), (3, (0, i)), (4, (0, head)), (5, (0, x2)), (6, (0, (l6_h12 + 1)))]) rfl ?_
              refine r_eqG (X := X) (hw_up (hw_up (hw_base _ _ _) rfl) rfl) ?_
              exact ih12 (l6_h12 + 1) _ (by first | decide | omega) (by first | decide | omega) (by first | decide | omega)
        · skip
          refine r_ex hX hP 1 (pc' := 31) (st' := [(2, this)]) (lo' := [(0, (2, this)), (1, (0, paper)), (2, (2, text)), (3, (0, i)), (4, (0, head)), (5, (0, x2)), (6, (0, l6_h12))]) rfl ?_
          refine r_getKR hX hP rfl fl_X8_45_129 hS (x := af3) af3e ?_
          refine r_getR hX hP rfl fl_X8_208_130 af3s (fun mf25 mf25e mf25s => ?_)
          refine r_ex hX hP 1 (pc' := 39) (st' := [(0, x2), (2, mf25)]) (lo' := [(0, (2, this)), (1, (0, paper)), (2, (2, text)), (3, (0, i)), (4, (0, head)), (5, (0, x2)), (6, (0, l6_h12))]) rfl ?_
          refine r_aald hX hP rfl al_98 rfl mf25s (by first | decide | omega) (by first | decide | omega) (fun r26 r26e r26s => ?_)
          refine r_ex hX hP 1 (pc' := 42) (st' := [(0, l6_h12), (2, r26)]) (lo' := [(0, (2, this)), (1, (0, paper)), (2, (2, text)), (3, (0, i)), (4, (0, head)), (5, (0, x2)), (6, (0, l6_h12))]) rfl ?_
          refine r_lald hX hP rfl al_95 r26s (by first | decide | omega) (by first | decide | omega) (fun x27 x27e x27a x27b => ?_)
          refine r_ex hX hP 1 (pc' := 44) (st' := [(1, 0), (1, x27)]) (lo' := [(0, (2, this)), (1, (0, paper)), (2, (2, text)), (3, (0, i)), (4, (0, head)), (5, (0, x2)), (6, (0, l6_h12))]) rfl ?_
          refine r_lc_le hX hP rfl rfl (tgt := 52) rfl (by first | decide | omega) (by first | decide | omega) (by first | decide | omega) (by first | decide | omega) (fun c28 => ?_) (fun c28 => ?_)
          · skip
            refine r_ex hX hP 3 (pc' := 57) (st' := [(0, 0)]) (lo' := [(0, (2, this)), (1, (0, paper)), (2, (2, text)), (3, (0, i)), (4, (0, head)), (5, (0, x2)), (6, (0, l6_h12)), (7, (0, 0))]) rfl ?_
            refine r_if_eq hX hP rfl (tgt := 131) rfl (by first | decide | omega) (by first | decide | omega) (fun c29 => ?_) (fun c29 => ?_)
            · skip
              refine r_ex hX hP 2 (pc' := 12) (st' := []) (lo' := [(0, (2, this)), (1, (0, paper)), (2, (2, text)), (3, (0, i)), (4, (0, head)), (5, (0, x2)), (6, (0, (l6_h12 + 1))), (7, (0, 0))]) rfl ?_
              refine r_pick hX [0, 1, 2, 3, 4, 5, 6] (lo' := [(0, (2, this)), (1, (0, paper)), (2, (2, text)), (3, (0, i)), (4, (0, head)), (5, (0, x2)), (6, (0, (l6_h12 + 1)))]) rfl ?_
              refine r_eqG (X := X) (hw_base _ _ _) ?_
              exact ih12 (l6_h12 + 1) _ (by first | decide | omega) (by first | decide | omega) (by first | decide | omega)
            · skip
              exfalso; omega
          · skip
            refine r_ex hX hP 4 (pc' := 57) (st' := [(0, 1)]) (lo' := [(0, (2, this)), (1, (0, paper)), (2, (2, text)), (3, (0, i)), (4, (0, head)), (5, (0, x2)), (6, (0, l6_h12)), (7, (0, 1))]) rfl ?_
            refine r_if_eq hX hP rfl (tgt := 131) rfl (by first | decide | omega) (by first | decide | omega) (fun c30 => ?_) (fun c30 => ?_)
            · skip
              exfalso; omega
            · skip
              refine r_ex hX hP 1 (pc' := 61) (st' := [(2, this)]) (lo' := [(0, (2, this)), (1, (0, paper)), (2, (2, text)), (3, (0, i)), (4, (0, head)), (5, (0, x2)), (6, (0, l6_h12)), (7, (0, 1))]) rfl ?_
              refine r_getKR hX hP rfl fl_X8_45_129 hS (x := af3) af3e ?_
              refine r_getR hX hP rfl fl_X8_211_130 af3s (fun tf31 tf31e tf31s => ?_)
              refine r_ex hX hP 1 (pc' := 69) (st' := [(0, l6_h12), (2, tf31)]) (lo' := [(0, (2, this)), (1, (0, paper)), (2, (2, text)), (3, (0, i)), (4, (0, head)), (5, (0, x2)), (6, (0, l6_h12)), (7, (0, 1))]) rfl ?_
              refine r_iald hX hP rfl al_94 tf31s (by first | decide | omega) (by first | decide | omega) (fun x32 x32e x32a x32b => ?_)
              refine r_ex hX hP 1 (pc' := 72) (st' := [(0, head), (0, x32)]) (lo' := [(0, (2, this)), (1, (0, paper)), (2, (2, text)), (3, (0, i)), (4, (0, head)), (5, (0, x2)), (6, (0, l6_h12)), (7, (0, 1))]) rfl ?_
              refine r_ic_ne hX hP rfl (tgt := 131) rfl (by first | decide | omega) (by first | decide | omega) (by first | decide | omega) (by first | decide | omega) (fun c33 => ?_) (fun c33 => ?_)
              · skip
                refine r_ex hX hP 2 (pc' := 12) (st' := []) (lo' := [(0, (2, this)), (1, (0, paper)), (2, (2, text)), (3, (0, i)), (4, (0, head)), (5, (0, x2)), (6, (0, (l6_h12 + 1))), (7, (0, 1))]) rfl ?_
                refine r_pick hX [0, 1, 2, 3, 4, 5, 6] (lo' := [(0, (2, this)), (1, (0, paper)), (2, (2, text)), (3, (0, i)), (4, (0, head)), (5, (0, x2)), (6, (0, (l6_h12 + 1)))]) rfl ?_
                refine r_eqG (X := X) (hw_base _ _ _) ?_
                exact ih12 (l6_h12 + 1) _ (by first | decide | omega) (by first | decide | omega) (by first | decide | omega)
              · skip
                refine r_ex hX hP 1 (pc' := 76) (st' := [(2, this)]) (lo' := [(0, (2, this)), (1, (0, paper)), (2, (2, text)), (3, (0, i)), (4, (0, head)), (5, (0, x2)), (6, (0, l6_h12)), (7, (0, 1))]) rfl ?_
                refine r_getR hX hP rfl fl_X8_25_129 hS (fun tf34 tf34e tf34s => ?_)
                refine r_ex hX hP 1 (pc' := 80) (st' := [(0, paper), (2, tf34)]) (lo' := [(0, (2, this)), (1, (0, paper)), (2, (2, text)), (3, (0, i)), (4, (0, head)), (5, (0, x2)), (6, (0, l6_h12)), (7, (0, 1))]) rfl ?_
                refine r_aald hX hP rfl al_114 rfl tf34s (by first | decide | omega) (by first | decide | omega) (fun r35 r35e r35s => ?_)
                refine r_ex hX hP 1 (pc' := 83) (st' := [(0, l6_h12), (2, r35)]) (lo' := [(0, (2, this)), (1, (0, paper)), (2, (2, text)), (3, (0, i)), (4, (0, head)), (5, (0, x2)), (6, (0, l6_h12)), (7, (0, 1))]) rfl ?_
                refine r_lald hX hP rfl al_95 r35s (by first | decide | omega) (by first | decide | omega) (fun x36 x36e x36a x36b => ?_)
                refine r_ex hX hP 1 (pc' := 85) (st' := [(2, text), (1, x36)]) (lo' := [(0, (2, this)), (1, (0, paper)), (2, (2, text)), (3, (0, i)), (4, (0, head)), (5, (0, x2)), (6, (0, l6_h12)), (7, (0, 1))]) rfl ?_
                refine r_getR hX hP rfl fl_X8_309_136 text_s (fun mf37 mf37e mf37s => ?_)
                refine r_ex hX hP 1 (pc' := 89) (st' := [(0, i), (2, mf37), (1, x36)]) (lo' := [(0, (2, this)), (1, (0, paper)), (2, (2, text)), (3, (0, i)), (4, (0, head)), (5, (0, x2)), (6, (0, l6_h12)), (7, (0, 1))]) rfl ?_
                refine r_iald hX hP rfl al_119 mf37s (by first | decide | omega) (by first | decide | omega) (fun x38 x38e x38a x38b => ?_)
                refine r_i2l hX hP rfl (by first | decide | omega) (by first | decide | omega) ?_
                refine r_ex hX hP 1 (pc' := 92) (st' := [(1, (x36 * x38))]) (lo' := [(0, (2, this)), (1, (0, paper)), (2, (2, text)), (3, (0, i)), (4, (0, head)), (5, (0, x2)), (6, (0, l6_h12)), (7, (0, 1))]) rfl ?_
                refine r_hvL hX (fun w39 w39a w39b w39e => ?_)
                refine r_ldc2 hX hP rfl (v := 1000) (tbg sg5 204 rfl rfl) ?_
                refine r_ldiv hX hP rfl (by first | decide | omega) (by first | decide | omega) (by first | decide | omega) (by first | decide | omega) (by first | decide | omega) ?_
                obtain ⟨q40, q40e⟩ : ∃ q : Int, q = (Int.tdiv w39 1000) := ⟨_, rfl⟩
                rw [← q40e]
                have q40b := td_gen q40e (by first | decide | omega)
                refine r_hvL hX (fun w41 w41a w41b w41e => ?_)
                refine r_ex hX hP 2 (pc' := 99) (st' := [(2, this)]) (lo' := [(0, (2, this)), (1, (0, paper)), (2, (2, text)), (3, (0, i)), (4, (0, head)), (5, (0, x2)), (6, (0, l6_h12)), (7, (0, 1)), (8, (1, w41))]) rfl ?_
                refine r_getKR hX hP rfl fl_X8_25_129 hS (x := tf34) tf34e ?_
                refine r_ex hX hP 1 (pc' := 103) (st' := [(0, paper), (2, tf34)]) (lo' := [(0, (2, this)), (1, (0, paper)), (2, (2, text)), (3, (0, i)), (4, (0, head)), (5, (0, x2)), (6, (0, l6_h12)), (7, (0, 1)), (8, (1, w41))]) rfl ?_
                refine r_aaldK hX hP rfl al_114 rfl tf34s (by first | decide | omega) (by first | decide | omega) (x := r35) r35e ?_
                refine r_ex hX hP 2 (pc' := 107) (st' := [(0, l6_h12), (2, r35), (0, l6_h12), (2, r35)]) (lo' := [(0, (2, this)), (1, (0, paper)), (2, (2, text)), (3, (0, i)), (4, (0, head)), (5, (0, x2)), (6, (0, l6_h12)), (7, (0, 1)), (8, (1, w41))]) rfl ?_
                refine r_laldK hX hP rfl al_95 r35s (by first | decide | omega) (by first | decide | omega) (x := x36) x36e ?_
                refine r_ex hX hP 2 (pc' := 111) (st' := [(1, (x36 - w41)), (0, l6_h12), (2, r35)]) (lo' := [(0, (2, this)), (1, (0, paper)), (2, (2, text)), (3, (0, i)), (4, (0, head)), (5, (0, x2)), (6, (0, l6_h12)), (7, (0, 1)), (8, (1, w41))]) rfl ?_
                refine r_hvL hX (fun w42 w42a w42b w42e => ?_)
                refine r_lastK hX hP rfl al_95 r35s (by first | decide | omega) (by first | decide | omega) (by first | decide | omega) (by first | decide | omega) (fun h43 => ?_)
                refine r_ex hX hP 1 (pc' := 113) (st' := [(2, this)]) (lo' := [(0, (2, this)), (1, (0, paper)), (2, (2, text)), (3, (0, i)), (4, (0, head)), (5, (0, x2)), (6, (0, l6_h12)), (7, (0, 1)), (8, (1, w41))]) rfl ?_
                refine r_getKR hX hP rfl fl_X8_25_129 hS (x := tf34) tf34e ?_
                refine r_ex hX hP 1 (pc' := 117) (st' := [(2, text), (2, tf34)]) (lo' := [(0, (2, this)), (1, (0, paper)), (2, (2, text)), (3, (0, i)), (4, (0, head)), (5, (0, x2)), (6, (0, l6_h12)), (7, (0, 1)), (8, (1, w41))]) rfl ?_
                refine r_getKR hX hP rfl fl_X8_277_136 text_s (x := qa) qa_e ?_
                refine r_ex hX hP 1 (pc' := 121) (st' := [(0, i), (2, qa), (2, tf34)]) (lo' := [(0, (2, this)), (1, (0, paper)), (2, (2, text)), (3, (0, i)), (4, (0, head)), (5, (0, x2)), (6, (0, l6_h12)), (7, (0, 1)), (8, (1, w41))]) rfl ?_
                refine r_ialdK hX hP rfl al_121 qa_s (by first | decide | omega) (by first | decide | omega) (x := qv) qv_e ?_
                refine r_aald hX hP rfl al_114 rfl tf34s (by first | decide | omega) (by first | decide | omega) (fun r44 r44e r44s => ?_)
                refine r_ex hX hP 2 (pc' := 126) (st' := [(0, l6_h12), (2, r44), (0, l6_h12), (2, r44)]) (lo' := [(0, (2, this)), (1, (0, paper)), (2, (2, text)), (3, (0, i)), (4, (0, head)), (5, (0, x2)), (6, (0, l6_h12)), (7, (0, 1)), (8, (1, w41))]) rfl ?_
                refine r_lald hX hP rfl al_95 r44s (by first | decide | omega) (by first | decide | omega) (fun x45 x45e x45a x45b => ?_)
                refine r_ex hX hP 2 (pc' := 130) (st' := [(1, (x45 + w41)), (0, l6_h12), (2, r44)]) (lo' := [(0, (2, this)), (1, (0, paper)), (2, (2, text)), (3, (0, i)), (4, (0, head)), (5, (0, x2)), (6, (0, l6_h12)), (7, (0, 1)), (8, (1, w41))]) rfl ?_
                refine r_hvL hX (fun w46 w46a w46b w46e => ?_)
                refine r_lastK hX hP rfl al_95 r44s (by first | decide | omega) (by first | decide | omega) (by first | decide | omega) (by first | decide | omega) (fun h47 => ?_)
                refine r_ex hX hP 2 (pc' := 12) (st' := []) (lo' := [(0, (2, this)), (1, (0, paper)), (2, (2, text)), (3, (0, i)), (4, (0, head)), (5, (0, x2)), (6, (0, (l6_h12 + 1))), (7, (0, 1)), (8, (1, w41))]) rfl ?_
                refine r_pick hX [0, 1, 2, 3, 4, 5, 6] (lo' := [(0, (2, this)), (1, (0, paper)), (2, (2, text)), (3, (0, i)), (4, (0, head)), (5, (0, x2)), (6, (0, (l6_h12 + 1)))]) rfl ?_
                refine r_eqG (X := X) (hw_up (hw_up (hw_base _ _ _) rfl) rfl) ?_
                exact ih12 (l6_h12 + 1) _ (by first | decide | omega) (by first | decide | omega) (by first | decide | omega)
  refine r_eqG (X := X) (hw_refl [(95, -1)] _) ?_
  exact loop12 ((20 - head) + 1 : Int).toNat head _ (by first | decide | omega) (by first | decide | omega) (by first | decide | omega)
set_option maxRecDepth 100000 in
set_option maxHeartbeats 4000000 in
theorem c_X8_moveLeftWorth (E : En) (S : Sg) (G : Gh) (this : Int) (paper : Int) (hS : S this = 129) (paper_a : 0 ≤ paper) (paper_b : paper ≤ 19) : Calls E mX8_moveLeftWorth [(2, this), (0, paper)] S G 0 0 0 (fun r S' G' => S = S' ∧ (∃ G1, hw [(95, -1)] G G1 = G') ∧ r = none ∧ True) := by
  refine calls_by [(0, (2, this)), (1, (0, paper))] rfl rfl (Nat.le_of_ble_eq_true rfl) (fun X hX => ?_)
  have hP := hPX8_moveLeftWorth
  refine r_ex hX hP 2 (pc' := 2) (st' := []) (lo' := [(0, (2, this)), (1, (0, paper)), (2, (0, 0))]) rfl ?_
  have loop2 : ∀ (nF : Nat) (l2_h2 : Int) (Gh2 : Gh), 0 ≤ l2_h2 → l2_h2 ≤ 20 → 20 - l2_h2 < (nF : Int) → X 0 0 2 [] [(0, (2, this)), (1, (0, paper)), (2, (0, l2_h2))] S (hw [(95, -1)] G Gh2) := by
    intro nF
    induction nF with
    | zero => intro l2_h2 Gh2 yh2_0 yh2_1 ym2; exfalso; omega
    | succ nF ih2 =>
      intro l2_h2 Gh2 yh2_0 yh2_1 ym2
      refine r_ex hX hP 2 (pc' := 4) (st' := [(2, this), (0, l2_h2)]) (lo' := [(0, (2, this)), (1, (0, paper)), (2, (0, l2_h2))]) rfl ?_
      refine r_getR hX hP rfl fl_X8_45_129 hS (fun af1 af1e af1s => ?_)
      refine r_getI hX hP rfl fl_X8_207_130 af1s (fun cf2 cf2e cf2a cf2b => ?_)
      refine r_ic_ge hX hP rfl (tgt := 90) rfl (by first | decide | omega) (by first | decide | omega) (by first | decide | omega) (by first | decide | omega) (fun c3 => ?_) (fun c3 => ?_)
      · skip
        exact r_retV hX hP rfl rfl (by first | decide | omega) (by first | decide | omega) ⟨rfl, ⟨_, (hw_sub (hw_refl _ _) rfl).symm⟩, rfl, trivial⟩
      · skip
        refine r_ex hX hP 1 (pc' := 14) (st' := [(2, this)]) (lo' := [(0, (2, this)), (1, (0, paper)), (2, (0, l2_h2))]) rfl ?_
        refine r_getR hX hP rfl fl_X8_22_129 hS (fun hf4 hf4e hf4s => ?_)
        refine r_ex hX hP 1 (pc' := 18) (st' := [(0, paper), (2, hf4)]) (lo' := [(0, (2, this)), (1, (0, paper)), (2, (0, l2_h2))]) rfl ?_
        refine r_aald hX hP rfl al_114 rfl hf4s (by first | decide | omega) (by first | decide | omega) (fun r5 r5e r5s => ?_)
        refine r_ex hX hP 1 (pc' := 20) (st' := [(0, l2_h2), (2, r5)]) (lo' := [(0, (2, this)), (1, (0, paper)), (2, (0, l2_h2))]) rfl ?_
        refine r_lald hX hP rfl al_95 r5s (by first | decide | omega) (by first | decide | omega) (fun x6 x6e x6a x6b => ?_)
        refine r_ex hX hP 1 (pc' := 22) (st' := [(1, 0), (1, x6)]) (lo' := [(0, (2, this)), (1, (0, paper)), (2, (0, l2_h2))]) rfl ?_
        refine r_lc_ne hX hP rfl rfl (tgt := 84) rfl (by first | decide | omega) (by first | decide | omega) (by first | decide | omega) (by first | decide | omega) (fun c7 => ?_) (fun c7 => ?_)
        · skip
          refine r_ex hX hP 2 (pc' := 2) (st' := []) (lo' := [(0, (2, this)), (1, (0, paper)), (2, (0, (l2_h2 + 1)))]) rfl ?_
          refine r_eqG (X := X) (hw_base _ _ _) ?_
          exact ih2 (l2_h2 + 1) _ (by first | decide | omega) (by first | decide | omega) (by first | decide | omega)
        · skip
          refine r_ex hX hP 1 (pc' := 27) (st' := [(2, this)]) (lo' := [(0, (2, this)), (1, (0, paper)), (2, (0, l2_h2))]) rfl ?_
          refine r_getR hX hP rfl fl_X8_25_129 hS (fun tf8 tf8e tf8s => ?_)
          refine r_ex hX hP 1 (pc' := 31) (st' := [(0, paper), (2, tf8)]) (lo' := [(0, (2, this)), (1, (0, paper)), (2, (0, l2_h2))]) rfl ?_
          refine r_aald hX hP rfl al_114 rfl tf8s (by first | decide | omega) (by first | decide | omega) (fun r9 r9e r9s => ?_)
          refine r_ex hX hP 1 (pc' := 33) (st' := [(0, l2_h2), (2, r9)]) (lo' := [(0, (2, this)), (1, (0, paper)), (2, (0, l2_h2))]) rfl ?_
          refine r_lald hX hP rfl al_95 r9s (by first | decide | omega) (by first | decide | omega) (fun x10 x10e x10a x10b => ?_)
          refine r_ex hX hP 2 (pc' := 36) (st' := [(2, this)]) (lo' := [(0, (2, this)), (1, (0, paper)), (2, (0, l2_h2)), (3, (1, x10))]) rfl ?_
          refine r_getKR hX hP rfl fl_X8_25_129 hS (x := tf8) tf8e ?_
          refine r_ex hX hP 1 (pc' := 40) (st' := [(0, paper), (2, tf8)]) (lo' := [(0, (2, this)), (1, (0, paper)), (2, (0, l2_h2)), (3, (1, x10))]) rfl ?_
          refine r_aaldK hX hP rfl al_114 rfl tf8s (by first | decide | omega) (by first | decide | omega) (x := r9) r9e ?_
          refine r_ex hX hP 2 (pc' := 43) (st' := [(1, 0), (0, l2_h2), (2, r9)]) (lo' := [(0, (2, this)), (1, (0, paper)), (2, (0, l2_h2)), (3, (1, x10))]) rfl ?_
          refine r_lastK hX hP rfl al_95 r9s (by first | decide | omega) (by first | decide | omega) (by first | decide | omega) (by first | decide | omega) (fun h11 => ?_)
          refine r_ex hX hP 1 (pc' := 45) (st' := [(2, this)]) (lo' := [(0, (2, this)), (1, (0, paper)), (2, (0, l2_h2)), (3, (1, x10))]) rfl ?_
          refine r_getR hX hP rfl fl_X8_74_129 hS (fun ff12 ff12e ff12s => ?_)
          refine r_ex hX hP 1 (pc' := 49) (st' := [(0, l2_h2), (2, ff12)]) (lo' := [(0, (2, this)), (1, (0, paper)), (2, (0, l2_h2)), (3, (1, x10))]) rfl ?_
          refine r_iald hX hP rfl al_93 ff12s (by first | decide | omega) (by first | decide | omega) (fun x13 x13e x13a x13b => ?_)
          refine r_ex hX hP 1 (pc' := 51) (st' := [(0, (-1)), (0, x13)]) (lo' := [(0, (2, this)), (1, (0, paper)), (2, (0, l2_h2)), (3, (1, x10))]) rfl ?_
          refine r_ic_ne hX hP rfl (tgt := 67) rfl (by first | decide | omega) (by first | decide | omega) (by first | decide | omega) (by first | decide | omega) (fun c14 => ?_) (fun c14 => ?_)
          · skip
            refine r_ex hX hP 1 (pc' := 68) (st' := [(2, this)]) (lo' := [(0, (2, this)), (1, (0, paper)), (2, (0, l2_h2)), (3, (1, x10))]) rfl ?_
            refine r_getKR hX hP rfl fl_X8_25_129 hS (x := tf8) tf8e ?_
            refine r_ex hX hP 1 (pc' := 72) (st' := [(2, this), (2, tf8)]) (lo' := [(0, (2, this)), (1, (0, paper)), (2, (0, l2_h2)), (3, (1, x10))]) rfl ?_
            refine r_getKR hX hP rfl fl_X8_74_129 hS (x := ff12) ff12e ?_
            refine r_ex hX hP 1 (pc' := 76) (st' := [(0, l2_h2), (2, ff12), (2, tf8)]) (lo' := [(0, (2, this)), (1, (0, paper)), (2, (0, l2_h2)), (3, (1, x10))]) rfl ?_
            refine r_ialdK hX hP rfl al_93 ff12s (by first | decide | omega) (by first | decide | omega) (x := x13) x13e ?_
            refine r_aald hX hP rfl al_114 rfl tf8s (by first | decide | omega) (by first | decide | omega) (fun r15 r15e r15s => ?_)
            refine r_ex hX hP 2 (pc' := 80) (st' := [(0, l2_h2), (2, r15), (0, l2_h2), (2, r15)]) (lo' := [(0, (2, this)), (1, (0, paper)), (2, (0, l2_h2)), (3, (1, x10))]) rfl ?_
            refine r_lald hX hP rfl al_95 r15s (by first | decide | omega) (by first | decide | omega) (fun x16 x16e x16a x16b => ?_)
            refine r_ex hX hP 2 (pc' := 83) (st' := [(1, (x16 + x10)), (0, l2_h2), (2, r15)]) (lo' := [(0, (2, this)), (1, (0, paper)), (2, (0, l2_h2)), (3, (1, x10))]) rfl ?_
            refine r_hvL hX (fun w17 w17a w17b w17e => ?_)
            refine r_lastK hX hP rfl al_95 r15s (by first | decide | omega) (by first | decide | omega) (by first | decide | omega) (by first | decide | omega) (fun h18 => ?_)
            refine r_ex hX hP 2 (pc' := 2) (st' := []) (lo' := [(0, (2, this)), (1, (0, paper)), (2, (0, (l2_h2 + 1))), (3, (1, x10))]) rfl ?_
            refine r_pick hX [0, 1, 2] (lo' := [(0, (2, this)), (1, (0, paper)), (2, (0, (l2_h2 + 1)))]) rfl ?_
            refine r_eqG (X := X) (hw_up (hw_up (hw_base _ _ _) rfl) rfl) ?_
            exact ih2 (l2_h2 + 1) _ (by first | decide | omega) (by first | decide | omega) (by first | decide | omega)
          · skip
            refine r_ex hX hP 1 (pc' := 55) (st' := [(2, this)]) (lo' := [(0, (2, this)), (1, (0, paper)), (2, (0, l2_h2)), (3, (1, x10))]) rfl ?_
            refine r_getR hX hP rfl fl_X8_32_129 hS (fun rf19 rf19e rf19s => ?_)
            refine r_ex hX hP 2 (pc' := 60) (st' := [(0, l2_h2), (2, rf19), (0, l2_h2), (2, rf19)]) (lo' := [(0, (2, this)), (1, (0, paper)), (2, (0, l2_h2)), (3, (1, x10))]) rfl ?_
            refine r_lald hX hP rfl al_95 rf19s (by first | decide | omega) (by first | decide | omega) (fun x20 x20e x20a x20b => ?_)
            refine r_ex hX hP 2 (pc' := 63) (st' := [(1, (x20 + x10)), (0, l2_h2), (2, rf19)]) (lo' := [(0, (2, this)), (1, (0, paper)), (2, (0, l2_h2)), (3, (1, x10))]) rfl ?_
            refine r_hvL hX (fun w21 w21a w21b w21e => ?_)
            refine r_lastK hX hP rfl al_95 rf19s (by first | decide | omega) (by first | decide | omega) (by first | decide | omega) (by first | decide | omega) (fun h22 => ?_)
            refine r_ex hX hP 3 (pc' := 2) (st' := []) (lo' := [(0, (2, this)), (1, (0, paper)), (2, (0, (l2_h2 + 1))), (3, (1, x10))]) rfl ?_
            refine r_pick hX [0, 1, 2] (lo' := [(0, (2, this)), (1, (0, paper)), (2, (0, (l2_h2 + 1)))]) rfl ?_
            refine r_eqG (X := X) (hw_up (hw_up (hw_base _ _ _) rfl) rfl) ?_
            exact ih2 (l2_h2 + 1) _ (by first | decide | omega) (by first | decide | omega) (by first | decide | omega)
  refine r_eqG (X := X) (hw_refl [(95, -1)] _) ?_
  exact loop2 ((20 - 0) + 1 : Int).toNat 0 _ (by first | decide | omega) (by first | decide | omega) (by first | decide | omega)
set_option maxRecDepth 100000 in
set_option maxHeartbeats 4000000 in
theorem c_X8_watch (E : En) (S : Sg) (G : Gh) (this : Int) (hS : S this = 129) : Calls E mX8_watch [(2, this)] S G 1 0 0 (fun r S' G' => S = S' ∧ (∃ G1, hw [(95, -1), (129, 2)] G G1 = G') ∧ r = none ∧ True) := by
  refine calls_by [(0, (2, this))] rfl rfl (Nat.le_of_ble_eq_true rfl) (fun X hX => ?_)
  have hP := hPX8_watch
  refine r_ex hX hP 2 (pc' := 2) (st' := []) (lo' := [(0, (2, this)), (1, (0, 0))]) rfl ?_
  have loop2 : ∀ (nF : Nat) (l1_h2 : Int) (Gh2 : Gh), 0 ≤ l1_h2 → l1_h2 ≤ 20 → 20 - l1_h2 < (nF : Int) → X 0 0 2 [] [(0, (2, this)), (1, (0, l1_h2))] S (hw [(95, -1), (129, 2)] G Gh2) := by
    intro nF
    induction nF with
    | zero => intro l1_h2 Gh2 yh2_0 yh2_1 ym2; exfalso; omega
    | succ nF ih2 =>
      intro l1_h2 Gh2 yh2_0 yh2_1 ym2
      refine r_ex hX hP 2 (pc' := 5) (st' := [(0, 20), (0, l1_h2)]) (lo' := [(0, (2, this)), (1, (0, l1_h2))]) rfl ?_
      refine r_ic_ge hX hP rfl (tgt := 85) rfl (by first | decide | omega) (by first | decide | omega) (by first | decide | omega) (by first | decide | omega) (fun c1 => ?_) (fun c1 => ?_)
      · skip
        exact r_retV hX hP rfl rfl (by first | decide | omega) (by first | decide | omega) ⟨rfl, ⟨_, (hw_sub (hw_refl _ _) rfl).symm⟩, rfl, trivial⟩
      · skip
        refine r_ex hX hP 1 (pc' := 9) (st' := [(2, this)]) (lo' := [(0, (2, this)), (1, (0, l1_h2))]) rfl ?_
        refine r_getR hX hP rfl fl_X8_45_129 hS (fun af2 af2e af2s => ?_)
        refine r_ex hX hP 1 (pc' := 13) (st' := [(2, this), (2, af2)]) (lo' := [(0, (2, this)), (1, (0, l1_h2))]) rfl ?_
        refine r_getR hX hP rfl fl_X8_22_129 hS (fun hf3 hf3e hf3s => ?_)
        refine r_ex hX hP 1 (pc' := 17) (st' := [(0, l1_h2), (2, hf3), (2, af2)]) (lo' := [(0, (2, this)), (1, (0, l1_h2))]) rfl ?_
        refine r_aald hX hP rfl al_114 rfl hf3s (by first | decide | omega) (by first | decide | omega) (fun r4 r4e r4s => ?_)
        refine r_ex hX hP 1 (pc' := 19) (st' := [(2, this), (2, r4), (2, af2)]) (lo' := [(0, (2, this)), (1, (0, l1_h2))]) rfl ?_
        refine r_getKR hX hP rfl fl_X8_45_129 hS (x := af2) af2e ?_
        refine r_getR hX hP rfl fl_X8_314_130 af2s (fun of5 of5e of5s => ?_)
        refine r_callV gd hX hP rfl cv_X8_317_130 af2s (d' := 0) (mc' := 0) (ms' := 0) (as' := [(2, r4), (2, of5)]) (st := []) (by first | decide | omega) (by first | decide | omega) (by first | decide | omega) rfl rfl (Nat.le_of_ble_eq_true rfl) (c_X0_roll E S (hw [(95, -1), (129, 2)] G Gh2) af2 r4 of5 af2s r4s of5s) ?_
        rintro _ _ _ ⟨rfl, ⟨G6, rfl⟩, rfl, -⟩
        refine r_ex hX hP 2 (pc' := 30) (st' := []) (lo' := [(0, (2, this)), (1, (0, l1_h2)), (2, (0, 0))]) rfl ?_
        have loop30 : ∀ (nF : Nat) (l2_h30 : Int) (Gh30 : Gh), 0 ≤ l2_h30 → l2_h30 ≤ 20 → 20 - l2_h30 < (nF : Int) → X 0 0 30 [] [(0, (2, this)), (1, (0, l1_h2)), (2, (0, l2_h30))] S (hw [(129, 2)] (hw [(95, -1)] (hw [(95, -1), (129, 2)] G Gh2) G6) Gh30) := by
          intro nF
          induction nF with
          | zero => intro l2_h30 Gh30 yh30_0 yh30_1 ym30; exfalso; omega
          | succ nF ih30 =>
            intro l2_h30 Gh30 yh30_0 yh30_1 ym30
            refine r_ex hX hP 2 (pc' := 32) (st' := [(2, this), (0, l2_h30)]) (lo' := [(0, (2, this)), (1, (0, l1_h2)), (2, (0, l2_h30))]) rfl ?_
            refine r_getKR hX hP rfl fl_X8_45_129 hS (x := af2) af2e ?_
            refine r_getI hX hP rfl fl_X8_207_130 af2s (fun cf7 cf7e cf7a cf7b => ?_)
            refine r_ic_ge hX hP rfl (tgt := 79) rfl (by first | decide | omega) (by first | decide | omega) (by first | decide | omega) (by first | decide | omega) (fun c8 => ?_) (fun c8 => ?_)
            · skip
              refine r_ex hX hP 2 (pc' := 2) (st' := []) (lo' := [(0, (2, this)), (1, (0, (l1_h2 + 1))), (2, (0, l2_h30))]) rfl ?_
              refine r_pick hX [0, 1] (lo' := [(0, (2, this)), (1, (0, (l1_h2 + 1)))]) rfl ?_
              refine r_eqG (X := X) (hw_sub (hw_sub (hw_base _ _ _) rfl) rfl) ?_
              exact ih2 (l1_h2 + 1) _ (by first | decide | omega) (by first | decide | omega) (by first | decide | omega)
            · skip
              refine r_ex hX hP 2 (pc' := 43) (st' := [(2, this), (2, this)]) (lo' := [(0, (2, this)), (1, (0, l1_h2)), (2, (0, l2_h30))]) rfl ?_
              refine r_getI hX hP rfl fl_X8_90_129 hS (fun of9 of9e of9a of9b => ?_)
              refine r_if_ne hX hP rfl (tgt := 65) rfl (by first | decide | omega) (by first | decide | omega) (fun c10 => ?_) (fun c10 => ?_)
              · skip
                refine r_ex hX hP 2 (pc' := 70) (st' := [(0, 1), (2, this)]) (lo' := [(0, (2, this)), (1, (0, l1_h2)), (2, (0, l2_h30))]) rfl ?_
                refine r_putIK hX hP rfl fp_X8_90_129 hS (by first | decide | omega) (by first | decide | omega) (fun h11 => ?_)
                refine r_ex hX hP 2 (pc' := 30) (st' := []) (lo' := [(0, (2, this)), (1, (0, l1_h2)), (2, (0, (l2_h30 + 1)))]) rfl ?_
                refine r_eqG (X := X) (hw_up (hw_base _ _ _) rfl) ?_
                exact ih30 (l2_h30 + 1) _ (by first | decide | omega) (by first | decide | omega) (by first | decide | omega)
              · skip
                refine r_ex hX hP 1 (pc' := 50) (st' := [(2, this), (2, this)]) (lo' := [(0, (2, this)), (1, (0, l1_h2)), (2, (0, l2_h30))]) rfl ?_
                refine r_getKR hX hP rfl fl_X8_45_129 hS (x := af2) af2e ?_
                refine r_getKR hX hP rfl fl_X8_314_130 af2s (x := of5) of5e ?_
                refine r_ex hX hP 1 (pc' := 57) (st' := [(0, l2_h30), (2, of5), (2, this)]) (lo' := [(0, (2, this)), (1, (0, l1_h2)), (2, (0, l2_h30))]) rfl ?_
                refine r_lald hX hP rfl al_95 of5s (by first | decide | omega) (by first | decide | omega) (fun x12 x12e x12a x12b => ?_)
                refine r_ldc2 hX hP rfl (v := 1000000000) (tbg sg5 221 rfl rfl) ?_
                refine r_lc_le hX hP rfl rfl (tgt := 69) rfl (by first | decide | omega) (by first | decide | omega) (by first | decide | omega) (by first | decide | omega) (fun c13 => ?_) (fun c13 => ?_)
                · skip
                  refine r_ex hX hP 1 (pc' := 70) (st' := [(0, 0), (2, this)]) (lo' := [(0, (2, this)), (1, (0, l1_h2)), (2, (0, l2_h30))]) rfl ?_
                  refine r_putIK hX hP rfl fp_X8_90_129 hS (by first | decide | omega) (by first | decide | omega) (fun h14 => ?_)
                  refine r_ex hX hP 2 (pc' := 30) (st' := []) (lo' := [(0, (2, this)), (1, (0, l1_h2)), (2, (0, (l2_h30 + 1)))]) rfl ?_
                  refine r_eqG (X := X) (hw_up (hw_base _ _ _) rfl) ?_
                  exact ih30 (l2_h30 + 1) _ (by first | decide | omega) (by first | decide | omega) (by first | decide | omega)
                · skip
                  refine r_ex hX hP 2 (pc' := 70) (st' := [(0, 1), (2, this)]) (lo' := [(0, (2, this)), (1, (0, l1_h2)), (2, (0, l2_h30))]) rfl ?_
                  refine r_putIK hX hP rfl fp_X8_90_129 hS (by first | decide | omega) (by first | decide | omega) (fun h15 => ?_)
                  refine r_ex hX hP 2 (pc' := 30) (st' := []) (lo' := [(0, (2, this)), (1, (0, l1_h2)), (2, (0, (l2_h30 + 1)))]) rfl ?_
                  refine r_eqG (X := X) (hw_up (hw_base _ _ _) rfl) ?_
                  exact ih30 (l2_h30 + 1) _ (by first | decide | omega) (by first | decide | omega) (by first | decide | omega)
        refine r_eqG (X := X) (hw_refl [(129, 2)] _) ?_
        exact loop30 ((20 - 0) + 1 : Int).toNat 0 _ (by first | decide | omega) (by first | decide | omega) (by first | decide | omega)
  refine r_eqG (X := X) (hw_refl [(95, -1), (129, 2)] _) ?_
  exact loop2 ((20 - 0) + 1 : Int).toNat 0 _ (by first | decide | omega) (by first | decide | omega) (by first | decide | omega)
set_option maxRecDepth 100000 in
set_option maxHeartbeats 4000000 in
theorem c_X8_sortShares (E : En) (S : Sg) (G : Gh) (this : Int) (happened : Int) (number : Int) (hS : S this = 129) (happened_s : S happened = 137) (evl : Int) (evl_e : evl = G 129 this 12) (evl_s : S evl = 156) (evn : Int) (evn_e : evn = G 156 evl 2) (number_a : 0 ≤ number) (number_b : number ≤ 15) (pre0 : number + 1 ≤ evn) (ci : CI E S G) : Calls E mX8_sortShares [(2, this), (2, happened), (0, number)] S G 4 0 0 (fun r S' G' => S = S' ∧ (∃ G1, hw [(95, -1)] G G1 = G') ∧ r = none ∧ True) := by
  refine calls_by [(0, (2, this)), (1, (2, happened)), (2, (0, number))] rfl rfl (Nat.le_of_ble_eq_true rfl) (fun X hX => ?_)
  have hP := hPX8_sortShares
  refine r_peekI hX (tl_156 2 rfl (by decide)) evl_s (fun evn_o evn_oe evn_oa evn_ob => ?_)
  obtain rfl : evn = evn_o := evn_e.trans evn_oe.symm
  refine r_ex hX hP 2 (pc' := 2) (st' := []) (lo' := [(0, (2, this)), (1, (2, happened)), (2, (0, number)), (3, (0, 0))]) rfl ?_
  have loop2 : ∀ (nF : Nat) (l3_h2 : Int) (Gh2 : Gh), 0 ≤ l3_h2 → l3_h2 ≤ 3 → 3 - l3_h2 < (nF : Int) → X 0 0 2 [] [(0, (2, this)), (1, (2, happened)), (2, (0, number)), (3, (0, l3_h2))] S (hw [(95, -1)] G Gh2) := by
    intro nF
    induction nF with
    | zero => intro l3_h2 Gh2 yh2_0 yh2_1 ym2; exfalso; omega
    | succ nF ih2 =>
      intro l3_h2 Gh2 yh2_0 yh2_1 ym2
      refine r_ex hX hP 2 (pc' := 4) (st' := [(0, 3), (0, l3_h2)]) (lo' := [(0, (2, this)), (1, (2, happened)), (2, (0, number)), (3, (0, l3_h2))]) rfl ?_
      refine r_ic_ge hX hP rfl (tgt := 26) rfl (by first | decide | omega) (by first | decide | omega) (by first | decide | omega) (by first | decide | omega) (fun c1 => ?_) (fun c1 => ?_)
      · skip
        refine r_ex hX hP 2 (pc' := 28) (st' := []) (lo' := [(0, (2, this)), (1, (2, happened)), (2, (0, number)), (3, (0, 0))]) rfl ?_
        have loop28 : ∀ (nF : Nat) (l3_h28 : Int) (Gh28 : Gh), 0 ≤ l3_h28 → l3_h28 ≤ 20 → 20 - l3_h28 < (nF : Int) → X 0 0 28 [] [(0, (2, this)), (1, (2, happened)), (2, (0, number)), (3, (0, l3_h28))] S (hw [(95, -1)] (hw [(95, -1)] G Gh2) Gh28) := by
          intro nF
          induction nF with
          | zero => intro l3_h28 Gh28 yh28_0 yh28_1 ym28; exfalso; omega
          | succ nF ih28 =>
            intro l3_h28 Gh28 yh28_0 yh28_1 ym28
            refine r_ex hX hP 2 (pc' := 30) (st' := [(2, this), (0, l3_h28)]) (lo' := [(0, (2, this)), (1, (2, happened)), (2, (0, number)), (3, (0, l3_h28))]) rfl ?_
            refine r_getR hX hP rfl fl_X8_45_129 hS (fun af2 af2e af2s => ?_)
            refine r_getI hX hP rfl fl_X8_207_130 af2s (fun cf3 cf3e cf3a cf3b => ?_)
            refine r_ic_ge hX hP rfl (tgt := 118) rfl (by first | decide | omega) (by first | decide | omega) (by first | decide | omega) (by first | decide | omega) (fun c4 => ?_) (fun c4 => ?_)
            · skip
              exact r_retV hX hP rfl rfl (by first | decide | omega) (by first | decide | omega) ⟨rfl, ⟨_, (hw_sub (hw_sub (hw_refl _ _) rfl) rfl).symm⟩, rfl, trivial⟩
            · skip
              refine r_ex hX hP 1 (pc' := 40) (st' := [(2, this)]) (lo' := [(0, (2, this)), (1, (2, happened)), (2, (0, number)), (3, (0, l3_h28))]) rfl ?_
              refine r_getR hX hP rfl fl_X8_22_129 hS (fun hf5 hf5e hf5s => ?_)
              refine r_ex hX hP 1 (pc' := 44) (st' := [(2, happened), (2, hf5)]) (lo' := [(0, (2, this)), (1, (2, happened)), (2, (0, number)), (3, (0, l3_h28))]) rfl ?_
              refine r_getI hX hP rfl fl_X8_217_137 happened_s (fun pf6 pf6e pf6a pf6b => ?_)
              refine r_aald hX hP rfl al_114 rfl hf5s (by first | decide | omega) (by first | decide | omega) (fun r7 r7e r7s => ?_)
              refine r_ex hX hP 1 (pc' := 49) (st' := [(0, l3_h28), (2, r7)]) (lo' := [(0, (2, this)), (1, (2, happened)), (2, (0, number)), (3, (0, l3_h28))]) rfl ?_
              refine r_lald hX hP rfl al_95 r7s (by first | decide | omega) (by first | decide | omega) (fun x8 x8e x8a x8b => ?_)
              refine r_ex hX hP 2 (pc' := 53) (st' := [(2, this)]) (lo' := [(0, (2, this)), (1, (2, happened)), (2, (0, number)), (3, (0, l3_h28)), (4, (1, x8))]) rfl ?_
              refine r_getKR hX hP rfl fl_X8_45_129 hS (x := af2) af2e ?_
              refine r_getR hX hP rfl fl_X8_208_130 af2s (fun mf9 mf9e mf9s => ?_)
              refine r_ex hX hP 1 (pc' := 60) (st' := [(0, 3), (2, mf9)]) (lo' := [(0, (2, this)), (1, (2, happened)), (2, (0, number)), (3, (0, l3_h28)), (4, (1, x8))]) rfl ?_
              refine r_aald hX hP rfl al_98 rfl mf9s (by first | decide | omega) (by first | decide | omega) (fun r10 r10e r10s => ?_)
              refine r_ex hX hP 2 (pc' := 64) (st' := [(1, x8), (0, l3_h28), (2, r10)]) (lo' := [(0, (2, this)), (1, (2, happened)), (2, (0, number)), (3, (0, l3_h28)), (4, (1, x8))]) rfl ?_
              refine r_lastK hX hP rfl al_95 r10s (by first | decide | omega) (by first | decide | omega) (by first | decide | omega) (by first | decide | omega) (fun h11 => ?_)
              refine r_ex hX hP 1 (pc' := 66) (st' := [(2, happened)]) (lo' := [(0, (2, this)), (1, (2, happened)), (2, (0, number)), (3, (0, l3_h28)), (4, (1, x8))]) rfl ?_
              refine r_getR hX hP rfl fl_X8_168_137 happened_s (fun tf12 tf12e tf12s => ?_)
              refine r_getI hX hP rfl fl_X8_225_136 tf12s (fun cf13 cf13e cf13a cf13b => ?_)
              refine r_if_le hX hP rfl (tgt := 84) rfl (by first | decide | omega) (by first | decide | omega) (fun c14 => ?_) (fun c14 => ?_)
              · skip
                refine r_ex hX hP 3 (pc' := 89) (st' := [(0, (-1))]) (lo' := [(0, (2, this)), (1, (2, happened)), (2, (0, number)), (3, (0, l3_h28)), (4, (1, x8)), (6, (0, (-1)))]) rfl ?_
                refine r_if_lt hX hP rfl (tgt := 112) rfl (by first | decide | omega) (by first | decide | omega) (fun c15 => ?_) (fun c15 => ?_)
                · skip
                  refine r_ex hX hP 2 (pc' := 28) (st' := []) (lo' := [(0, (2, this)), (1, (2, happened)), (2, (0, number)), (3, (0, (l3_h28 + 1))), (4, (1, x8)), (6, (0, (-1)))]) rfl ?_
                  refine r_pick hX [0, 1, 2, 3] (lo' := [(0, (2, this)), (1, (2, happened)), (2, (0, number)), (3, (0, (l3_h28 + 1)))]) rfl ?_
                  refine r_eqG (X := X) (hw_up (hw_base _ _ _) rfl) ?_
                  exact ih28 (l3_h28 + 1) _ (by first | decide | omega) (by first | decide | omega) (by first | decide | omega)
                · skip
                  exfalso; omega
              · skip
                refine r_ex hX hP 3 (pc' := 78) (st' := [(0, l3_h28), (0, number), (2, this)]) (lo' := [(0, (2, this)), (1, (2, happened)), (2, (0, number)), (3, (0, l3_h28)), (4, (1, x8))]) rfl ?_
                have ci16 : CI E S (up (hw [(95, -1)] (hw [(95, -1)] G Gh2) Gh28) 95 r10 l3_h28 x8) := (ci_up (ci_hw (ci_hw ci rfl) rfl) rfl)
                refine r_callV gd hX hP rfl cv_X8_228_129 hS (d' := 3) (mc' := 0) (ms' := 0) (as' := [(0, number), (0, l3_h28)]) (st := []) (by first | decide | omega) (by first | decide | omega) (by first | decide | omega) rfl rfl (Nat.le_of_ble_eq_true rfl) (c_X8_choiceOf E S (up (hw [(95, -1)] (hw [(95, -1)] G Gh2) Gh28) 95 r10 l3_h28 x8) this number l3_h28 hS evl evl_e evl_s evn evn_e (by first | decide | omega) (by first | decide | omega) (by first | decide | omega) (by first | decide | omega) (by first | decide | omega) ci16) ?_
                rintro _ _ _ ⟨rfl, rfl, z17, rfl, z17a, z17b⟩
                refine r_ex hX hP 3 (pc' := 89) (st' := [(0, z17)]) (lo' := [(0, (2, this)), (1, (2, happened)), (2, (0, number)), (3, (0, l3_h28)), (4, (1, x8)), (6, (0, z17))]) rfl ?_
                refine r_if_lt hX hP rfl (tgt := 112) rfl (by first | decide | omega) (by first | decide | omega) (fun c18 => ?_) (fun c18 => ?_)
                · skip
                  refine r_ex hX hP 2 (pc' := 28) (st' := []) (lo' := [(0, (2, this)), (1, (2, happened)), (2, (0, number)), (3, (0, (l3_h28 + 1))), (4, (1, x8)), (6, (0, z17))]) rfl ?_
                  refine r_pick hX [0, 1, 2, 3] (lo' := [(0, (2, this)), (1, (2, happened)), (2, (0, number)), (3, (0, (l3_h28 + 1)))]) rfl ?_
                  refine r_eqG (X := X) (hw_up (hw_base _ _ _) rfl) ?_
                  exact ih28 (l3_h28 + 1) _ (by first | decide | omega) (by first | decide | omega) (by first | decide | omega)
                · skip
                  refine r_ex hX hP 2 (pc' := 95) (st' := [(0, 3), (0, z17)]) (lo' := [(0, (2, this)), (1, (2, happened)), (2, (0, number)), (3, (0, l3_h28)), (4, (1, x8)), (6, (0, z17))]) rfl ?_
                  refine r_ic_ge hX hP rfl (tgt := 112) rfl (by first | decide | omega) (by first | decide | omega) (by first | decide | omega) (by first | decide | omega) (fun c19 => ?_) (fun c19 => ?_)
                  · skip
                    exfalso; omega
                  · skip
                    refine r_ex hX hP 1 (pc' := 99) (st' := [(2, this)]) (lo' := [(0, (2, this)), (1, (2, happened)), (2, (0, number)), (3, (0, l3_h28)), (4, (1, x8)), (6, (0, z17))]) rfl ?_
                    refine r_getKR hX hP rfl fl_X8_45_129 hS (x := af2) af2e ?_
                    refine r_getKR hX hP rfl fl_X8_208_130 af2s (x := mf9) mf9e ?_
                    refine r_ex hX hP 1 (pc' := 107) (st' := [(0, z17), (2, mf9)]) (lo' := [(0, (2, this)), (1, (2, happened)), (2, (0, number)), (3, (0, l3_h28)), (4, (1, x8)), (6, (0, z17))]) rfl ?_
                    refine r_aald hX hP rfl al_98 rfl mf9s (by first | decide | omega) (by first | decide | omega) (fun r20 r20e r20s => ?_)
                    refine r_ex hX hP 2 (pc' := 111) (st' := [(1, x8), (0, l3_h28), (2, r20)]) (lo' := [(0, (2, this)), (1, (2, happened)), (2, (0, number)), (3, (0, l3_h28)), (4, (1, x8)), (6, (0, z17))]) rfl ?_
                    refine r_lastK hX hP rfl al_95 r20s (by first | decide | omega) (by first | decide | omega) (by first | decide | omega) (by first | decide | omega) (fun h21 => ?_)
                    refine r_ex hX hP 2 (pc' := 28) (st' := []) (lo' := [(0, (2, this)), (1, (2, happened)), (2, (0, number)), (3, (0, (l3_h28 + 1))), (4, (1, x8)), (6, (0, z17))]) rfl ?_
                    refine r_pick hX [0, 1, 2, 3] (lo' := [(0, (2, this)), (1, (2, happened)), (2, (0, number)), (3, (0, (l3_h28 + 1)))]) rfl ?_
                    refine r_eqG (X := X) (hw_up (hw_up (hw_base _ _ _) rfl) rfl) ?_
                    exact ih28 (l3_h28 + 1) _ (by first | decide | omega) (by first | decide | omega) (by first | decide | omega)
        refine r_eqG (X := X) (hw_refl [(95, -1)] _) ?_
        exact loop28 ((20 - 0) + 1 : Int).toNat 0 _ (by first | decide | omega) (by first | decide | omega) (by first | decide | omega)
      · skip
        refine r_ex hX hP 1 (pc' := 8) (st' := [(2, this)]) (lo' := [(0, (2, this)), (1, (2, happened)), (2, (0, number)), (3, (0, l3_h2))]) rfl ?_
        refine r_getR hX hP rfl fl_X8_45_129 hS (fun af22 af22e af22s => ?_)
        refine r_getR hX hP rfl fl_X8_208_130 af22s (fun mf23 mf23e mf23s => ?_)
        refine r_ex hX hP 1 (pc' := 15) (st' := [(0, l3_h2), (2, mf23)]) (lo' := [(0, (2, this)), (1, (2, happened)), (2, (0, number)), (3, (0, l3_h2))]) rfl ?_
        refine r_aald hX hP rfl al_98 rfl mf23s (by first | decide | omega) (by first | decide | omega) (fun r24 r24e r24s => ?_)
        refine r_ex hX hP 1 (pc' := 17) (st' := [(1, 0), (2, r24)]) (lo' := [(0, (2, this)), (1, (2, happened)), (2, (0, number)), (3, (0, l3_h2))]) rfl ?_
        refine r_callS gd hX hP rfl cs_X8_117 (d' := 0) (mc' := 0) (ms' := 0) (as' := [(2, r24), (1, 0)]) (st := []) (by first | decide | omega) (by first | decide | omega) (by first | decide | omega) rfl rfl (Nat.le_of_ble_eq_true rfl) (c_fillJ_J20 E S (hw [(95, -1)] G Gh2) r24 0 r24s (by first | decide | omega) (by first | decide | omega)) ?_
        rintro _ _ _ ⟨rfl, ⟨G25, rfl⟩, rfl, -⟩
        refine r_ex hX hP 2 (pc' := 2) (st' := []) (lo' := [(0, (2, this)), (1, (2, happened)), (2, (0, number)), (3, (0, (l3_h2 + 1)))]) rfl ?_
        refine r_eqG (X := X) (hw_sub (hw_base _ _ _) rfl) ?_
        exact ih2 (l3_h2 + 1) _ (by first | decide | omega) (by first | decide | omega) (by first | decide | omega)
  refine r_eqG (X := X) (hw_refl [(95, -1)] _) ?_
  exact loop2 ((3 - 0) + 1 : Int).toNat 0 _ (by first | decide | omega) (by first | decide | omega) (by first | decide | omega)
set_option maxRecDepth 100000 in
set_option maxHeartbeats 4000000 in
theorem c_X8_allotTops (E : En) (S : Sg) (G : Gh) (this : Int) (text : Int) (row : Int) (hS : S this = 129) (text_s : S text = 136) (row_a : 0 ≤ row) (row_b : row ≤ 2) : Calls E mX8_allotTops [(2, this), (2, text), (0, row)] S G 2 0 0 (fun r S' G' => S = S' ∧ (∃ G1, hw [(95, -1), (96, -1)] G G1 = G') ∧ ∃ z : Int, r = some (0, z) ∧ 0 ≤ z ∧ z ≤ 1) := by
  refine calls_by [(0, (2, this)), (1, (2, text)), (2, (0, row))] rfl rfl (Nat.le_of_ble_eq_true rfl) (fun X hX => ?_)
  have hP := hPX8_allotTops
  refine r_ex hX hP 1 (pc' := 1) (st' := [(2, text)]) (lo' := [(0, (2, this)), (1, (2, text)), (2, (0, row))]) rfl ?_
  refine r_getR hX hP rfl fl_X8_232_136 text_s (fun mf1 mf1e mf1s => ?_)
  refine r_ex hX hP 1 (pc' := 5) (st' := [(0, row), (2, mf1)]) (lo' := [(0, (2, this)), (1, (2, text)), (2, (0, row))]) rfl ?_
  refine r_iald hX hP rfl al_124 mf1s (by first | decide | omega) (by first | decide | omega) (fun x2 x2e x2a x2b => ?_)
  refine r_i2l hX hP rfl (by first | decide | omega) (by first | decide | omega) ?_
  refine r_ex hX hP 5 (pc' := 14) (st' := []) (lo' := [(0, (2, this)), (1, (2, text)), (2, (0, row)), (3, (1, x2)), (5, (1, 0)), (7, (0, 0))]) rfl ?_
  have loop14 : ∀ (nF : Nat) (l5_h14 l7_h14 : Int), (-9223372036854775808) ≤ l5_h14 → l5_h14 ≤ 9223372036854775807 → 0 ≤ l7_h14 → l7_h14 ≤ 20 → 20 - l7_h14 < (nF : Int) → X 0 0 14 [] [(0, (2, this)), (1, (2, text)), (2, (0, row)), (3, (1, x2)), (5, (1, l5_h14)), (7, (0, l7_h14))] S G := by
    intro nF
    induction nF with
    | zero => intro l5_h14 l7_h14 yh14_0 yh14_1 yh14_2 yh14_3 ym14; exfalso; omega
    | succ nF ih14 =>
      intro l5_h14 l7_h14 yh14_0 yh14_1 yh14_2 yh14_3 ym14
      refine r_ex hX hP 2 (pc' := 17) (st' := [(2, this), (0, l7_h14)]) (lo' := [(0, (2, this)), (1, (2, text)), (2, (0, row)), (3, (1, x2)), (5, (1, l5_h14)), (7, (0, l7_h14))]) rfl ?_
      refine r_getR hX hP rfl fl_X8_45_129 hS (fun af3 af3e af3s => ?_)
      refine r_getI hX hP rfl fl_X8_207_130 af3s (fun cf4 cf4e cf4a cf4b => ?_)
      refine r_ic_ge hX hP rfl (tgt := 68) rfl (by first | decide | omega) (by first | decide | omega) (by first | decide | omega) (by first | decide | omega) (fun c5 => ?_) (fun c5 => ?_)
      · skip
        refine r_ex hX hP 2 (pc' := 71) (st' := [(1, x2), (1, l5_h14)]) (lo' := [(0, (2, this)), (1, (2, text)), (2, (0, row)), (3, (1, x2)), (5, (1, l5_h14)), (7, (0, l7_h14))]) rfl ?_
        refine r_lc_gt hX hP rfl rfl (tgt := 77) rfl (by first | decide | omega) (by first | decide | omega) (by first | decide | omega) (by first | decide | omega) (fun c6 => ?_) (fun c6 => ?_)
        · skip
          refine r_ex hX hP 2 (pc' := 80) (st' := []) (lo' := [(0, (2, this)), (1, (2, text)), (2, (0, row)), (3, (1, x2)), (5, (1, l5_h14)), (7, (0, 0))]) rfl ?_
          have loop80 : ∀ (nF : Nat) (l3_h80 l7_h80 : Int) (Gh80 : Gh), (-9223372036854775808) ≤ l3_h80 → l3_h80 ≤ 9223372036854775807 → 0 ≤ l7_h80 → l7_h80 ≤ 20 → 20 - l7_h80 < (nF : Int) → X 0 0 80 [] [(0, (2, this)), (1, (2, text)), (2, (0, row)), (3, (1, l3_h80)), (5, (1, l5_h14)), (7, (0, l7_h80))] S (hw [(95, -1), (96, -1)] G Gh80) := by
            intro nF
            induction nF with
            | zero => intro l3_h80 l7_h80 Gh80 yh80_0 yh80_1 yh80_2 yh80_3 ym80; exfalso; omega
            | succ nF ih80 =>
              intro l3_h80 l7_h80 Gh80 yh80_0 yh80_1 yh80_2 yh80_3 ym80
              refine r_ex hX hP 2 (pc' := 83) (st' := [(2, this), (0, l7_h80)]) (lo' := [(0, (2, this)), (1, (2, text)), (2, (0, row)), (3, (1, l3_h80)), (5, (1, l5_h14)), (7, (0, l7_h80))]) rfl ?_
              refine r_getKR hX hP rfl fl_X8_45_129 hS (x := af3) af3e ?_
              refine r_getKI hX hP rfl fl_X8_207_130 af3s (x := cf4) cf4e ?_
              refine r_ic_ge hX hP rfl (tgt := 207) rfl (by first | decide | omega) (by first | decide | omega) (by first | decide | omega) (by first | decide | omega) (fun c7 => ?_) (fun c7 => ?_)
              · skip
                refine r_ex hX hP 1 (pc' := 208) (st' := [(2, this)]) (lo' := [(0, (2, this)), (1, (2, text)), (2, (0, row)), (3, (1, l3_h80)), (5, (1, l5_h14)), (7, (0, l7_h80))]) rfl ?_
                refine r_getKR hX hP rfl fl_X8_45_129 hS (x := af3) af3e ?_
                refine r_ex hX hP 2 (pc' := 213) (st' := [(2, this), (1, l3_h80), (2, af3)]) (lo' := [(0, (2, this)), (1, (2, text)), (2, (0, row)), (3, (1, l3_h80)), (5, (1, l5_h14)), (7, (0, l7_h80))]) rfl ?_
                refine r_getKR hX hP rfl fl_X8_45_129 hS (x := af3) af3e ?_
                refine r_getKI hX hP rfl fl_X8_207_130 af3s (x := cf4) cf4e ?_
                refine r_callV gd hX hP rfl cv_X8_255_130 af3s (d' := 1) (mc' := 0) (ms' := 0) (as' := [(1, l3_h80), (0, cf4)]) (st := []) (by first | decide | omega) (by first | decide | omega) (by first | decide | omega) rfl rfl (Nat.le_of_ble_eq_true rfl) (c_X0_split E S (hw [(95, -1), (96, -1)] G Gh80) af3 l3_h80 cf4 af3s (by first | decide | omega) (by first | decide | omega) (by first | decide | omega) (by first | decide | omega)) ?_
                rintro _ _ _ ⟨rfl, ⟨G8, rfl⟩, rfl, -⟩
                refine r_ex hX hP 2 (pc' := 225) (st' := []) (lo' := [(0, (2, this)), (1, (2, text)), (2, (0, row)), (3, (1, l3_h80)), (5, (1, l5_h14)), (7, (0, 0))]) rfl ?_
                have loop225 : ∀ (nF : Nat) (l7_h225 : Int) (Gh225 : Gh), 0 ≤ l7_h225 → l7_h225 ≤ 20 → 20 - l7_h225 < (nF : Int) → X 0 0 225 [] [(0, (2, this)), (1, (2, text)), (2, (0, row)), (3, (1, l3_h80)), (5, (1, l5_h14)), (7, (0, l7_h225))] S (hw [(95, -1)] (hw [(96, -1)] (hw [(95, -1), (96, -1)] G Gh80) G8) Gh225) := by
                  intro nF
                  induction nF with
                  | zero => intro l7_h225 Gh225 yh225_0 yh225_1 ym225; exfalso; omega
                  | succ nF ih225 =>
                    intro l7_h225 Gh225 yh225_0 yh225_1 ym225
                    refine r_ex hX hP 2 (pc' := 228) (st' := [(2, this), (0, l7_h225)]) (lo' := [(0, (2, this)), (1, (2, text)), (2, (0, row)), (3, (1, l3_h80)), (5, (1, l5_h14)), (7, (0, l7_h225))]) rfl ?_
                    refine r_getKR hX hP rfl fl_X8_45_129 hS (x := af3) af3e ?_
                    refine r_getKI hX hP rfl fl_X8_207_130 af3s (x := cf4) cf4e ?_
                    refine r_ic_ge hX hP rfl (tgt := 263) rfl (by first | decide | omega) (by first | decide | omega) (by first | decide | omega) (by first | decide | omega) (fun c9 => ?_) (fun c9 => ?_)
                    · skip
                      refine r_ex hX hP 1 (pc' := 264) (st' := [(0, 1)]) (lo' := [(0, (2, this)), (1, (2, text)), (2, (0, row)), (3, (1, l3_h80)), (5, (1, l5_h14)), (7, (0, l7_h225))]) rfl ?_
                      exact r_retZ hX hP rfl rfl (by first | decide | omega) (by first | decide | omega) (by first | decide | omega) (by first | decide | omega) ⟨rfl, ⟨_, (hw_sub (hw_sub (hw_sub (hw_refl _ _) rfl) rfl) rfl).symm⟩, 1, rfl, (by first | decide | omega)⟩
                    · skip
                      refine r_ex hX hP 1 (pc' := 238) (st' := [(2, this)]) (lo' := [(0, (2, this)), (1, (2, text)), (2, (0, row)), (3, (1, l3_h80)), (5, (1, l5_h14)), (7, (0, l7_h225))]) rfl ?_
                      refine r_getR hX hP rfl fl_X8_71_129 hS (fun qf10 qf10e qf10s => ?_)
                      refine r_ex hX hP 2 (pc' := 244) (st' := [(0, l7_h225), (2, qf10), (0, l7_h225), (2, qf10)]) (lo' := [(0, (2, this)), (1, (2, text)), (2, (0, row)), (3, (1, l3_h80)), (5, (1, l5_h14)), (7, (0, l7_h225))]) rfl ?_
                      refine r_lald hX hP rfl al_95 qf10s (by first | decide | omega) (by first | decide | omega) (fun x11 x11e x11a x11b => ?_)
                      refine r_ex hX hP 1 (pc' := 246) (st' := [(2, this), (1, x11), (0, l7_h225), (2, qf10)]) (lo' := [(0, (2, this)), (1, (2, text)), (2, (0, row)), (3, (1, l3_h80)), (5, (1, l5_h14)), (7, (0, l7_h225))]) rfl ?_
                      refine r_getKR hX hP rfl fl_X8_45_129 hS (x := af3) af3e ?_
                      refine r_getR hX hP rfl fl_X8_259_130 af3s (fun sf12 sf12e sf12s => ?_)
                      refine r_ex hX hP 1 (pc' := 254) (st' := [(0, l7_h225), (2, sf12), (1, x11), (0, l7_h225), (2, qf10)]) (lo' := [(0, (2, this)), (1, (2, text)), (2, (0, row)), (3, (1, l3_h80)), (5, (1, l5_h14)), (7, (0, l7_h225))]) rfl ?_
                      refine r_lald hX hP rfl al_96 sf12s (by first | decide | omega) (by first | decide | omega) (fun x13 x13e x13a x13b => ?_)
                      refine r_ex hX hP 1 (pc' := 256) (st' := [(1, (x11 + x13)), (0, l7_h225), (2, qf10)]) (lo' := [(0, (2, this)), (1, (2, text)), (2, (0, row)), (3, (1, l3_h80)), (5, (1, l5_h14)), (7, (0, l7_h225))]) rfl ?_
                      refine r_hvL hX (fun w14 w14a w14b w14e => ?_)
                      refine r_lastK hX hP rfl al_95 qf10s (by first | decide | omega) (by first | decide | omega) (by first | decide | omega) (by first | decide | omega) (fun h15 => ?_)
                      refine r_ex hX hP 2 (pc' := 225) (st' := []) (lo' := [(0, (2, this)), (1, (2, text)), (2, (0, row)), (3, (1, l3_h80)), (5, (1, l5_h14)), (7, (0, (l7_h225 + 1)))]) rfl ?_
                      refine r_eqG (X := X) (hw_up (hw_base _ _ _) rfl) ?_
                      exact ih225 (l7_h225 + 1) _ (by first | decide | omega) (by first | decide | omega) (by first | decide | omega)
                refine r_eqG (X := X) (hw_refl [(95, -1)] _) ?_
                exact loop225 ((20 - 0) + 1 : Int).toNat 0 _ (by first | decide | omega) (by first | decide | omega) (by first | decide | omega)
              · skip
                refine r_ex hX hP 1 (pc' := 93) (st' := [(2, this)]) (lo' := [(0, (2, this)), (1, (2, text)), (2, (0, row)), (3, (1, l3_h80)), (5, (1, l5_h14)), (7, (0, l7_h80))]) rfl ?_
                refine r_getKR hX hP rfl fl_X8_45_129 hS (x := af3) af3e ?_
                refine r_getR hX hP rfl fl_X8_211_130 af3s (fun tf16 tf16e tf16s => ?_)
                refine r_ex hX hP 1 (pc' := 101) (st' := [(0, l7_h80), (2, tf16)]) (lo' := [(0, (2, this)), (1, (2, text)), (2, (0, row)), (3, (1, l3_h80)), (5, (1, l5_h14)), (7, (0, l7_h80))]) rfl ?_
                refine r_iald hX hP rfl al_94 tf16s (by first | decide | omega) (by first | decide | omega) (fun x17 x17e x17a x17b => ?_)
                refine r_ex hX hP 1 (pc' := 104) (st' := [(0, l7_h80), (0, x17)]) (lo' := [(0, (2, this)), (1, (2, text)), (2, (0, row)), (3, (1, l3_h80)), (5, (1, l5_h14)), (7, (0, l7_h80))]) rfl ?_
                refine r_ic_ne hX hP rfl (tgt := 122) rfl (by first | decide | omega) (by first | decide | omega) (by first | decide | omega) (by first | decide | omega) (fun c18 => ?_) (fun c18 => ?_)
                · skip
                  refine r_ex hX hP 4 (pc' := 128) (st' := [(2, text), (1, 0)]) (lo' := [(0, (2, this)), (1, (2, text)), (2, (0, row)), (3, (1, l3_h80)), (5, (1, l5_h14)), (7, (0, l7_h80)), (8, (1, 0))]) rfl ?_
                  refine r_getR hX hP rfl fl_X8_249_136 text_s (fun sf19 sf19e sf19s => ?_)
                  refine r_ex hX hP 1 (pc' := 132) (st' := [(0, row), (2, sf19), (1, 0)]) (lo' := [(0, (2, this)), (1, (2, text)), (2, (0, row)), (3, (1, l3_h80)), (5, (1, l5_h14)), (7, (0, l7_h80)), (8, (1, 0))]) rfl ?_
                  refine r_iald hX hP rfl al_124 sf19s (by first | decide | omega) (by first | decide | omega) (fun x20 x20e x20a x20b => ?_)
                  refine r_i2l hX hP rfl (by first | decide | omega) (by first | decide | omega) ?_
                  refine r_lc_gt hX hP rfl rfl (tgt := 149) rfl (by first | decide | omega) (by first | decide | omega) (by first | decide | omega) (by first | decide | omega) (fun c21 => ?_) (fun c21 => ?_)
                  · skip
                    refine r_ex hX hP 3 (pc' := 153) (st' := [(2, this)]) (lo' := [(0, (2, this)), (1, (2, text)), (2, (0, row)), (3, (1, l3_h80)), (5, (1, l5_h14)), (7, (0, l7_h80)), (8, (1, 0)), (10, (0, 0))]) rfl ?_
                    refine r_getR hX hP rfl fl_X8_71_129 hS (fun qf22 qf22e qf22s => ?_)
                    refine r_ex hX hP 2 (pc' := 160) (st' := [(0, 0), (0, l7_h80), (2, qf22)]) (lo' := [(0, (2, this)), (1, (2, text)), (2, (0, row)), (3, (1, l3_h80)), (5, (1, l5_h14)), (7, (0, l7_h80)), (8, (1, 0)), (10, (0, 0))]) rfl ?_
                    refine r_if_eq hX hP rfl (tgt := 168) rfl (by first | decide | omega) (by first | decide | omega) (fun c23 => ?_) (fun c23 => ?_)
                    · skip
                      refine r_ex hX hP 1 (pc' := 169) (st' := [(1, 0), (0, l7_h80), (2, qf22)]) (lo' := [(0, (2, this)), (1, (2, text)), (2, (0, row)), (3, (1, l3_h80)), (5, (1, l5_h14)), (7, (0, l7_h80)), (8, (1, 0)), (10, (0, 0))]) rfl ?_
                      refine r_lastK hX hP rfl al_95 qf22s (by first | decide | omega) (by first | decide | omega) (by first | decide | omega) (by first | decide | omega) (fun h24 => ?_)
                      refine r_ex hX hP 1 (pc' := 171) (st' := [(2, this)]) (lo' := [(0, (2, this)), (1, (2, text)), (2, (0, row)), (3, (1, l3_h80)), (5, (1, l5_h14)), (7, (0, l7_h80)), (8, (1, 0)), (10, (0, 0))]) rfl ?_
                      refine r_getKR hX hP rfl fl_X8_45_129 hS (x := af3) af3e ?_
                      refine r_getR hX hP rfl fl_X8_252_130 af3s (fun wf25 wf25e wf25s => ?_)
                      refine r_ex hX hP 2 (pc' := 181) (st' := [(0, 0), (0, l7_h80), (2, wf25)]) (lo' := [(0, (2, this)), (1, (2, text)), (2, (0, row)), (3, (1, l3_h80)), (5, (1, l5_h14)), (7, (0, l7_h80)), (8, (1, 0)), (10, (0, 0))]) rfl ?_
                      refine r_if_eq hX hP rfl (tgt := 188) rfl (by first | decide | omega) (by first | decide | omega) (fun c26 => ?_) (fun c26 => ?_)
                      · skip
                        refine r_ex hX hP 1 (pc' := 190) (st' := [(1, 0), (0, l7_h80), (2, wf25)]) (lo' := [(0, (2, this)), (1, (2, text)), (2, (0, row)), (3, (1, l3_h80)), (5, (1, l5_h14)), (7, (0, l7_h80)), (8, (1, 0)), (10, (0, 0))]) rfl ?_
                        refine r_lastK hX hP rfl al_96 wf25s (by first | decide | omega) (by first | decide | omega) (by first | decide | omega) (by first | decide | omega) (fun h27 => ?_)
                        refine r_ex hX hP 2 (pc' := 193) (st' := [(2, this), (1, l3_h80)]) (lo' := [(0, (2, this)), (1, (2, text)), (2, (0, row)), (3, (1, l3_h80)), (5, (1, l5_h14)), (7, (0, l7_h80)), (8, (1, 0)), (10, (0, 0))]) rfl ?_
                        refine r_getKR hX hP rfl fl_X8_71_129 hS (x := qf22) qf22e ?_
                        refine r_ex hX hP 1 (pc' := 198) (st' := [(0, l7_h80), (2, qf22), (1, l3_h80)]) (lo' := [(0, (2, this)), (1, (2, text)), (2, (0, row)), (3, (1, l3_h80)), (5, (1, l5_h14)), (7, (0, l7_h80)), (8, (1, 0)), (10, (0, 0))]) rfl ?_
                        refine r_laldK hX hP rfl al_95 qf22s (by first | decide | omega) (by first | decide | omega) (x := 0) h24 ?_
                        refine r_ex hX hP 4 (pc' := 80) (st' := []) (lo' := [(0, (2, this)), (1, (2, text)), (2, (0, row)), (3, (1, (l3_h80 - 0))), (5, (1, l5_h14)), (7, (0, (l7_h80 + 1))), (8, (1, 0)), (10, (0, 0))]) rfl ?_
                        refine r_pick hX [0, 1, 2, 3, 4, 5] (lo' := [(0, (2, this)), (1, (2, text)), (2, (0, row)), (3, (1, (l3_h80 - 0))), (5, (1, l5_h14)), (7, (0, (l7_h80 + 1)))]) rfl ?_
                        refine r_eqG (X := X) (hw_up (hw_up (hw_base _ _ _) rfl) rfl) ?_
                        exact ih80 (l3_h80 - 0) (l7_h80 + 1) _ (by first | decide | omega) (by first | decide | omega) (by first | decide | omega) (by first | decide | omega) (by first | decide | omega)
                      · skip
                        exfalso; omega
                    · skip
                      exfalso; omega
                  · skip
                    refine r_ex hX hP 2 (pc' := 141) (st' := [(1, l3_h80), (1, 0)]) (lo' := [(0, (2, this)), (1, (2, text)), (2, (0, row)), (3, (1, l3_h80)), (5, (1, l5_h14)), (7, (0, l7_h80)), (8, (1, 0))]) rfl ?_
                    refine r_lc_gt hX hP rfl rfl (tgt := 149) rfl (by first | decide | omega) (by first | decide | omega) (by first | decide | omega) (by first | decide | omega) (fun c28 => ?_) (fun c28 => ?_)
                    · skip
                      refine r_ex hX hP 3 (pc' := 153) (st' := [(2, this)]) (lo' := [(0, (2, this)), (1, (2, text)), (2, (0, row)), (3, (1, l3_h80)), (5, (1, l5_h14)), (7, (0, l7_h80)), (8, (1, 0)), (10, (0, 0))]) rfl ?_
                      refine r_getR hX hP rfl fl_X8_71_129 hS (fun qf29 qf29e qf29s => ?_)
                      refine r_ex hX hP 2 (pc' := 160) (st' := [(0, 0), (0, l7_h80), (2, qf29)]) (lo' := [(0, (2, this)), (1, (2, text)), (2, (0, row)), (3, (1, l3_h80)), (5, (1, l5_h14)), (7, (0, l7_h80)), (8, (1, 0)), (10, (0, 0))]) rfl ?_
                      refine r_if_eq hX hP rfl (tgt := 168) rfl (by first | decide | omega) (by first | decide | omega) (fun c30 => ?_) (fun c30 => ?_)
                      · skip
                        refine r_ex hX hP 1 (pc' := 169) (st' := [(1, 0), (0, l7_h80), (2, qf29)]) (lo' := [(0, (2, this)), (1, (2, text)), (2, (0, row)), (3, (1, l3_h80)), (5, (1, l5_h14)), (7, (0, l7_h80)), (8, (1, 0)), (10, (0, 0))]) rfl ?_
                        refine r_lastK hX hP rfl al_95 qf29s (by first | decide | omega) (by first | decide | omega) (by first | decide | omega) (by first | decide | omega) (fun h31 => ?_)
                        refine r_ex hX hP 1 (pc' := 171) (st' := [(2, this)]) (lo' := [(0, (2, this)), (1, (2, text)), (2, (0, row)), (3, (1, l3_h80)), (5, (1, l5_h14)), (7, (0, l7_h80)), (8, (1, 0)), (10, (0, 0))]) rfl ?_
                        refine r_getKR hX hP rfl fl_X8_45_129 hS (x := af3) af3e ?_
                        refine r_getR hX hP rfl fl_X8_252_130 af3s (fun wf32 wf32e wf32s => ?_)
                        refine r_ex hX hP 2 (pc' := 181) (st' := [(0, 0), (0, l7_h80), (2, wf32)]) (lo' := [(0, (2, this)), (1, (2, text)), (2, (0, row)), (3, (1, l3_h80)), (5, (1, l5_h14)), (7, (0, l7_h80)), (8, (1, 0)), (10, (0, 0))]) rfl ?_
                        refine r_if_eq hX hP rfl (tgt := 188) rfl (by first | decide | omega) (by first | decide | omega) (fun c33 => ?_) (fun c33 => ?_)
                        · skip
                          refine r_ex hX hP 1 (pc' := 190) (st' := [(1, 0), (0, l7_h80), (2, wf32)]) (lo' := [(0, (2, this)), (1, (2, text)), (2, (0, row)), (3, (1, l3_h80)), (5, (1, l5_h14)), (7, (0, l7_h80)), (8, (1, 0)), (10, (0, 0))]) rfl ?_
                          refine r_lastK hX hP rfl al_96 wf32s (by first | decide | omega) (by first | decide | omega) (by first | decide | omega) (by first | decide | omega) (fun h34 => ?_)
                          refine r_ex hX hP 2 (pc' := 193) (st' := [(2, this), (1, l3_h80)]) (lo' := [(0, (2, this)), (1, (2, text)), (2, (0, row)), (3, (1, l3_h80)), (5, (1, l5_h14)), (7, (0, l7_h80)), (8, (1, 0)), (10, (0, 0))]) rfl ?_
                          refine r_getKR hX hP rfl fl_X8_71_129 hS (x := qf29) qf29e ?_
                          refine r_ex hX hP 1 (pc' := 198) (st' := [(0, l7_h80), (2, qf29), (1, l3_h80)]) (lo' := [(0, (2, this)), (1, (2, text)), (2, (0, row)), (3, (1, l3_h80)), (5, (1, l5_h14)), (7, (0, l7_h80)), (8, (1, 0)), (10, (0, 0))]) rfl ?_
                          refine r_laldK hX hP rfl al_95 qf29s (by first | decide | omega) (by first | decide | omega) (x := 0) h31 ?_
                          refine r_ex hX hP 4 (pc' := 80) (st' := []) (lo' := [(0, (2, this)), (1, (2, text)), (2, (0, row)), (3, (1, (l3_h80 - 0))), (5, (1, l5_h14)), (7, (0, (l7_h80 + 1))), (8, (1, 0)), (10, (0, 0))]) rfl ?_
                          refine r_pick hX [0, 1, 2, 3, 4, 5] (lo' := [(0, (2, this)), (1, (2, text)), (2, (0, row)), (3, (1, (l3_h80 - 0))), (5, (1, l5_h14)), (7, (0, (l7_h80 + 1)))]) rfl ?_
                          refine r_eqG (X := X) (hw_up (hw_up (hw_base _ _ _) rfl) rfl) ?_
                          exact ih80 (l3_h80 - 0) (l7_h80 + 1) _ (by first | decide | omega) (by first | decide | omega) (by first | decide | omega) (by first | decide | omega) (by first | decide | omega)
                        · skip
                          exfalso; omega
                      · skip
                        exfalso; omega
                    · skip
                      refine r_ex hX hP 4 (pc' := 153) (st' := [(2, this)]) (lo' := [(0, (2, this)), (1, (2, text)), (2, (0, row)), (3, (1, l3_h80)), (5, (1, l5_h14)), (7, (0, l7_h80)), (8, (1, 0)), (10, (0, 1))]) rfl ?_
                      refine r_getR hX hP rfl fl_X8_71_129 hS (fun qf35 qf35e qf35s => ?_)
                      refine r_ex hX hP 2 (pc' := 160) (st' := [(0, 1), (0, l7_h80), (2, qf35)]) (lo' := [(0, (2, this)), (1, (2, text)), (2, (0, row)), (3, (1, l3_h80)), (5, (1, l5_h14)), (7, (0, l7_h80)), (8, (1, 0)), (10, (0, 1))]) rfl ?_
                      refine r_if_eq hX hP rfl (tgt := 168) rfl (by first | decide | omega) (by first | decide | omega) (fun c36 => ?_) (fun c36 => ?_)
                      · skip
                        exfalso; omega
                      · skip
                        refine r_ex hX hP 2 (pc' := 169) (st' := [(1, 0), (0, l7_h80), (2, qf35)]) (lo' := [(0, (2, this)), (1, (2, text)), (2, (0, row)), (3, (1, l3_h80)), (5, (1, l5_h14)), (7, (0, l7_h80)), (8, (1, 0)), (10, (0, 1))]) rfl ?_
                        refine r_lastK hX hP rfl al_95 qf35s (by first | decide | omega) (by first | decide | omega) (by first | decide | omega) (by first | decide | omega) (fun h37 => ?_)
                        refine r_ex hX hP 1 (pc' := 171) (st' := [(2, this)]) (lo' := [(0, (2, this)), (1, (2, text)), (2, (0, row)), (3, (1, l3_h80)), (5, (1, l5_h14)), (7, (0, l7_h80)), (8, (1, 0)), (10, (0, 1))]) rfl ?_
                        refine r_getKR hX hP rfl fl_X8_45_129 hS (x := af3) af3e ?_
                        refine r_getR hX hP rfl fl_X8_252_130 af3s (fun wf38 wf38e wf38s => ?_)
                        refine r_ex hX hP 2 (pc' := 181) (st' := [(0, 1), (0, l7_h80), (2, wf38)]) (lo' := [(0, (2, this)), (1, (2, text)), (2, (0, row)), (3, (1, l3_h80)), (5, (1, l5_h14)), (7, (0, l7_h80)), (8, (1, 0)), (10, (0, 1))]) rfl ?_
                        refine r_if_eq hX hP rfl (tgt := 188) rfl (by first | decide | omega) (by first | decide | omega) (fun c39 => ?_) (fun c39 => ?_)
                        · skip
                          exfalso; omega
                        · skip
                          refine r_ex hX hP 2 (pc' := 190) (st' := [(1, 0), (0, l7_h80), (2, wf38)]) (lo' := [(0, (2, this)), (1, (2, text)), (2, (0, row)), (3, (1, l3_h80)), (5, (1, l5_h14)), (7, (0, l7_h80)), (8, (1, 0)), (10, (0, 1))]) rfl ?_
                          refine r_lastK hX hP rfl al_96 wf38s (by first | decide | omega) (by first | decide | omega) (by first | decide | omega) (by first | decide | omega) (fun h40 => ?_)
                          refine r_ex hX hP 2 (pc' := 193) (st' := [(2, this), (1, l3_h80)]) (lo' := [(0, (2, this)), (1, (2, text)), (2, (0, row)), (3, (1, l3_h80)), (5, (1, l5_h14)), (7, (0, l7_h80)), (8, (1, 0)), (10, (0, 1))]) rfl ?_
                          refine r_getKR hX hP rfl fl_X8_71_129 hS (x := qf35) qf35e ?_
                          refine r_ex hX hP 1 (pc' := 198) (st' := [(0, l7_h80), (2, qf35), (1, l3_h80)]) (lo' := [(0, (2, this)), (1, (2, text)), (2, (0, row)), (3, (1, l3_h80)), (5, (1, l5_h14)), (7, (0, l7_h80)), (8, (1, 0)), (10, (0, 1))]) rfl ?_
                          refine r_laldK hX hP rfl al_95 qf35s (by first | decide | omega) (by first | decide | omega) (x := 0) h37 ?_
                          refine r_ex hX hP 4 (pc' := 80) (st' := []) (lo' := [(0, (2, this)), (1, (2, text)), (2, (0, row)), (3, (1, (l3_h80 - 0))), (5, (1, l5_h14)), (7, (0, (l7_h80 + 1))), (8, (1, 0)), (10, (0, 1))]) rfl ?_
                          refine r_pick hX [0, 1, 2, 3, 4, 5] (lo' := [(0, (2, this)), (1, (2, text)), (2, (0, row)), (3, (1, (l3_h80 - 0))), (5, (1, l5_h14)), (7, (0, (l7_h80 + 1)))]) rfl ?_
                          refine r_eqG (X := X) (hw_up (hw_up (hw_base _ _ _) rfl) rfl) ?_
                          exact ih80 (l3_h80 - 0) (l7_h80 + 1) _ (by first | decide | omega) (by first | decide | omega) (by first | decide | omega) (by first | decide | omega) (by first | decide | omega)
                · skip
                  refine r_ex hX hP 1 (pc' := 108) (st' := [(2, this)]) (lo' := [(0, (2, this)), (1, (2, text)), (2, (0, row)), (3, (1, l3_h80)), (5, (1, l5_h14)), (7, (0, l7_h80))]) rfl ?_
                  refine r_getKR hX hP rfl fl_X8_45_129 hS (x := af3) af3e ?_
                  refine r_getR hX hP rfl fl_X8_246_130 af3s (fun af41 af41e af41s => ?_)
                  refine r_ex hX hP 1 (pc' := 115) (st' := [(0, row), (2, af41)]) (lo' := [(0, (2, this)), (1, (2, text)), (2, (0, row)), (3, (1, l3_h80)), (5, (1, l5_h14)), (7, (0, l7_h80))]) rfl ?_
                  refine r_aald hX hP rfl al_98 rfl af41s (by first | decide | omega) (by first | decide | omega) (fun r42 r42e r42s => ?_)
                  refine r_ex hX hP 1 (pc' := 118) (st' := [(0, l7_h80), (2, r42)]) (lo' := [(0, (2, this)), (1, (2, text)), (2, (0, row)), (3, (1, l3_h80)), (5, (1, l5_h14)), (7, (0, l7_h80))]) rfl ?_
                  refine r_lald hX hP rfl al_95 r42s (by first | decide | omega) (by first | decide | omega) (fun x43 x43e x43a x43b => ?_)
                  refine r_ex hX hP 4 (pc' := 128) (st' := [(2, text), (1, x43)]) (lo' := [(0, (2, this)), (1, (2, text)), (2, (0, row)), (3, (1, l3_h80)), (5, (1, l5_h14)), (7, (0, l7_h80)), (8, (1, x43))]) rfl ?_
                  refine r_getR hX hP rfl fl_X8_249_136 text_s (fun sf44 sf44e sf44s => ?_)
                  refine r_ex hX hP 1 (pc' := 132) (st' := [(0, row), (2, sf44), (1, x43)]) (lo' := [(0, (2, this)), (1, (2, text)), (2, (0, row)), (3, (1, l3_h80)), (5, (1, l5_h14)), (7, (0, l7_h80)), (8, (1, x43))]) rfl ?_
                  refine r_iald hX hP rfl al_124 sf44s (by first | decide | omega) (by first | decide | omega) (fun x45 x45e x45a x45b => ?_)
                  refine r_i2l hX hP rfl (by first | decide | omega) (by first | decide | omega) ?_
                  refine r_lc_gt hX hP rfl rfl (tgt := 149) rfl (by first | decide | omega) (by first | decide | omega) (by first | decide | omega) (by first | decide | omega) (fun c46 => ?_) (fun c46 => ?_)
                  · skip
                    refine r_ex hX hP 3 (pc' := 153) (st' := [(2, this)]) (lo' := [(0, (2, this)), (1, (2, text)), (2, (0, row)), (3, (1, l3_h80)), (5, (1, l5_h14)), (7, (0, l7_h80)), (8, (1, x43)), (10, (0, 0))]) rfl ?_
                    refine r_getR hX hP rfl fl_X8_71_129 hS (fun qf47 qf47e qf47s => ?_)
                    refine r_ex hX hP 2 (pc' := 160) (st' := [(0, 0), (0, l7_h80), (2, qf47)]) (lo' := [(0, (2, this)), (1, (2, text)), (2, (0, row)), (3, (1, l3_h80)), (5, (1, l5_h14)), (7, (0, l7_h80)), (8, (1, x43)), (10, (0, 0))]) rfl ?_
                    refine r_if_eq hX hP rfl (tgt := 168) rfl (by first | decide | omega) (by first | decide | omega) (fun c48 => ?_) (fun c48 => ?_)
                    · skip
                      refine r_ex hX hP 1 (pc' := 169) (st' := [(1, 0), (0, l7_h80), (2, qf47)]) (lo' := [(0, (2, this)), (1, (2, text)), (2, (0, row)), (3, (1, l3_h80)), (5, (1, l5_h14)), (7, (0, l7_h80)), (8, (1, x43)), (10, (0, 0))]) rfl ?_
                      refine r_lastK hX hP rfl al_95 qf47s (by first | decide | omega) (by first | decide | omega) (by first | decide | omega) (by first | decide | omega) (fun h49 => ?_)
                      refine r_ex hX hP 1 (pc' := 171) (st' := [(2, this)]) (lo' := [(0, (2, this)), (1, (2, text)), (2, (0, row)), (3, (1, l3_h80)), (5, (1, l5_h14)), (7, (0, l7_h80)), (8, (1, x43)), (10, (0, 0))]) rfl ?_
                      refine r_getKR hX hP rfl fl_X8_45_129 hS (x := af3) af3e ?_
                      refine r_getR hX hP rfl fl_X8_252_130 af3s (fun wf50 wf50e wf50s => ?_)
                      refine r_ex hX hP 2 (pc' := 181) (st' := [(0, 0), (0, l7_h80), (2, wf50)]) (lo' := [(0, (2, this)), (1, (2, text)), (2, (0, row)), (3, (1, l3_h80)), (5, (1, l5_h14)), (7, (0, l7_h80)), (8, (1, x43)), (10, (0, 0))]) rfl ?_
                      refine r_if_eq hX hP rfl (tgt := 188) rfl (by first | decide | omega) (by first | decide | omega) (fun c51 => ?_) (fun c51 => ?_)
                      · skip
                        refine r_ex hX hP 1 (pc' := 190) (st' := [(1, x43), (0, l7_h80), (2, wf50)]) (lo' := [(0, (2, this)), (1, (2, text)), (2, (0, row)), (3, (1, l3_h80)), (5, (1, l5_h14)), (7, (0, l7_h80)), (8, (1, x43)), (10, (0, 0))]) rfl ?_
                        refine r_lastK hX hP rfl al_96 wf50s (by first | decide | omega) (by first | decide | omega) (by first | decide | omega) (by first | decide | omega) (fun h52 => ?_)
                        refine r_ex hX hP 2 (pc' := 193) (st' := [(2, this), (1, l3_h80)]) (lo' := [(0, (2, this)), (1, (2, text)), (2, (0, row)), (3, (1, l3_h80)), (5, (1, l5_h14)), (7, (0, l7_h80)), (8, (1, x43)), (10, (0, 0))]) rfl ?_
                        refine r_getKR hX hP rfl fl_X8_71_129 hS (x := qf47) qf47e ?_
                        refine r_ex hX hP 1 (pc' := 198) (st' := [(0, l7_h80), (2, qf47), (1, l3_h80)]) (lo' := [(0, (2, this)), (1, (2, text)), (2, (0, row)), (3, (1, l3_h80)), (5, (1, l5_h14)), (7, (0, l7_h80)), (8, (1, x43)), (10, (0, 0))]) rfl ?_
                        refine r_laldK hX hP rfl al_95 qf47s (by first | decide | omega) (by first | decide | omega) (x := 0) h49 ?_
                        refine r_ex hX hP 4 (pc' := 80) (st' := []) (lo' := [(0, (2, this)), (1, (2, text)), (2, (0, row)), (3, (1, (l3_h80 - 0))), (5, (1, l5_h14)), (7, (0, (l7_h80 + 1))), (8, (1, x43)), (10, (0, 0))]) rfl ?_
                        refine r_pick hX [0, 1, 2, 3, 4, 5] (lo' := [(0, (2, this)), (1, (2, text)), (2, (0, row)), (3, (1, (l3_h80 - 0))), (5, (1, l5_h14)), (7, (0, (l7_h80 + 1)))]) rfl ?_
                        refine r_eqG (X := X) (hw_up (hw_up (hw_base _ _ _) rfl) rfl) ?_
                        exact ih80 (l3_h80 - 0) (l7_h80 + 1) _ (by first | decide | omega) (by first | decide | omega) (by first | decide | omega) (by first | decide | omega) (by first | decide | omega)
                      · skip
                        exfalso; omega
                    · skip
                      exfalso; omega
                  · skip
                    refine r_ex hX hP 2 (pc' := 141) (st' := [(1, l3_h80), (1, x43)]) (lo' := [(0, (2, this)), (1, (2, text)), (2, (0, row)), (3, (1, l3_h80)), (5, (1, l5_h14)), (7, (0, l7_h80)), (8, (1, x43))]) rfl ?_
                    refine r_lc_gt hX hP rfl rfl (tgt := 149) rfl (by first | decide | omega) (by first | decide | omega) (by first | decide | omega) (by first | decide | omega) (fun c53 => ?_) (fun c53 => ?_)
                    · skip
                      refine r_ex hX hP 3 (pc' := 153) (st' := [(2, this)]) (lo' := [(0, (2, this)), (1, (2, text)), (2, (0, row)), (3, (1, l3_h80)), (5, (1, l5_h14)), (7, (0, l7_h80)), (8, (1, x43)), (10, (0, 0))]) rfl ?_
                      refine r_getR hX hP rfl fl_X8_71_129 hS (fun qf54 qf54e qf54s => ?_)
                      refine r_ex hX hP 2 (pc' := 160) (st' := [(0, 0), (0, l7_h80), (2, qf54)]) (lo' := [(0, (2, this)), (1, (2, text)), (2, (0, row)), (3, (1, l3_h80)), (5, (1, l5_h14)), (7, (0, l7_h80)), (8, (1, x43)), (10, (0, 0))]) rfl ?_
                      refine r_if_eq hX hP rfl (tgt := 168) rfl (by first | decide | omega) (by first | decide | omega) (fun c55 => ?_) (fun c55 => ?_)
                      · skip
                        refine r_ex hX hP 1 (pc' := 169) (st' := [(1, 0), (0, l7_h80), (2, qf54)]) (lo' := [(0, (2, this)), (1, (2, text)), (2, (0, row)), (3, (1, l3_h80)), (5, (1, l5_h14)), (7, (0, l7_h80)), (8, (1, x43)), (10, (0, 0))]) rfl ?_
                        refine r_lastK hX hP rfl al_95 qf54s (by first | decide | omega) (by first | decide | omega) (by first | decide | omega) (by first | decide | omega) (fun h56 => ?_)
                        refine r_ex hX hP 1 (pc' := 171) (st' := [(2, this)]) (lo' := [(0, (2, this)), (1, (2, text)), (2, (0, row)), (3, (1, l3_h80)), (5, (1, l5_h14)), (7, (0, l7_h80)), (8, (1, x43)), (10, (0, 0))]) rfl ?_
                        refine r_getKR hX hP rfl fl_X8_45_129 hS (x := af3) af3e ?_
                        refine r_getR hX hP rfl fl_X8_252_130 af3s (fun wf57 wf57e wf57s => ?_)
                        refine r_ex hX hP 2 (pc' := 181) (st' := [(0, 0), (0, l7_h80), (2, wf57)]) (lo' := [(0, (2, this)), (1, (2, text)), (2, (0, row)), (3, (1, l3_h80)), (5, (1, l5_h14)), (7, (0, l7_h80)), (8, (1, x43)), (10, (0, 0))]) rfl ?_
                        refine r_if_eq hX hP rfl (tgt := 188) rfl (by first | decide | omega) (by first | decide | omega) (fun c58 => ?_) (fun c58 => ?_)
                        · skip
                          refine r_ex hX hP 1 (pc' := 190) (st' := [(1, x43), (0, l7_h80), (2, wf57)]) (lo' := [(0, (2, this)), (1, (2, text)), (2, (0, row)), (3, (1, l3_h80)), (5, (1, l5_h14)), (7, (0, l7_h80)), (8, (1, x43)), (10, (0, 0))]) rfl ?_
                          refine r_lastK hX hP rfl al_96 wf57s (by first | decide | omega) (by first | decide | omega) (by first | decide | omega) (by first | decide | omega) (fun h59 => ?_)
                          refine r_ex hX hP 2 (pc' := 193) (st' := [(2, this), (1, l3_h80)]) (lo' := [(0, (2, this)), (1, (2, text)), (2, (0, row)), (3, (1, l3_h80)), (5, (1, l5_h14)), (7, (0, l7_h80)), (8, (1, x43)), (10, (0, 0))]) rfl ?_
                          refine r_getKR hX hP rfl fl_X8_71_129 hS (x := qf54) qf54e ?_
                          refine r_ex hX hP 1 (pc' := 198) (st' := [(0, l7_h80), (2, qf54), (1, l3_h80)]) (lo' := [(0, (2, this)), (1, (2, text)), (2, (0, row)), (3, (1, l3_h80)), (5, (1, l5_h14)), (7, (0, l7_h80)), (8, (1, x43)), (10, (0, 0))]) rfl ?_
                          refine r_laldK hX hP rfl al_95 qf54s (by first | decide | omega) (by first | decide | omega) (x := 0) h56 ?_
                          refine r_ex hX hP 4 (pc' := 80) (st' := []) (lo' := [(0, (2, this)), (1, (2, text)), (2, (0, row)), (3, (1, (l3_h80 - 0))), (5, (1, l5_h14)), (7, (0, (l7_h80 + 1))), (8, (1, x43)), (10, (0, 0))]) rfl ?_
                          refine r_pick hX [0, 1, 2, 3, 4, 5] (lo' := [(0, (2, this)), (1, (2, text)), (2, (0, row)), (3, (1, (l3_h80 - 0))), (5, (1, l5_h14)), (7, (0, (l7_h80 + 1)))]) rfl ?_
                          refine r_eqG (X := X) (hw_up (hw_up (hw_base _ _ _) rfl) rfl) ?_
                          exact ih80 (l3_h80 - 0) (l7_h80 + 1) _ (by first | decide | omega) (by first | decide | omega) (by first | decide | omega) (by first | decide | omega) (by first | decide | omega)
                        · skip
                          exfalso; omega
                      · skip
                        exfalso; omega
                    · skip
                      refine r_ex hX hP 4 (pc' := 153) (st' := [(2, this)]) (lo' := [(0, (2, this)), (1, (2, text)), (2, (0, row)), (3, (1, l3_h80)), (5, (1, l5_h14)), (7, (0, l7_h80)), (8, (1, x43)), (10, (0, 1))]) rfl ?_
                      refine r_getR hX hP rfl fl_X8_71_129 hS (fun qf60 qf60e qf60s => ?_)
                      refine r_ex hX hP 2 (pc' := 160) (st' := [(0, 1), (0, l7_h80), (2, qf60)]) (lo' := [(0, (2, this)), (1, (2, text)), (2, (0, row)), (3, (1, l3_h80)), (5, (1, l5_h14)), (7, (0, l7_h80)), (8, (1, x43)), (10, (0, 1))]) rfl ?_
                      refine r_if_eq hX hP rfl (tgt := 168) rfl (by first | decide | omega) (by first | decide | omega) (fun c61 => ?_) (fun c61 => ?_)
                      · skip
                        exfalso; omega
                      · skip
                        refine r_ex hX hP 2 (pc' := 169) (st' := [(1, x43), (0, l7_h80), (2, qf60)]) (lo' := [(0, (2, this)), (1, (2, text)), (2, (0, row)), (3, (1, l3_h80)), (5, (1, l5_h14)), (7, (0, l7_h80)), (8, (1, x43)), (10, (0, 1))]) rfl ?_
                        refine r_lastK hX hP rfl al_95 qf60s (by first | decide | omega) (by first | decide | omega) (by first | decide | omega) (by first | decide | omega) (fun h62 => ?_)
                        refine r_ex hX hP 1 (pc' := 171) (st' := [(2, this)]) (lo' := [(0, (2, this)), (1, (2, text)), (2, (0, row)), (3, (1, l3_h80)), (5, (1, l5_h14)), (7, (0, l7_h80)), (8, (1, x43)), (10, (0, 1))]) rfl ?_
                        refine r_getKR hX hP rfl fl_X8_45_129 hS (x := af3) af3e ?_
                        refine r_getR hX hP rfl fl_X8_252_130 af3s (fun wf63 wf63e wf63s => ?_)
                        refine r_ex hX hP 2 (pc' := 181) (st' := [(0, 1), (0, l7_h80), (2, wf63)]) (lo' := [(0, (2, this)), (1, (2, text)), (2, (0, row)), (3, (1, l3_h80)), (5, (1, l5_h14)), (7, (0, l7_h80)), (8, (1, x43)), (10, (0, 1))]) rfl ?_
                        refine r_if_eq hX hP rfl (tgt := 188) rfl (by first | decide | omega) (by first | decide | omega) (fun c64 => ?_) (fun c64 => ?_)
                        · skip
                          exfalso; omega
                        · skip
                          refine r_ex hX hP 2 (pc' := 190) (st' := [(1, 0), (0, l7_h80), (2, wf63)]) (lo' := [(0, (2, this)), (1, (2, text)), (2, (0, row)), (3, (1, l3_h80)), (5, (1, l5_h14)), (7, (0, l7_h80)), (8, (1, x43)), (10, (0, 1))]) rfl ?_
                          refine r_lastK hX hP rfl al_96 wf63s (by first | decide | omega) (by first | decide | omega) (by first | decide | omega) (by first | decide | omega) (fun h65 => ?_)
                          refine r_ex hX hP 2 (pc' := 193) (st' := [(2, this), (1, l3_h80)]) (lo' := [(0, (2, this)), (1, (2, text)), (2, (0, row)), (3, (1, l3_h80)), (5, (1, l5_h14)), (7, (0, l7_h80)), (8, (1, x43)), (10, (0, 1))]) rfl ?_
                          refine r_getKR hX hP rfl fl_X8_71_129 hS (x := qf60) qf60e ?_
                          refine r_ex hX hP 1 (pc' := 198) (st' := [(0, l7_h80), (2, qf60), (1, l3_h80)]) (lo' := [(0, (2, this)), (1, (2, text)), (2, (0, row)), (3, (1, l3_h80)), (5, (1, l5_h14)), (7, (0, l7_h80)), (8, (1, x43)), (10, (0, 1))]) rfl ?_
                          refine r_laldK hX hP rfl al_95 qf60s (by first | decide | omega) (by first | decide | omega) (x := x43) h62 ?_
                          refine r_ex hX hP 1 (pc' := 200) (st' := [(1, (l3_h80 - x43))]) (lo' := [(0, (2, this)), (1, (2, text)), (2, (0, row)), (3, (1, l3_h80)), (5, (1, l5_h14)), (7, (0, l7_h80)), (8, (1, x43)), (10, (0, 1))]) rfl ?_
                          refine r_hvL hX (fun w66 w66a w66b w66e => ?_)
                          refine r_ex hX hP 3 (pc' := 80) (st' := []) (lo' := [(0, (2, this)), (1, (2, text)), (2, (0, row)), (3, (1, w66)), (5, (1, l5_h14)), (7, (0, (l7_h80 + 1))), (8, (1, x43)), (10, (0, 1))]) rfl ?_
                          refine r_pick hX [0, 1, 2, 3, 4, 5] (lo' := [(0, (2, this)), (1, (2, text)), (2, (0, row)), (3, (1, w66)), (5, (1, l5_h14)), (7, (0, (l7_h80 + 1)))]) rfl ?_
                          refine r_eqG (X := X) (hw_up (hw_up (hw_base _ _ _) rfl) rfl) ?_
                          exact ih80 w66 (l7_h80 + 1) _ (by first | decide | omega) (by first | decide | omega) (by first | decide | omega) (by first | decide | omega) (by first | decide | omega)
          refine r_eqG (X := X) (hw_refl [(95, -1), (96, -1)] _) ?_
          exact loop80 ((20 - 0) + 1 : Int).toNat x2 0 _ (by first | decide | omega) (by first | decide | omega) (by first | decide | omega) (by first | decide | omega) (by first | decide | omega)
        · skip
          refine r_ex hX hP 1 (pc' := 76) (st' := [(0, 0)]) (lo' := [(0, (2, this)), (1, (2, text)), (2, (0, row)), (3, (1, x2)), (5, (1, l5_h14)), (7, (0, l7_h14))]) rfl ?_
          exact r_retZ hX hP rfl rfl (by first | decide | omega) (by first | decide | omega) (by first | decide | omega) (by first | decide | omega) ⟨rfl, ⟨_, (hw_refl _ _).symm⟩, 0, rfl, (by first | decide | omega)⟩
      · skip
        refine r_ex hX hP 2 (pc' := 29) (st' := [(2, this), (1, l5_h14)]) (lo' := [(0, (2, this)), (1, (2, text)), (2, (0, row)), (3, (1, x2)), (5, (1, l5_h14)), (7, (0, l7_h14))]) rfl ?_
        refine r_getKR hX hP rfl fl_X8_45_129 hS (x := af3) af3e ?_
        refine r_getR hX hP rfl fl_X8_211_130 af3s (fun tf67 tf67e tf67s => ?_)
        refine r_ex hX hP 1 (pc' := 37) (st' := [(0, l7_h14), (2, tf67), (1, l5_h14)]) (lo' := [(0, (2, this)), (1, (2, text)), (2, (0, row)), (3, (1, x2)), (5, (1, l5_h14)), (7, (0, l7_h14))]) rfl ?_
        refine r_iald hX hP rfl al_94 tf67s (by first | decide | omega) (by first | decide | omega) (fun x68 x68e x68a x68b => ?_)
        refine r_ex hX hP 1 (pc' := 40) (st' := [(0, l7_h14), (0, x68), (1, l5_h14)]) (lo' := [(0, (2, this)), (1, (2, text)), (2, (0, row)), (3, (1, x2)), (5, (1, l5_h14)), (7, (0, l7_h14))]) rfl ?_
        refine r_ic_ne hX hP rfl (tgt := 58) rfl (by first | decide | omega) (by first | decide | omega) (by first | decide | omega) (by first | decide | omega) (fun c69 => ?_) (fun c69 => ?_)
        · skip
          refine r_ex hX hP 5 (pc' := 14) (st' := []) (lo' := [(0, (2, this)), (1, (2, text)), (2, (0, row)), (3, (1, x2)), (5, (1, (l5_h14 + 0))), (7, (0, (l7_h14 + 1)))]) rfl ?_
          exact ih14 (l5_h14 + 0) (l7_h14 + 1) (by first | decide | omega) (by first | decide | omega) (by first | decide | omega) (by first | decide | omega) (by first | decide | omega)
        · skip
          refine r_ex hX hP 1 (pc' := 44) (st' := [(2, this), (1, l5_h14)]) (lo' := [(0, (2, this)), (1, (2, text)), (2, (0, row)), (3, (1, x2)), (5, (1, l5_h14)), (7, (0, l7_h14))]) rfl ?_
          refine r_getKR hX hP rfl fl_X8_45_129 hS (x := af3) af3e ?_
          refine r_getR hX hP rfl fl_X8_246_130 af3s (fun af70 af70e af70s => ?_)
          refine r_ex hX hP 1 (pc' := 51) (st' := [(0, row), (2, af70), (1, l5_h14)]) (lo' := [(0, (2, this)), (1, (2, text)), (2, (0, row)), (3, (1, x2)), (5, (1, l5_h14)), (7, (0, l7_h14))]) rfl ?_
          refine r_aald hX hP rfl al_98 rfl af70s (by first | decide | omega) (by first | decide | omega) (fun r71 r71e r71s => ?_)
          refine r_ex hX hP 1 (pc' := 54) (st' := [(0, l7_h14), (2, r71), (1, l5_h14)]) (lo' := [(0, (2, this)), (1, (2, text)), (2, (0, row)), (3, (1, x2)), (5, (1, l5_h14)), (7, (0, l7_h14))]) rfl ?_
          refine r_lald hX hP rfl al_95 r71s (by first | decide | omega) (by first | decide | omega) (fun x72 x72e x72a x72b => ?_)
          refine r_ex hX hP 2 (pc' := 60) (st' := [(1, (l5_h14 + x72))]) (lo' := [(0, (2, this)), (1, (2, text)), (2, (0, row)), (3, (1, x2)), (5, (1, l5_h14)), (7, (0, l7_h14))]) rfl ?_
          refine r_hvL hX (fun w73 w73a w73b w73e => ?_)
          refine r_ex hX hP 3 (pc' := 14) (st' := []) (lo' := [(0, (2, this)), (1, (2, text)), (2, (0, row)), (3, (1, x2)), (5, (1, w73)), (7, (0, (l7_h14 + 1)))]) rfl ?_
          exact ih14 w73 (l7_h14 + 1) (by first | decide | omega) (by first | decide | omega) (by first | decide | omega) (by first | decide | omega) (by first | decide | omega)
  exact loop14 ((20 - 0) + 1 : Int).toNat 0 0 (by first | decide | omega) (by first | decide | omega) (by first | decide | omega) (by first | decide | omega) (by first | decide | omega)
set_option maxRecDepth 100000 in
set_option maxHeartbeats 4000000 in
theorem c_X8_cutBack (E : En) (S : Sg) (G : Gh) (this : Int) (text : Int) (hS : S this = 129) (text_s : S text = 136) : Calls E mX8_cutBack [(2, this), (2, text)] S G 3 0 0 (fun r S' G' => S = S' ∧ (∃ G1, hw [(95, -1), (96, -1), (97, -1)] G G1 = G') ∧ r = none ∧ True) := by
  refine calls_by [(0, (2, this)), (1, (2, text))] rfl rfl (Nat.le_of_ble_eq_true rfl) (fun X hX => ?_)
  have hP := hPX8_cutBack
  refine r_ex hX hP 1 (pc' := 1) (st' := [(2, this)]) (lo' := [(0, (2, this)), (1, (2, text))]) rfl ?_
  refine r_getR hX hP rfl fl_X8_68_129 hS (fun cf1 cf1e cf1s => ?_)
  refine r_ex hX hP 1 (pc' := 5) (st' := [(1, 0), (2, cf1)]) (lo' := [(0, (2, this)), (1, (2, text))]) rfl ?_
  refine r_callS gd hX hP rfl cs_X8_117 (d' := 0) (mc' := 0) (ms' := 0) (as' := [(2, cf1), (1, 0)]) (st := []) (by first | decide | omega) (by first | decide | omega) (by first | decide | omega) rfl rfl (Nat.le_of_ble_eq_true rfl) (c_fillJ_J20 E S G cf1 0 cf1s (by first | decide | omega) (by first | decide | omega)) ?_
  rintro _ _ _ ⟨rfl, ⟨G2, rfl⟩, rfl, -⟩
  refine r_ex hX hP 2 (pc' := 10) (st' := []) (lo' := [(0, (2, this)), (1, (2, text)), (2, (0, 0))]) rfl ?_
  have loop10 : ∀ (nF : Nat) (l2_h10 : Int) (Gh10 : Gh), 0 ≤ l2_h10 → l2_h10 ≤ 3 → 3 - l2_h10 < (nF : Int) → X 0 0 10 [] [(0, (2, this)), (1, (2, text)), (2, (0, l2_h10))] S (hw [(95, -1), (96, -1), (97, -1)] (hw [(95, -1)] G G2) Gh10) := by
    intro nF
    induction nF with
    | zero => intro l2_h10 Gh10 yh10_0 yh10_1 ym10; exfalso; omega
    | succ nF ih10 =>
      intro l2_h10 Gh10 yh10_0 yh10_1 ym10
      refine r_ex hX hP 2 (pc' := 12) (st' := [(2, text), (0, l2_h10)]) (lo' := [(0, (2, this)), (1, (2, text)), (2, (0, l2_h10))]) rfl ?_
      refine r_getI hX hP rfl fl_X8_225_136 text_s (fun cf3 cf3e cf3a cf3b => ?_)
      refine r_ic_ge hX hP rfl (tgt := 170) rfl (by first | decide | omega) (by first | decide | omega) (by first | decide | omega) (by first | decide | omega) (fun c4 => ?_) (fun c4 => ?_)
      · skip
        refine r_ex hX hP 2 (pc' := 172) (st' := []) (lo' := [(0, (2, this)), (1, (2, text)), (2, (0, 0))]) rfl ?_
        have x220 : ∀ (l2_x220 : Int) (Gx220 : Gh), 0 ≤ l2_x220 → l2_x220 ≤ 20 → X 0 0 220 [] [(0, (2, this)), (1, (2, text)), (2, (0, l2_x220))] S (hw [(95, -1)] (hw [(95, -1), (96, -1), (97, -1)] (hw [(95, -1)] G G2) Gh10) Gx220) := by
          intro l2_x220 Gx220 yx220_0 yx220_1
          exact r_retV hX hP rfl rfl (by first | decide | omega) (by first | decide | omega) ⟨rfl, ⟨_, (hw_sub (hw_sub (hw_sub (hw_refl _ _) rfl) rfl) rfl).symm⟩, rfl, trivial⟩
        have loop172 : ∀ (nF : Nat) (l2_h172 : Int) (Gh172 : Gh), 0 ≤ l2_h172 → l2_h172 ≤ 20 → 20 - l2_h172 < (nF : Int) → X 0 0 172 [] [(0, (2, this)), (1, (2, text)), (2, (0, l2_h172))] S (hw [(95, -1)] (hw [(95, -1), (96, -1), (97, -1)] (hw [(95, -1)] G G2) Gh10) Gh172) := by
          intro nF
          induction nF with
          | zero => intro l2_h172 Gh172 yh172_0 yh172_1 ym172; exfalso; omega
          | succ nF ih172 =>
            intro l2_h172 Gh172 yh172_0 yh172_1 ym172
            refine r_ex hX hP 2 (pc' := 174) (st' := [(2, this), (0, l2_h172)]) (lo' := [(0, (2, this)), (1, (2, text)), (2, (0, l2_h172))]) rfl ?_
            refine r_getR hX hP rfl fl_X8_45_129 hS (fun af5 af5e af5s => ?_)
            refine r_getI hX hP rfl fl_X8_207_130 af5s (fun cf6 cf6e cf6a cf6b => ?_)
            refine r_ic_ge hX hP rfl (tgt := 220) rfl (by first | decide | omega) (by first | decide | omega) (by first | decide | omega) (by first | decide | omega) (fun c7 => ?_) (fun c7 => ?_)
            · skip
              refine r_eqG (X := X) (hw_sub (hw_refl [(95, -1)] _) rfl) ?_
              exact x220 l2_h172 _ (by first | decide | omega) (by first | decide | omega)
            · skip
              refine r_ex hX hP 1 (pc' := 184) (st' := [(2, text)]) (lo' := [(0, (2, this)), (1, (2, text)), (2, (0, l2_h172))]) rfl ?_
              refine r_getI hX hP rfl fl_X8_172_136 text_s (fun ff8 ff8e ff8a ff8b => ?_)
              refine r_ex hX hP 1 (pc' := 188) (st' := [(0, (-1)), (0, ff8)]) (lo' := [(0, (2, this)), (1, (2, text)), (2, (0, l2_h172))]) rfl ?_
              refine r_ic_eq hX hP rfl (tgt := 220) rfl (by first | decide | omega) (by first | decide | omega) (by first | decide | omega) (by first | decide | omega) (fun c9 => ?_) (fun c9 => ?_)
              · skip
                refine r_eqG (X := X) (hw_sub (hw_refl [(95, -1)] _) rfl) ?_
                exact x220 l2_h172 _ (by first | decide | omega) (by first | decide | omega)
              · skip
                refine r_ex hX hP 1 (pc' := 192) (st' := [(2, this)]) (lo' := [(0, (2, this)), (1, (2, text)), (2, (0, l2_h172))]) rfl ?_
                refine r_getKR hX hP rfl fl_X8_45_129 hS (x := af5) af5e ?_
                refine r_getR hX hP rfl fl_X8_208_130 af5s (fun mf10 mf10e mf10s => ?_)
                refine r_ex hX hP 1 (pc' := 199) (st' := [(2, text), (2, mf10)]) (lo' := [(0, (2, this)), (1, (2, text)), (2, (0, l2_h172))]) rfl ?_
                refine r_getKI hX hP rfl fl_X8_172_136 text_s (x := ff8) ff8e ?_
                refine r_aald hX hP rfl al_98 rfl mf10s (by first | decide | omega) (by first | decide | omega) (fun r11 r11e r11s => ?_)
                refine r_ex hX hP 2 (pc' := 205) (st' := [(0, l2_h172), (2, r11), (0, l2_h172), (2, r11)]) (lo' := [(0, (2, this)), (1, (2, text)), (2, (0, l2_h172))]) rfl ?_
                refine r_lald hX hP rfl al_95 r11s (by first | decide | omega) (by first | decide | omega) (fun x12 x12e x12a x12b => ?_)
                refine r_ex hX hP 1 (pc' := 207) (st' := [(2, this), (1, x12), (0, l2_h172), (2, r11)]) (lo' := [(0, (2, this)), (1, (2, text)), (2, (0, l2_h172))]) rfl ?_
                refine r_getKR hX hP rfl fl_X8_68_129 hS (x := cf1) cf1e ?_
                refine r_ex hX hP 1 (pc' := 211) (st' := [(0, l2_h172), (2, cf1), (1, x12), (0, l2_h172), (2, r11)]) (lo' := [(0, (2, this)), (1, (2, text)), (2, (0, l2_h172))]) rfl ?_
                refine r_lald hX hP rfl al_95 cf1s (by first | decide | omega) (by first | decide | omega) (fun x13 x13e x13a x13b => ?_)
                refine r_ex hX hP 1 (pc' := 213) (st' := [(1, (x12 + x13)), (0, l2_h172), (2, r11)]) (lo' := [(0, (2, this)), (1, (2, text)), (2, (0, l2_h172))]) rfl ?_
                refine r_hvL hX (fun w14 w14a w14b w14e => ?_)
                refine r_lastK hX hP rfl al_95 r11s (by first | decide | omega) (by first | decide | omega) (by first | decide | omega) (by first | decide | omega) (fun h15 => ?_)
                refine r_ex hX hP 2 (pc' := 172) (st' := []) (lo' := [(0, (2, this)), (1, (2, text)), (2, (0, (l2_h172 + 1)))]) rfl ?_
                refine r_eqG (X := X) (hw_up (hw_base _ _ _) rfl) ?_
                exact ih172 (l2_h172 + 1) _ (by first | decide | omega) (by first | decide | omega) (by first | decide | omega)
        refine r_eqG (X := X) (hw_refl [(95, -1)] _) ?_
        exact loop172 ((20 - 0) + 1 : Int).toNat 0 _ (by first | decide | omega) (by first | decide | omega) (by first | decide | omega)
      · skip
        refine r_ex hX hP 1 (pc' := 19) (st' := [(2, text)]) (lo' := [(0, (2, this)), (1, (2, text)), (2, (0, l2_h10))]) rfl ?_
        refine r_getR hX hP rfl fl_X8_232_136 text_s (fun mf16 mf16e mf16s => ?_)
        refine r_ex hX hP 1 (pc' := 23) (st' := [(0, l2_h10), (2, mf16)]) (lo' := [(0, (2, this)), (1, (2, text)), (2, (0, l2_h10))]) rfl ?_
        refine r_iald hX hP rfl al_124 mf16s (by first | decide | omega) (by first | decide | omega) (fun x17 x17e x17a x17b => ?_)
        refine r_ex hX hP 1 (pc' := 25) (st' := [(0, (-1)), (0, x17)]) (lo' := [(0, (2, this)), (1, (2, text)), (2, (0, l2_h10))]) rfl ?_
        refine r_ic_eq hX hP rfl (tgt := 164) rfl (by first | decide | omega) (by first | decide | omega) (by first | decide | omega) (by first | decide | omega) (fun c18 => ?_) (fun c18 => ?_)
        · skip
          refine r_ex hX hP 2 (pc' := 10) (st' := []) (lo' := [(0, (2, this)), (1, (2, text)), (2, (0, (l2_h10 + 1)))]) rfl ?_
          refine r_eqG (X := X) (hw_base _ _ _) ?_
          exact ih10 (l2_h10 + 1) _ (by first | decide | omega) (by first | decide | omega) (by first | decide | omega)
        · skip
          refine r_ex hX hP 3 (pc' := 31) (st' := [(0, l2_h10), (2, text), (2, this)]) (lo' := [(0, (2, this)), (1, (2, text)), (2, (0, l2_h10))]) rfl ?_
          refine r_callV gd hX hP rfl cv_X8_235_129 hS (d' := 2) (mc' := 0) (ms' := 0) (as' := [(2, text), (0, l2_h10)]) (st := []) (by first | decide | omega) (by first | decide | omega) (by first | decide | omega) rfl rfl (Nat.le_of_ble_eq_true rfl) (c_X8_allotTops E S (hw [(95, -1), (96, -1), (97, -1)] (hw [(95, -1)] G G2) Gh10) this text l2_h10 hS text_s (by first | decide | omega) (by first | decide | omega)) ?_
          rintro _ _ _ ⟨rfl, ⟨G19, rfl⟩, z20, rfl, z20a, z20b⟩
          refine r_if_ne hX hP rfl (tgt := 40) rfl (by first | decide | omega) (by first | decide | omega) (fun c21 => ?_) (fun c21 => ?_)
          · skip
            refine r_ex hX hP 2 (pc' := 42) (st' := []) (lo' := [(0, (2, this)), (1, (2, text)), (2, (0, l2_h10)), (3, (0, 0))]) rfl ?_
            have loop42 : ∀ (nF : Nat) (l3_h42 : Int) (Gh42 : Gh), 0 ≤ l3_h42 → l3_h42 ≤ 20 → 20 - l3_h42 < (nF : Int) → X 0 0 42 [] [(0, (2, this)), (1, (2, text)), (2, (0, l2_h10)), (3, (0, l3_h42))] S (hw [(95, -1), (96, -1), (97, -1)] (hw [(95, -1), (96, -1)] (hw [(95, -1), (96, -1), (97, -1)] (hw [(95, -1)] G G2) Gh10) G19) Gh42) := by
              intro nF
              induction nF with
              | zero => intro l3_h42 Gh42 yh42_0 yh42_1 ym42; exfalso; omega
              | succ nF ih42 =>
                intro l3_h42 Gh42 yh42_0 yh42_1 ym42
                refine r_ex hX hP 2 (pc' := 44) (st' := [(2, this), (0, l3_h42)]) (lo' := [(0, (2, this)), (1, (2, text)), (2, (0, l2_h10)), (3, (0, l3_h42))]) rfl ?_
                refine r_getR hX hP rfl fl_X8_45_129 hS (fun af22 af22e af22s => ?_)
                refine r_getI hX hP rfl fl_X8_207_130 af22s (fun cf23 cf23e cf23a cf23b => ?_)
                refine r_ic_ge hX hP rfl (tgt := 87) rfl (by first | decide | omega) (by first | decide | omega) (by first | decide | omega) (by first | decide | omega) (fun c24 => ?_) (fun c24 => ?_)
                · skip
                  refine r_ex hX hP 2 (pc' := 89) (st' := []) (lo' := [(0, (2, this)), (1, (2, text)), (2, (0, l2_h10)), (3, (0, 0))]) rfl ?_
                  have loop89 : ∀ (nF : Nat) (l3_h89 : Int) (Gh89 : Gh), 0 ≤ l3_h89 → l3_h89 ≤ 20 → 20 - l3_h89 < (nF : Int) → X 0 0 89 [] [(0, (2, this)), (1, (2, text)), (2, (0, l2_h10)), (3, (0, l3_h89))] S (hw [(95, -1)] (hw [(95, -1), (96, -1), (97, -1)] (hw [(95, -1), (96, -1)] (hw [(95, -1), (96, -1), (97, -1)] (hw [(95, -1)] G G2) Gh10) G19) Gh42) Gh89) := by
                    intro nF
                    induction nF with
                    | zero => intro l3_h89 Gh89 yh89_0 yh89_1 ym89; exfalso; omega
                    | succ nF ih89 =>
                      intro l3_h89 Gh89 yh89_0 yh89_1 ym89
                      refine r_ex hX hP 2 (pc' := 91) (st' := [(2, this), (0, l3_h89)]) (lo' := [(0, (2, this)), (1, (2, text)), (2, (0, l2_h10)), (3, (0, l3_h89))]) rfl ?_
                      refine r_getKR hX hP rfl fl_X8_45_129 hS (x := af22) af22e ?_
                      refine r_getKI hX hP rfl fl_X8_207_130 af22s (x := cf23) cf23e ?_
                      refine r_ic_ge hX hP rfl (tgt := 164) rfl (by first | decide | omega) (by first | decide | omega) (by first | decide | omega) (by first | decide | omega) (fun c25 => ?_) (fun c25 => ?_)
                      · skip
                        refine r_ex hX hP 2 (pc' := 10) (st' := []) (lo' := [(0, (2, this)), (1, (2, text)), (2, (0, (l2_h10 + 1))), (3, (0, l3_h89))]) rfl ?_
                        refine r_pick hX [0, 1, 2] (lo' := [(0, (2, this)), (1, (2, text)), (2, (0, (l2_h10 + 1)))]) rfl ?_
                        refine r_eqG (X := X) (hw_sub (hw_sub (hw_sub (hw_base _ _ _) rfl) rfl) rfl) ?_
                        exact ih10 (l2_h10 + 1) _ (by first | decide | omega) (by first | decide | omega) (by first | decide | omega)
                      · skip
                        refine r_ex hX hP 2 (pc' := 102) (st' := [(2, text), (0, l2_h10)]) (lo' := [(0, (2, this)), (1, (2, text)), (2, (0, l2_h10)), (3, (0, l3_h89))]) rfl ?_
                        refine r_getI hX hP rfl fl_X8_172_136 text_s (fun ff26 ff26e ff26a ff26b => ?_)
                        refine r_ic_eq hX hP rfl (tgt := 138) rfl (by first | decide | omega) (by first | decide | omega) (by first | decide | omega) (by first | decide | omega) (fun c27 => ?_) (fun c27 => ?_)
                        · skip
                          refine r_ex hX hP 1 (pc' := 139) (st' := [(2, this)]) (lo' := [(0, (2, this)), (1, (2, text)), (2, (0, l2_h10)), (3, (0, l3_h89))]) rfl ?_
                          refine r_getKR hX hP rfl fl_X8_45_129 hS (x := af22) af22e ?_
                          refine r_getR hX hP rfl fl_X8_208_130 af22s (fun mf28 mf28e mf28s => ?_)
                          refine r_ex hX hP 1 (pc' := 146) (st' := [(0, l2_h10), (2, mf28)]) (lo' := [(0, (2, this)), (1, (2, text)), (2, (0, l2_h10)), (3, (0, l3_h89))]) rfl ?_
                          refine r_aald hX hP rfl al_98 rfl mf28s (by first | decide | omega) (by first | decide | omega) (fun r29 r29e r29s => ?_)
                          refine r_ex hX hP 2 (pc' := 149) (st' := [(2, this), (0, l3_h89), (2, r29)]) (lo' := [(0, (2, this)), (1, (2, text)), (2, (0, l2_h10)), (3, (0, l3_h89))]) rfl ?_
                          refine r_getKR hX hP rfl fl_X8_45_129 hS (x := af22) af22e ?_
                          refine r_getR hX hP rfl fl_X8_243_130 af22s (fun gf30 gf30e gf30s => ?_)
                          refine r_ex hX hP 1 (pc' := 156) (st' := [(0, l3_h89), (2, gf30), (0, l3_h89), (2, r29)]) (lo' := [(0, (2, this)), (1, (2, text)), (2, (0, l2_h10)), (3, (0, l3_h89))]) rfl ?_
                          refine r_lald hX hP rfl al_95 gf30s (by first | decide | omega) (by first | decide | omega) (fun x31 x31e x31a x31b => ?_)
                          refine r_lastK hX hP rfl al_95 r29s (by first | decide | omega) (by first | decide | omega) (by first | decide | omega) (by first | decide | omega) (fun h32 => ?_)
                          refine r_ex hX hP 2 (pc' := 89) (st' := []) (lo' := [(0, (2, this)), (1, (2, text)), (2, (0, l2_h10)), (3, (0, (l3_h89 + 1)))]) rfl ?_
                          refine r_eqG (X := X) (hw_up (hw_base _ _ _) rfl) ?_
                          exact ih89 (l3_h89 + 1) _ (by first | decide | omega) (by first | decide | omega) (by first | decide | omega)
                        · skip
                          refine r_ex hX hP 1 (pc' := 109) (st' := [(2, this)]) (lo' := [(0, (2, this)), (1, (2, text)), (2, (0, l2_h10)), (3, (0, l3_h89))]) rfl ?_
                          refine r_getKR hX hP rfl fl_X8_68_129 hS (x := cf1) cf1e ?_
                          refine r_ex hX hP 2 (pc' := 114) (st' := [(0, l3_h89), (2, cf1), (0, l3_h89), (2, cf1)]) (lo' := [(0, (2, this)), (1, (2, text)), (2, (0, l2_h10)), (3, (0, l3_h89))]) rfl ?_
                          refine r_lald hX hP rfl al_95 cf1s (by first | decide | omega) (by first | decide | omega) (fun x33 x33e x33a x33b => ?_)
                          refine r_ex hX hP 1 (pc' := 116) (st' := [(2, this), (1, x33), (0, l3_h89), (2, cf1)]) (lo' := [(0, (2, this)), (1, (2, text)), (2, (0, l2_h10)), (3, (0, l3_h89))]) rfl ?_
                          refine r_getKR hX hP rfl fl_X8_45_129 hS (x := af22) af22e ?_
                          refine r_getR hX hP rfl fl_X8_208_130 af22s (fun mf34 mf34e mf34s => ?_)
                          refine r_ex hX hP 1 (pc' := 123) (st' := [(0, l2_h10), (2, mf34), (1, x33), (0, l3_h89), (2, cf1)]) (lo' := [(0, (2, this)), (1, (2, text)), (2, (0, l2_h10)), (3, (0, l3_h89))]) rfl ?_
                          refine r_aald hX hP rfl al_98 rfl mf34s (by first | decide | omega) (by first | decide | omega) (fun r35 r35e r35s => ?_)
                          refine r_ex hX hP 1 (pc' := 125) (st' := [(0, l3_h89), (2, r35), (1, x33), (0, l3_h89), (2, cf1)]) (lo' := [(0, (2, this)), (1, (2, text)), (2, (0, l2_h10)), (3, (0, l3_h89))]) rfl ?_
                          refine r_lald hX hP rfl al_95 r35s (by first | decide | omega) (by first | decide | omega) (fun x36 x36e x36a x36b => ?_)
                          refine r_ex hX hP 1 (pc' := 127) (st' := [(2, this), (1, x36), (1, x33), (0, l3_h89), (2, cf1)]) (lo' := [(0, (2, this)), (1, (2, text)), (2, (0, l2_h10)), (3, (0, l3_h89))]) rfl ?_
                          refine r_getKR hX hP rfl fl_X8_45_129 hS (x := af22) af22e ?_
                          refine r_getR hX hP rfl fl_X8_243_130 af22s (fun gf37 gf37e gf37s => ?_)
                          refine r_ex hX hP 1 (pc' := 134) (st' := [(0, l3_h89), (2, gf37), (1, x36), (1, x33), (0, l3_h89), (2, cf1)]) (lo' := [(0, (2, this)), (1, (2, text)), (2, (0, l2_h10)), (3, (0, l3_h89))]) rfl ?_
                          refine r_lald hX hP rfl al_95 gf37s (by first | decide | omega) (by first | decide | omega) (fun x38 x38e x38a x38b => ?_)
                          refine r_ex hX hP 1 (pc' := 136) (st' := [(1, (x36 - x38)), (1, x33), (0, l3_h89), (2, cf1)]) (lo' := [(0, (2, this)), (1, (2, text)), (2, (0, l2_h10)), (3, (0, l3_h89))]) rfl ?_
                          refine r_hvL hX (fun w39 w39a w39b w39e => ?_)
                          refine r_ex hX hP 1 (pc' := 137) (st' := [(1, (x33 + w39)), (0, l3_h89), (2, cf1)]) (lo' := [(0, (2, this)), (1, (2, text)), (2, (0, l2_h10)), (3, (0, l3_h89))]) rfl ?_
                          refine r_hvL hX (fun w40 w40a w40b w40e => ?_)
                          refine r_lastK hX hP rfl al_95 cf1s (by first | decide | omega) (by first | decide | omega) (by first | decide | omega) (by first | decide | omega) (fun h41 => ?_)
                          refine r_ex hX hP 1 (pc' := 139) (st' := [(2, this)]) (lo' := [(0, (2, this)), (1, (2, text)), (2, (0, l2_h10)), (3, (0, l3_h89))]) rfl ?_
                          refine r_getKR hX hP rfl fl_X8_45_129 hS (x := af22) af22e ?_
                          refine r_getKR hX hP rfl fl_X8_208_130 af22s (x := mf34) mf34e ?_
                          refine r_ex hX hP 1 (pc' := 146) (st' := [(0, l2_h10), (2, mf34)]) (lo' := [(0, (2, this)), (1, (2, text)), (2, (0, l2_h10)), (3, (0, l3_h89))]) rfl ?_
                          refine r_aaldK hX hP rfl al_98 rfl mf34s (by first | decide | omega) (by first | decide | omega) (x := r35) r35e ?_
                          refine r_ex hX hP 2 (pc' := 149) (st' := [(2, this), (0, l3_h89), (2, r35)]) (lo' := [(0, (2, this)), (1, (2, text)), (2, (0, l2_h10)), (3, (0, l3_h89))]) rfl ?_
                          refine r_getKR hX hP rfl fl_X8_45_129 hS (x := af22) af22e ?_
                          refine r_getKR hX hP rfl fl_X8_243_130 af22s (x := gf37) gf37e ?_
                          refine r_ex hX hP 1 (pc' := 156) (st' := [(0, l3_h89), (2, gf37), (0, l3_h89), (2, r35)]) (lo' := [(0, (2, this)), (1, (2, text)), (2, (0, l2_h10)), (3, (0, l3_h89))]) rfl ?_
                          refine r_lald hX hP rfl al_95 gf37s (by first | decide | omega) (by first | decide | omega) (fun x42 x42e x42a x42b => ?_)
                          refine r_lastK hX hP rfl al_95 r35s (by first | decide | omega) (by first | decide | omega) (by first | decide | omega) (by first | decide | omega) (fun h43 => ?_)
                          refine r_ex hX hP 2 (pc' := 89) (st' := []) (lo' := [(0, (2, this)), (1, (2, text)), (2, (0, l2_h10)), (3, (0, (l3_h89 + 1)))]) rfl ?_
                          refine r_eqG (X := X) (hw_up (hw_up (hw_base _ _ _) rfl) rfl) ?_
                          exact ih89 (l3_h89 + 1) _ (by first | decide | omega) (by first | decide | omega) (by first | decide | omega)
                  refine r_eqG (X := X) (hw_refl [(95, -1)] _) ?_
                  exact loop89 ((20 - 0) + 1 : Int).toNat 0 _ (by first | decide | omega) (by first | decide | omega) (by first | decide | omega)
                · skip
                  refine r_ex hX hP 1 (pc' := 54) (st' := [(2, this)]) (lo' := [(0, (2, this)), (1, (2, text)), (2, (0, l2_h10)), (3, (0, l3_h42))]) rfl ?_
                  refine r_getKR hX hP rfl fl_X8_45_129 hS (x := af22) af22e ?_
                  refine r_getR hX hP rfl fl_X8_211_130 af22s (fun tf44 tf44e tf44s => ?_)
                  refine r_ex hX hP 1 (pc' := 61) (st' := [(0, l3_h42), (2, tf44)]) (lo' := [(0, (2, this)), (1, (2, text)), (2, (0, l2_h10)), (3, (0, l3_h42))]) rfl ?_
                  refine r_iald hX hP rfl al_94 tf44s (by first | decide | omega) (by first | decide | omega) (fun x45 x45e x45a x45b => ?_)
                  refine r_ex hX hP 1 (pc' := 63) (st' := [(0, l3_h42), (0, x45)]) (lo' := [(0, (2, this)), (1, (2, text)), (2, (0, l2_h10)), (3, (0, l3_h42))]) rfl ?_
                  refine r_ic_ne hX hP rfl (tgt := 81) rfl (by first | decide | omega) (by first | decide | omega) (by first | decide | omega) (by first | decide | omega) (fun c46 => ?_) (fun c46 => ?_)
                  · skip
                    refine r_ex hX hP 2 (pc' := 42) (st' := []) (lo' := [(0, (2, this)), (1, (2, text)), (2, (0, l2_h10)), (3, (0, (l3_h42 + 1)))]) rfl ?_
                    refine r_eqG (X := X) (hw_base _ _ _) ?_
                    exact ih42 (l3_h42 + 1) _ (by first | decide | omega) (by first | decide | omega) (by first | decide | omega)
                  · skip
                    refine r_ex hX hP 1 (pc' := 67) (st' := [(2, this)]) (lo' := [(0, (2, this)), (1, (2, text)), (2, (0, l2_h10)), (3, (0, l3_h42))]) rfl ?_
                    refine r_getKR hX hP rfl fl_X8_45_129 hS (x := af22) af22e ?_
                    refine r_ex hX hP 1 (pc' := 71) (st' := [(2, this), (2, af22)]) (lo' := [(0, (2, this)), (1, (2, text)), (2, (0, l2_h10)), (3, (0, l3_h42))]) rfl ?_
                    refine r_getR hX hP rfl fl_X8_71_129 hS (fun qf47 qf47e qf47s => ?_)
                    refine r_ex hX hP 1 (pc' := 75) (st' := [(0, l3_h42), (2, qf47), (2, af22)]) (lo' := [(0, (2, this)), (1, (2, text)), (2, (0, l2_h10)), (3, (0, l3_h42))]) rfl ?_
                    refine r_lald hX hP rfl al_95 qf47s (by first | decide | omega) (by first | decide | omega) (fun x48 x48e x48a x48b => ?_)
                    refine r_ex hX hP 2 (pc' := 78) (st' := [(0, l2_h10), (0, l3_h42), (1, x48), (2, af22)]) (lo' := [(0, (2, this)), (1, (2, text)), (2, (0, l2_h10)), (3, (0, l3_h42))]) rfl ?_
                    refine r_callV gd hX hP rfl cv_X8_239_130 af22s (d' := 2) (mc' := 0) (ms' := 0) (as' := [(1, x48), (0, l3_h42), (0, l2_h10)]) (st := []) (by first | decide | omega) (by first | decide | omega) (by first | decide | omega) rfl rfl (Nat.le_of_ble_eq_true rfl) (c_X0_part E S (hw [(95, -1), (96, -1), (97, -1)] (hw [(95, -1), (96, -1)] (hw [(95, -1), (96, -1), (97, -1)] (hw [(95, -1)] G G2) Gh10) G19) Gh42) af22 x48 l3_h42 l2_h10 af22s (by first | decide | omega) (by first | decide | omega) (by first | decide | omega) (by first | decide | omega) (by first | decide | omega) (by first | decide | omega)) ?_
                    rintro _ _ _ ⟨rfl, ⟨G49, rfl⟩, rfl, -⟩
                    refine r_ex hX hP 2 (pc' := 42) (st' := []) (lo' := [(0, (2, this)), (1, (2, text)), (2, (0, l2_h10)), (3, (0, (l3_h42 + 1)))]) rfl ?_
                    refine r_eqG (X := X) (hw_sub (hw_base _ _ _) rfl) ?_
                    exact ih42 (l3_h42 + 1) _ (by first | decide | omega) (by first | decide | omega) (by first | decide | omega)
            refine r_eqG (X := X) (hw_refl [(95, -1), (96, -1), (97, -1)] _) ?_
            exact loop42 ((20 - 0) + 1 : Int).toNat 0 _ (by first | decide | omega) (by first | decide | omega) (by first | decide | omega)
          · skip
            refine r_ex hX hP 3 (pc' := 10) (st' := []) (lo' := [(0, (2, this)), (1, (2, text)), (2, (0, (l2_h10 + 1)))]) rfl ?_
            refine r_eqG (X := X) (hw_sub (hw_base _ _ _) rfl) ?_
            exact ih10 (l2_h10 + 1) _ (by first | decide | omega) (by first | decide | omega) (by first | decide | omega)
  refine r_eqG (X := X) (hw_refl [(95, -1), (96, -1), (97, -1)] _) ?_
  exact loop10 ((3 - 0) + 1 : Int).toNat 0 _ (by first | decide | omega) (by first | decide | omega) (by first | decide | omega)
set_option maxRecDepth 100000 in
set_option maxHeartbeats 4000000 in
theorem c_X8_serve (E : En) (S : Sg) (G : Gh) (this : Int) (happened : Int) (head : Int) (hS : S this = 129) (happened_s : S happened = 137) (head_a : 0 ≤ head) (head_b : head ≤ 19) (ci : CI E S G) : Calls E mX8_serve [(2, this), (2, happened), (0, head)] S G 4 0 0 (fun r S' G' => S = S' ∧ (∃ G1, hw [(93, -1), (95, -1), (96, -1), (97, -1), (119, -1), (125, -1), (126, -1), (127, -1)] G G1 = G') ∧ r = none ∧ True) := by
  refine calls_by [(0, (2, this)), (1, (2, happened)), (2, (0, head))] rfl rfl (Nat.le_of_ble_eq_true rfl) (fun X hX => ?_)
  have hP := hPX8_serve
  refine r_ex hX hP 1 (pc' := 1) (st' := [(2, happened)]) (lo' := [(0, (2, this)), (1, (2, happened)), (2, (0, head))]) rfl ?_
  refine r_getR hX hP rfl fl_X8_168_137 happened_s (fun tf1 tf1e tf1s => ?_)
  refine r_ex hX hP 3 (pc' := 8) (st' := []) (lo' := [(0, (2, this)), (1, (2, happened)), (2, (0, head)), (3, (2, tf1)), (4, (0, 0))]) rfl ?_
  have loop8 : ∀ (nF : Nat) (l4_h8 : Int) (Gh8 : Gh), 0 ≤ l4_h8 → l4_h8 ≤ 4 → 4 - l4_h8 < (nF : Int) → X 0 0 8 [] [(0, (2, this)), (1, (2, happened)), (2, (0, head)), (3, (2, tf1)), (4, (0, l4_h8))] S (hw [(125, -1)] G Gh8) := by
    intro nF
    induction nF with
    | zero => intro l4_h8 Gh8 yh8_0 yh8_1 ym8; exfalso; omega
    | succ nF ih8 =>
      intro l4_h8 Gh8 yh8_0 yh8_1 ym8
      refine r_ex hX hP 2 (pc' := 11) (st' := [(0, 4), (0, l4_h8)]) (lo' := [(0, (2, this)), (1, (2, happened)), (2, (0, head)), (3, (2, tf1)), (4, (0, l4_h8))]) rfl ?_
      refine r_ic_ge hX hP rfl (tgt := 39) rfl (by first | decide | omega) (by first | decide | omega) (by first | decide | omega) (by first | decide | omega) (fun c2 => ?_) (fun c2 => ?_)
      · skip
        refine r_ex hX hP 1 (pc' := 40) (st' := [(2, tf1)]) (lo' := [(0, (2, this)), (1, (2, happened)), (2, (0, head)), (3, (2, tf1)), (4, (0, l4_h8))]) rfl ?_
        refine r_callV gd hX hP rfl cv_X8_265_136 tf1s (d' := 2) (mc' := 0) (ms' := 0) (as' := []) (st := []) (by first | decide | omega) (by first | decide | omega) (by first | decide | omega) rfl rfl (Nat.le_of_ble_eq_true rfl) (c_X9_work E S (hw [(125, -1)] G Gh8) tf1  tf1s) ?_
        rintro _ _ _ ⟨rfl, ⟨G3, rfl⟩, rfl, -⟩
        refine r_ex hX hP 2 (pc' := 46) (st' := []) (lo' := [(0, (2, this)), (1, (2, happened)), (2, (0, head)), (3, (2, tf1)), (4, (0, 0))]) rfl ?_
        have loop46 : ∀ (nF : Nat) (l4_h46 : Int) (Gh46 : Gh), 0 ≤ l4_h46 → l4_h46 ≤ 30 → 30 - l4_h46 < (nF : Int) → X 0 0 46 [] [(0, (2, this)), (1, (2, happened)), (2, (0, head)), (3, (2, tf1)), (4, (0, l4_h46))] S (hw [(93, -1), (95, -1), (96, -1), (97, -1)] (hw [(119, -1), (126, -1), (127, -1)] (hw [(125, -1)] G Gh8) G3) Gh46) := by
          intro nF
          induction nF with
          | zero => intro l4_h46 Gh46 yh46_0 yh46_1 ym46; exfalso; omega
          | succ nF ih46 =>
            intro l4_h46 Gh46 yh46_0 yh46_1 ym46
            refine r_ex hX hP 2 (pc' := 49) (st' := [(2, tf1), (0, l4_h46)]) (lo' := [(0, (2, this)), (1, (2, happened)), (2, (0, head)), (3, (2, tf1)), (4, (0, l4_h46))]) rfl ?_
            refine r_getI hX hP rfl fl_X8_268_136 tf1s (fun sf4 sf4e sf4a sf4b => ?_)
            refine r_ic_ge hX hP rfl (tgt := 187) rfl (by first | decide | omega) (by first | decide | omega) (by first | decide | omega) (by first | decide | omega) (fun c5 => ?_) (fun c5 => ?_)
            · skip
              refine r_ex hX hP 2 (pc' := 190) (st' := []) (lo' := [(0, (2, this)), (1, (2, happened)), (2, (0, head)), (3, (2, tf1)), (4, (0, 0))]) rfl ?_
              have loop190 : ∀ (nF : Nat) (l4_h190 : Int) (Gh190 : Gh), 0 ≤ l4_h190 → l4_h190 ≤ 4 → 4 - l4_h190 < (nF : Int) → X 0 0 190 [] [(0, (2, this)), (1, (2, happened)), (2, (0, head)), (3, (2, tf1)), (4, (0, l4_h190))] S (hw [(95, -1), (96, -1), (97, -1)] (hw [(93, -1), (95, -1), (96, -1), (97, -1)] (hw [(119, -1), (126, -1), (127, -1)] (hw [(125, -1)] G Gh8) G3) Gh46) Gh190) := by
                intro nF
                induction nF with
                | zero => intro l4_h190 Gh190 yh190_0 yh190_1 ym190; exfalso; omega
                | succ nF ih190 =>
                  intro l4_h190 Gh190 yh190_0 yh190_1 ym190
                  refine r_ex hX hP 2 (pc' := 193) (st' := [(0, 4), (0, l4_h190)]) (lo' := [(0, (2, this)), (1, (2, happened)), (2, (0, head)), (3, (2, tf1)), (4, (0, l4_h190))]) rfl ?_
                  refine r_ic_ge hX hP rfl (tgt := 225) rfl (by first | decide | omega) (by first | decide | omega) (by first | decide | omega) (by first | decide | omega) (fun c6 => ?_) (fun c6 => ?_)
                  · skip
                    exact r_retV hX hP rfl rfl (by first | decide | omega) (by first | decide | omega) ⟨rfl, ⟨_, (hw_sub (hw_sub (hw_sub (hw_sub (hw_refl _ _) rfl) rfl) rfl) rfl).symm⟩, rfl, trivial⟩
                  · skip
                    refine r_ex hX hP 2 (pc' := 198) (st' := [(2, this), (2, this)]) (lo' := [(0, (2, this)), (1, (2, happened)), (2, (0, head)), (3, (2, tf1)), (4, (0, l4_h190))]) rfl ?_
                    refine r_getR hX hP rfl fl_X8_22_129 hS (fun hf7 hf7e hf7s => ?_)
                    refine r_ex hX hP 1 (pc' := 202) (st' := [(2, happened), (2, hf7), (2, this)]) (lo' := [(0, (2, this)), (1, (2, happened)), (2, (0, head)), (3, (2, tf1)), (4, (0, l4_h190))]) rfl ?_
                    refine r_getI hX hP rfl fl_X8_217_137 happened_s (fun pf8 pf8e pf8a pf8b => ?_)
                    refine r_aald hX hP rfl al_114 rfl hf7s (by first | decide | omega) (by first | decide | omega) (fun r9 r9e r9s => ?_)
                    refine r_ex hX hP 2 (pc' := 209) (st' := [(0, l4_h190), (2, tf1), (2, r9), (2, this)]) (lo' := [(0, (2, this)), (1, (2, happened)), (2, (0, head)), (3, (2, tf1)), (4, (0, l4_h190))]) rfl ?_
                    refine r_callV gd hX hP rfl cv_X8_299_136 tf1s (d' := 3) (mc' := 0) (ms' := 0) (as' := [(0, l4_h190)]) (st := [(2, r9), (2, this)]) (by first | decide | omega) (by first | decide | omega) (by first | decide | omega) rfl rfl (Nat.le_of_ble_eq_true rfl) (c_X9_taken E S (hw [(95, -1), (96, -1), (97, -1)] (hw [(93, -1), (95, -1), (96, -1), (97, -1)] (hw [(119, -1), (126, -1), (127, -1)] (hw [(125, -1)] G Gh8) G3) Gh46) Gh190) tf1 l4_h190 tf1s (by first | decide | omega) (by first | decide | omega)) ?_
                    rintro _ _ _ ⟨rfl, rfl, z10, rfl, z10a, z10b⟩
                    refine r_ex hX hP 1 (pc' := 213) (st' := [(1, (-z10)), (2, r9), (2, this)]) (lo' := [(0, (2, this)), (1, (2, happened)), (2, (0, head)), (3, (2, tf1)), (4, (0, l4_h190))]) rfl ?_
                    refine r_hvL hX (fun w11 w11a w11b w11e => ?_)
                    refine r_ex hX hP 2 (pc' := 216) (st' := [(0, l4_h190), (0, head), (1, w11), (2, r9), (2, this)]) (lo' := [(0, (2, this)), (1, (2, happened)), (2, (0, head)), (3, (2, tf1)), (4, (0, l4_h190))]) rfl ?_
                    refine r_callV gd hX hP rfl cv_X8_286_129 hS (d' := 3) (mc' := 0) (ms' := 0) (as' := [(2, r9), (1, w11), (0, head), (0, l4_h190)]) (st := []) (by first | decide | omega) (by first | decide | omega) (by first | decide | omega) rfl rfl (Nat.le_of_ble_eq_true rfl) (c_X8_hand E S (hw [(95, -1), (96, -1), (97, -1)] (hw [(93, -1), (95, -1), (96, -1), (97, -1)] (hw [(119, -1), (126, -1), (127, -1)] (hw [(125, -1)] G Gh8) G3) Gh46) Gh190) this r9 w11 head l4_h190 hS r9s (by first | decide | omega) (by first | decide | omega) (by first | decide | omega) (by first | decide | omega) (by first | decide | omega) (by first | decide | omega)) ?_
                    rintro _ _ _ ⟨rfl, ⟨G12, rfl⟩, rfl, -⟩
                    refine r_ex hX hP 2 (pc' := 190) (st' := []) (lo' := [(0, (2, this)), (1, (2, happened)), (2, (0, head)), (3, (2, tf1)), (4, (0, (l4_h190 + 1)))]) rfl ?_
                    refine r_eqG (X := X) (hw_sub (hw_base _ _ _) rfl) ?_
                    exact ih190 (l4_h190 + 1) _ (by first | decide | omega) (by first | decide | omega) (by first | decide | omega)
              refine r_eqG (X := X) (hw_refl [(95, -1), (96, -1), (97, -1)] _) ?_
              exact loop190 ((4 - 0) + 1 : Int).toNat 0 _ (by first | decide | omega) (by first | decide | omega) (by first | decide | omega)
            · skip
              refine r_ex hX hP 1 (pc' := 56) (st' := [(2, tf1)]) (lo' := [(0, (2, this)), (1, (2, happened)), (2, (0, head)), (3, (2, tf1)), (4, (0, l4_h46))]) rfl ?_
              refine r_getR hX hP rfl fl_X8_270_136 tf1s (fun lf13 lf13e lf13s => ?_)
              refine r_ex hX hP 1 (pc' := 61) (st' := [(0, l4_h46), (2, lf13)]) (lo' := [(0, (2, this)), (1, (2, happened)), (2, (0, head)), (3, (2, tf1)), (4, (0, l4_h46))]) rfl ?_
              refine r_zald hX hP rfl al_126 lf13s (by first | decide | omega) (by first | decide | omega) (fun x14 x14e x14a x14b => ?_)
              refine r_if_eq hX hP rfl (tgt := 125) rfl (by first | decide | omega) (by first | decide | omega) (fun c15 => ?_) (fun c15 => ?_)
              · skip
                refine r_ex hX hP 1 (pc' := 126) (st' := [(2, tf1)]) (lo' := [(0, (2, this)), (1, (2, happened)), (2, (0, head)), (3, (2, tf1)), (4, (0, l4_h46))]) rfl ?_
                refine r_getKR hX hP rfl fl_X8_270_136 tf1s (x := lf13) lf13e ?_
                refine r_ex hX hP 1 (pc' := 131) (st' := [(0, l4_h46), (2, lf13)]) (lo' := [(0, (2, this)), (1, (2, happened)), (2, (0, head)), (3, (2, tf1)), (4, (0, l4_h46))]) rfl ?_
                refine r_zaldK hX hP rfl al_126 lf13s (by first | decide | omega) (by first | decide | omega) (x := x14) x14e ?_
                refine r_if_eq hX hP rfl (tgt := 158) rfl (by first | decide | omega) (by first | decide | omega) (fun c16 => ?_) (fun c16 => ?_)
                · skip
                  refine r_ex hX hP 2 (pc' := 160) (st' := [(2, this), (2, this)]) (lo' := [(0, (2, this)), (1, (2, happened)), (2, (0, head)), (3, (2, tf1)), (4, (0, l4_h46))]) rfl ?_
                  refine r_getR hX hP rfl fl_X8_28_129 hS (fun pf17 pf17e pf17s => ?_)
                  refine r_ex hX hP 1 (pc' := 164) (st' := [(2, tf1), (2, pf17), (2, this)]) (lo' := [(0, (2, this)), (1, (2, happened)), (2, (0, head)), (3, (2, tf1)), (4, (0, l4_h46))]) rfl ?_
                  refine r_getR hX hP rfl fl_X8_298_136 tf1s (fun pf18 pf18e pf18s => ?_)
                  refine r_ex hX hP 1 (pc' := 169) (st' := [(0, l4_h46), (2, pf18), (2, pf17), (2, this)]) (lo' := [(0, (2, this)), (1, (2, happened)), (2, (0, head)), (3, (2, tf1)), (4, (0, l4_h46))]) rfl ?_
                  refine r_lald hX hP rfl al_127 pf18s (by first | decide | omega) (by first | decide | omega) (fun x19 x19e x19a x19b => ?_)
                  refine r_ex hX hP 2 (pc' := 172) (st' := [(2, tf1), (0, head), (1, x19), (2, pf17), (2, this)]) (lo' := [(0, (2, this)), (1, (2, happened)), (2, (0, head)), (3, (2, tf1)), (4, (0, l4_h46))]) rfl ?_
                  refine r_getR hX hP rfl fl_X8_283_136 tf1s (fun rf20 rf20e rf20s => ?_)
                  refine r_ex hX hP 1 (pc' := 177) (st' := [(0, l4_h46), (2, rf20), (0, head), (1, x19), (2, pf17), (2, this)]) (lo' := [(0, (2, this)), (1, (2, happened)), (2, (0, head)), (3, (2, tf1)), (4, (0, l4_h46))]) rfl ?_
                  refine r_iald hX hP rfl al_122 rf20s (by first | decide | omega) (by first | decide | omega) (fun x21 x21e x21a x21b => ?_)
                  refine r_callV gd hX hP rfl cv_X8_286_129 hS (d' := 3) (mc' := 0) (ms' := 0) (as' := [(2, pf17), (1, x19), (0, head), (0, x21)]) (st := []) (by first | decide | omega) (by first | decide | omega) (by first | decide | omega) rfl rfl (Nat.le_of_ble_eq_true rfl) (c_X8_hand E S (hw [(93, -1), (95, -1), (96, -1), (97, -1)] (hw [(119, -1), (126, -1), (127, -1)] (hw [(125, -1)] G Gh8) G3) Gh46) this pf17 x19 head x21 hS pf17s (by first | decide | omega) (by first | decide | omega) (by first | decide | omega) (by first | decide | omega) (by first | decide | omega) (by first | decide | omega)) ?_
                  rintro _ _ _ ⟨rfl, ⟨G22, rfl⟩, rfl, -⟩
                  refine r_ex hX hP 2 (pc' := 46) (st' := []) (lo' := [(0, (2, this)), (1, (2, happened)), (2, (0, head)), (3, (2, tf1)), (4, (0, (l4_h46 + 1)))]) rfl ?_
                  refine r_eqG (X := X) (hw_sub (hw_base _ _ _) rfl) ?_
                  exact ih46 (l4_h46 + 1) _ (by first | decide | omega) (by first | decide | omega) (by first | decide | omega)
                · skip
                  exfalso; omega
              · skip
                refine r_ex hX hP 1 (pc' := 66) (st' := [(2, tf1)]) (lo' := [(0, (2, this)), (1, (2, happened)), (2, (0, head)), (3, (2, tf1)), (4, (0, l4_h46))]) rfl ?_
                refine r_getR hX hP rfl fl_X8_274_136 tf1s (fun kf23 kf23e kf23s => ?_)
                refine r_ex hX hP 1 (pc' := 71) (st' := [(0, l4_h46), (2, kf23)]) (lo' := [(0, (2, this)), (1, (2, happened)), (2, (0, head)), (3, (2, tf1)), (4, (0, l4_h46))]) rfl ?_
                refine r_iald hX hP rfl al_120 kf23s (by first | decide | omega) (by first | decide | omega) (fun x24 x24e x24a x24b => ?_)
                refine r_if_ne hX hP rfl (tgt := 125) rfl (by first | decide | omega) (by first | decide | omega) (fun c25 => ?_) (fun c25 => ?_)
                · skip
                  refine r_ex hX hP 1 (pc' := 126) (st' := [(2, tf1)]) (lo' := [(0, (2, this)), (1, (2, happened)), (2, (0, head)), (3, (2, tf1)), (4, (0, l4_h46))]) rfl ?_
                  refine r_getKR hX hP rfl fl_X8_270_136 tf1s (x := lf13) lf13e ?_
                  refine r_ex hX hP 1 (pc' := 131) (st' := [(0, l4_h46), (2, lf13)]) (lo' := [(0, (2, this)), (1, (2, happened)), (2, (0, head)), (3, (2, tf1)), (4, (0, l4_h46))]) rfl ?_
                  refine r_zaldK hX hP rfl al_126 lf13s (by first | decide | omega) (by first | decide | omega) (x := x14) x14e ?_
                  refine r_if_eq hX hP rfl (tgt := 158) rfl (by first | decide | omega) (by first | decide | omega) (fun c26 => ?_) (fun c26 => ?_)
                  · skip
                    exfalso; omega
                  · skip
                    refine r_ex hX hP 1 (pc' := 136) (st' := [(2, tf1)]) (lo' := [(0, (2, this)), (1, (2, happened)), (2, (0, head)), (3, (2, tf1)), (4, (0, l4_h46))]) rfl ?_
                    refine r_getKR hX hP rfl fl_X8_274_136 tf1s (x := kf23) kf23e ?_
                    refine r_ex hX hP 1 (pc' := 141) (st' := [(0, l4_h46), (2, kf23)]) (lo' := [(0, (2, this)), (1, (2, happened)), (2, (0, head)), (3, (2, tf1)), (4, (0, l4_h46))]) rfl ?_
                    refine r_ialdK hX hP rfl al_120 kf23s (by first | decide | omega) (by first | decide | omega) (x := x24) x24e ?_
                    refine r_ex hX hP 1 (pc' := 143) (st' := [(0, 4), (0, x24)]) (lo' := [(0, (2, this)), (1, (2, happened)), (2, (0, head)), (3, (2, tf1)), (4, (0, l4_h46))]) rfl ?_
                    refine r_ic_ne hX hP rfl (tgt := 158) rfl (by first | decide | omega) (by first | decide | omega) (by first | decide | omega) (by first | decide | omega) (fun c27 => ?_) (fun c27 => ?_)
                    · skip
                      refine r_ex hX hP 2 (pc' := 160) (st' := [(2, this), (2, this)]) (lo' := [(0, (2, this)), (1, (2, happened)), (2, (0, head)), (3, (2, tf1)), (4, (0, l4_h46))]) rfl ?_
                      refine r_getR hX hP rfl fl_X8_28_129 hS (fun pf28 pf28e pf28s => ?_)
                      refine r_ex hX hP 1 (pc' := 164) (st' := [(2, tf1), (2, pf28), (2, this)]) (lo' := [(0, (2, this)), (1, (2, happened)), (2, (0, head)), (3, (2, tf1)), (4, (0, l4_h46))]) rfl ?_
                      refine r_getR hX hP rfl fl_X8_298_136 tf1s (fun pf29 pf29e pf29s => ?_)
                      refine r_ex hX hP 1 (pc' := 169) (st' := [(0, l4_h46), (2, pf29), (2, pf28), (2, this)]) (lo' := [(0, (2, this)), (1, (2, happened)), (2, (0, head)), (3, (2, tf1)), (4, (0, l4_h46))]) rfl ?_
                      refine r_lald hX hP rfl al_127 pf29s (by first | decide | omega) (by first | decide | omega) (fun x30 x30e x30a x30b => ?_)
                      refine r_ex hX hP 2 (pc' := 172) (st' := [(2, tf1), (0, head), (1, x30), (2, pf28), (2, this)]) (lo' := [(0, (2, this)), (1, (2, happened)), (2, (0, head)), (3, (2, tf1)), (4, (0, l4_h46))]) rfl ?_
                      refine r_getR hX hP rfl fl_X8_283_136 tf1s (fun rf31 rf31e rf31s => ?_)
                      refine r_ex hX hP 1 (pc' := 177) (st' := [(0, l4_h46), (2, rf31), (0, head), (1, x30), (2, pf28), (2, this)]) (lo' := [(0, (2, this)), (1, (2, happened)), (2, (0, head)), (3, (2, tf1)), (4, (0, l4_h46))]) rfl ?_
                      refine r_iald hX hP rfl al_122 rf31s (by first | decide | omega) (by first | decide | omega) (fun x32 x32e x32a x32b => ?_)
                      refine r_callV gd hX hP rfl cv_X8_286_129 hS (d' := 3) (mc' := 0) (ms' := 0) (as' := [(2, pf28), (1, x30), (0, head), (0, x32)]) (st := []) (by first | decide | omega) (by first | decide | omega) (by first | decide | omega) rfl rfl (Nat.le_of_ble_eq_true rfl) (c_X8_hand E S (hw [(93, -1), (95, -1), (96, -1), (97, -1)] (hw [(119, -1), (126, -1), (127, -1)] (hw [(125, -1)] G Gh8) G3) Gh46) this pf28 x30 head x32 hS pf28s (by first | decide | omega) (by first | decide | omega) (by first | decide | omega) (by first | decide | omega) (by first | decide | omega) (by first | decide | omega)) ?_
                      rintro _ _ _ ⟨rfl, ⟨G33, rfl⟩, rfl, -⟩
                      refine r_ex hX hP 2 (pc' := 46) (st' := []) (lo' := [(0, (2, this)), (1, (2, happened)), (2, (0, head)), (3, (2, tf1)), (4, (0, (l4_h46 + 1)))]) rfl ?_
                      refine r_eqG (X := X) (hw_sub (hw_base _ _ _) rfl) ?_
                      exact ih46 (l4_h46 + 1) _ (by first | decide | omega) (by first | decide | omega) (by first | decide | omega)
                    · skip
                      refine r_ex hX hP 2 (pc' := 148) (st' := [(2, happened), (2, this)]) (lo' := [(0, (2, this)), (1, (2, happened)), (2, (0, head)), (3, (2, tf1)), (4, (0, l4_h46))]) rfl ?_
                      refine r_getI hX hP rfl fl_X8_217_137 happened_s (fun pf34 pf34e pf34a pf34b => ?_)
                      refine r_ex hX hP 3 (pc' := 155) (st' := [(0, head), (0, l4_h46), (2, tf1), (0, pf34), (2, this)]) (lo' := [(0, (2, this)), (1, (2, happened)), (2, (0, head)), (3, (2, tf1)), (4, (0, l4_h46))]) rfl ?_
                      refine r_peekR hX (tl_136 5 rfl (by decide)) tf1s (fun qp35 qp35e qp35s => ?_)
                      refine r_apeekI hX al_121 qp35s (i := l4_h46) (by first | decide | omega) (by first | decide | omega) (fun y36 y36e y36a y36b => ?_)
                      have ci38 : CI E S (hw [(93, -1), (95, -1), (96, -1), (97, -1)] (hw [(119, -1), (126, -1), (127, -1)] (hw [(125, -1)] G Gh8) G3) Gh46) := (ci_hw (ci_hw (ci_hw ci rfl) rfl) rfl)
                      have tq37 := ci_tq ci38 tf1s kf23e qp35e x24e y36e (by first | decide | omega) (by first | decide | omega) (by first | decide | omega)
                      refine r_callV gd hX hP rfl cv_X8_294_129 hS (d' := 0) (mc' := 0) (ms' := 0) (as' := [(0, pf34), (2, tf1), (0, l4_h46), (0, head)]) (st := []) (by first | decide | omega) (by first | decide | omega) (by first | decide | omega) rfl rfl (Nat.le_of_ble_eq_true rfl) (c_X8_moveWorth E S (hw [(93, -1), (95, -1), (96, -1), (97, -1)] (hw [(119, -1), (126, -1), (127, -1)] (hw [(125, -1)] G Gh8) G3) Gh46) this pf34 tf1 l4_h46 head hS tf1s qp35 qp35e qp35s y36 y36e (by first | decide | omega) (by first | decide | omega) (by first | decide | omega) (by first | decide | omega) (by first | decide | omega) (by first | decide | omega) (by first | decide | omega) (by first | decide | omega)) ?_
                      rintro _ _ _ ⟨rfl, ⟨G39, rfl⟩, rfl, -⟩
                      refine r_ex hX hP 2 (pc' := 160) (st' := [(2, this), (2, this)]) (lo' := [(0, (2, this)), (1, (2, happened)), (2, (0, head)), (3, (2, tf1)), (4, (0, l4_h46))]) rfl ?_
                      refine r_getR hX hP rfl fl_X8_28_129 hS (fun pf40 pf40e pf40s => ?_)
                      refine r_ex hX hP 1 (pc' := 164) (st' := [(2, tf1), (2, pf40), (2, this)]) (lo' := [(0, (2, this)), (1, (2, happened)), (2, (0, head)), (3, (2, tf1)), (4, (0, l4_h46))]) rfl ?_
                      refine r_getR hX hP rfl fl_X8_298_136 tf1s (fun pf41 pf41e pf41s => ?_)
                      refine r_ex hX hP 1 (pc' := 169) (st' := [(0, l4_h46), (2, pf41), (2, pf40), (2, this)]) (lo' := [(0, (2, this)), (1, (2, happened)), (2, (0, head)), (3, (2, tf1)), (4, (0, l4_h46))]) rfl ?_
                      refine r_lald hX hP rfl al_127 pf41s (by first | decide | omega) (by first | decide | omega) (fun x42 x42e x42a x42b => ?_)
                      refine r_ex hX hP 2 (pc' := 172) (st' := [(2, tf1), (0, head), (1, x42), (2, pf40), (2, this)]) (lo' := [(0, (2, this)), (1, (2, happened)), (2, (0, head)), (3, (2, tf1)), (4, (0, l4_h46))]) rfl ?_
                      refine r_getR hX hP rfl fl_X8_283_136 tf1s (fun rf43 rf43e rf43s => ?_)
                      refine r_ex hX hP 1 (pc' := 177) (st' := [(0, l4_h46), (2, rf43), (0, head), (1, x42), (2, pf40), (2, this)]) (lo' := [(0, (2, this)), (1, (2, happened)), (2, (0, head)), (3, (2, tf1)), (4, (0, l4_h46))]) rfl ?_
                      refine r_iald hX hP rfl al_122 rf43s (by first | decide | omega) (by first | decide | omega) (fun x44 x44e x44a x44b => ?_)
                      refine r_callV gd hX hP rfl cv_X8_286_129 hS (d' := 3) (mc' := 0) (ms' := 0) (as' := [(2, pf40), (1, x42), (0, head), (0, x44)]) (st := []) (by first | decide | omega) (by first | decide | omega) (by first | decide | omega) rfl rfl (Nat.le_of_ble_eq_true rfl) (c_X8_hand E S (hw [(95, -1)] (hw [(93, -1), (95, -1), (96, -1), (97, -1)] (hw [(119, -1), (126, -1), (127, -1)] (hw [(125, -1)] G Gh8) G3) Gh46) G39) this pf40 x42 head x44 hS pf40s (by first | decide | omega) (by first | decide | omega) (by first | decide | omega) (by first | decide | omega) (by first | decide | omega) (by first | decide | omega)) ?_
                      rintro _ _ _ ⟨rfl, ⟨G45, rfl⟩, rfl, -⟩
                      refine r_ex hX hP 2 (pc' := 46) (st' := []) (lo' := [(0, (2, this)), (1, (2, happened)), (2, (0, head)), (3, (2, tf1)), (4, (0, (l4_h46 + 1)))]) rfl ?_
                      refine r_eqG (X := X) (hw_sub (hw_sub (hw_base _ _ _) rfl) rfl) ?_
                      exact ih46 (l4_h46 + 1) _ (by first | decide | omega) (by first | decide | omega) (by first | decide | omega)
                · skip
                  refine r_ex hX hP 2 (pc' := 77) (st' := [(2, this), (2, this)]) (lo' := [(0, (2, this)), (1, (2, happened)), (2, (0, head)), (3, (2, tf1)), (4, (0, l4_h46))]) rfl ?_
                  refine r_getR hX hP rfl fl_X8_22_129 hS (fun hf46 hf46e hf46s => ?_)
                  refine r_ex hX hP 1 (pc' := 81) (st' := [(2, tf1), (2, hf46), (2, this)]) (lo' := [(0, (2, this)), (1, (2, happened)), (2, (0, head)), (3, (2, tf1)), (4, (0, l4_h46))]) rfl ?_
                  refine r_getR hX hP rfl fl_X8_277_136 tf1s (fun qf47 qf47e qf47s => ?_)
                  refine r_ex hX hP 1 (pc' := 86) (st' := [(0, l4_h46), (2, qf47), (2, hf46), (2, this)]) (lo' := [(0, (2, this)), (1, (2, happened)), (2, (0, head)), (3, (2, tf1)), (4, (0, l4_h46))]) rfl ?_
                  refine r_iald hX hP rfl al_121 qf47s (by first | decide | omega) (by first | decide | omega) (fun x48 x48e x48a x48b => ?_)
                  have ci50 : CI E S (hw [(93, -1), (95, -1), (96, -1), (97, -1)] (hw [(119, -1), (126, -1), (127, -1)] (hw [(125, -1)] G Gh8) G3) Gh46) := (ci_hw (ci_hw (ci_hw ci rfl) rfl) rfl)
                  have tq49 := ci_tq ci50 tf1s kf23e qf47e x24e x48e (by first | decide | omega) (by first | decide | omega) (by first | decide | omega)
                  refine r_aald hX hP rfl al_114 rfl hf46s (by first | decide | omega) (by first | decide | omega) (fun r51 r51e r51s => ?_)
                  refine r_ex hX hP 1 (pc' := 89) (st' := [(2, tf1), (2, r51), (2, this)]) (lo' := [(0, (2, this)), (1, (2, happened)), (2, (0, head)), (3, (2, tf1)), (4, (0, l4_h46))]) rfl ?_
                  refine r_getR hX hP rfl fl_X8_280_136 tf1s (fun sf52 sf52e sf52s => ?_)
                  refine r_ex hX hP 1 (pc' := 94) (st' := [(0, l4_h46), (2, sf52), (2, r51), (2, this)]) (lo' := [(0, (2, this)), (1, (2, happened)), (2, (0, head)), (3, (2, tf1)), (4, (0, l4_h46))]) rfl ?_
                  refine r_lald hX hP rfl al_127 sf52s (by first | decide | omega) (by first | decide | omega) (fun x53 x53e x53a x53b => ?_)
                  refine r_ex hX hP 2 (pc' := 97) (st' := [(2, tf1), (0, head), (1, x53), (2, r51), (2, this)]) (lo' := [(0, (2, this)), (1, (2, happened)), (2, (0, head)), (3, (2, tf1)), (4, (0, l4_h46))]) rfl ?_
                  refine r_getR hX hP rfl fl_X8_283_136 tf1s (fun rf54 rf54e rf54s => ?_)
                  refine r_ex hX hP 1 (pc' := 102) (st' := [(0, l4_h46), (2, rf54), (0, head), (1, x53), (2, r51), (2, this)]) (lo' := [(0, (2, this)), (1, (2, happened)), (2, (0, head)), (3, (2, tf1)), (4, (0, l4_h46))]) rfl ?_
                  refine r_iald hX hP rfl al_122 rf54s (by first | decide | omega) (by first | decide | omega) (fun x55 x55e x55a x55b => ?_)
                  refine r_callV gd hX hP rfl cv_X8_286_129 hS (d' := 3) (mc' := 0) (ms' := 0) (as' := [(2, r51), (1, x53), (0, head), (0, x55)]) (st := []) (by first | decide | omega) (by first | decide | omega) (by first | decide | omega) rfl rfl (Nat.le_of_ble_eq_true rfl) (c_X8_hand E S (hw [(93, -1), (95, -1), (96, -1), (97, -1)] (hw [(119, -1), (126, -1), (127, -1)] (hw [(125, -1)] G Gh8) G3) Gh46) this r51 x53 head x55 hS r51s (by first | decide | omega) (by first | decide | omega) (by first | decide | omega) (by first | decide | omega) (by first | decide | omega) (by first | decide | omega)) ?_
                  rintro _ _ _ ⟨rfl, ⟨G56, rfl⟩, rfl, -⟩
                  refine r_ex hX hP 2 (pc' := 108) (st' := [(2, tf1), (2, this)]) (lo' := [(0, (2, this)), (1, (2, happened)), (2, (0, head)), (3, (2, tf1)), (4, (0, l4_h46))]) rfl ?_
                  refine r_getKR hX hP rfl fl_X8_277_136 tf1s (x := qf47) qf47e ?_
                  refine r_ex hX hP 1 (pc' := 113) (st' := [(0, l4_h46), (2, qf47), (2, this)]) (lo' := [(0, (2, this)), (1, (2, happened)), (2, (0, head)), (3, (2, tf1)), (4, (0, l4_h46))]) rfl ?_
                  refine r_ialdK hX hP rfl al_121 qf47s (by first | decide | omega) (by first | decide | omega) (x := x48) x48e ?_
                  refine r_ex hX hP 1 (pc' := 115) (st' := [(2, tf1), (0, x48), (2, this)]) (lo' := [(0, (2, this)), (1, (2, happened)), (2, (0, head)), (3, (2, tf1)), (4, (0, l4_h46))]) rfl ?_
                  refine r_getKR hX hP rfl fl_X8_280_136 tf1s (x := sf52) sf52e ?_
                  refine r_ex hX hP 1 (pc' := 120) (st' := [(0, l4_h46), (2, sf52), (0, x48), (2, this)]) (lo' := [(0, (2, this)), (1, (2, happened)), (2, (0, head)), (3, (2, tf1)), (4, (0, l4_h46))]) rfl ?_
                  refine r_laldK hX hP rfl al_127 sf52s (by first | decide | omega) (by first | decide | omega) (x := x53) x53e ?_
                  refine r_ex hX hP 1 (pc' := 122) (st' := [(0, head), (1, x53), (0, x48), (2, this)]) (lo' := [(0, (2, this)), (1, (2, happened)), (2, (0, head)), (3, (2, tf1)), (4, (0, l4_h46))]) rfl ?_
                  refine r_callV gd hX hP rfl cv_X8_290_129 hS (d' := 0) (mc' := 0) (ms' := 0) (as' := [(0, x48), (1, x53), (0, head)]) (st := []) (by first | decide | omega) (by first | decide | omega) (by first | decide | omega) rfl rfl (Nat.le_of_ble_eq_true rfl) (c_X8_noteGiven E S (hw [(95, -1), (96, -1), (97, -1)] (hw [(93, -1), (95, -1), (96, -1), (97, -1)] (hw [(119, -1), (126, -1), (127, -1)] (hw [(125, -1)] G Gh8) G3) Gh46) G56) this x48 x53 head hS (by first | decide | omega) (by first | decide | omega) (by first | decide | omega) (by first | decide | omega) (by first | decide | omega) (by first | decide | omega)) ?_
                  rintro _ _ _ ⟨rfl, ⟨G57, rfl⟩, rfl, -⟩
                  refine r_ex hX hP 1 (pc' := 126) (st' := [(2, tf1)]) (lo' := [(0, (2, this)), (1, (2, happened)), (2, (0, head)), (3, (2, tf1)), (4, (0, l4_h46))]) rfl ?_
                  refine r_getKR hX hP rfl fl_X8_270_136 tf1s (x := lf13) lf13e ?_
                  refine r_ex hX hP 1 (pc' := 131) (st' := [(0, l4_h46), (2, lf13)]) (lo' := [(0, (2, this)), (1, (2, happened)), (2, (0, head)), (3, (2, tf1)), (4, (0, l4_h46))]) rfl ?_
                  refine r_zaldK hX hP rfl al_126 lf13s (by first | decide | omega) (by first | decide | omega) (x := x14) x14e ?_
                  refine r_if_eq hX hP rfl (tgt := 158) rfl (by first | decide | omega) (by first | decide | omega) (fun c58 => ?_) (fun c58 => ?_)
                  · skip
                    exfalso; omega
                  · skip
                    refine r_ex hX hP 1 (pc' := 136) (st' := [(2, tf1)]) (lo' := [(0, (2, this)), (1, (2, happened)), (2, (0, head)), (3, (2, tf1)), (4, (0, l4_h46))]) rfl ?_
                    refine r_getKR hX hP rfl fl_X8_274_136 tf1s (x := kf23) kf23e ?_
                    refine r_ex hX hP 1 (pc' := 141) (st' := [(0, l4_h46), (2, kf23)]) (lo' := [(0, (2, this)), (1, (2, happened)), (2, (0, head)), (3, (2, tf1)), (4, (0, l4_h46))]) rfl ?_
                    refine r_ialdK hX hP rfl al_120 kf23s (by first | decide | omega) (by first | decide | omega) (x := x24) x24e ?_
                    refine r_ex hX hP 1 (pc' := 143) (st' := [(0, 4), (0, x24)]) (lo' := [(0, (2, this)), (1, (2, happened)), (2, (0, head)), (3, (2, tf1)), (4, (0, l4_h46))]) rfl ?_
                    refine r_ic_ne hX hP rfl (tgt := 158) rfl (by first | decide | omega) (by first | decide | omega) (by first | decide | omega) (by first | decide | omega) (fun c59 => ?_) (fun c59 => ?_)
                    · skip
                      refine r_ex hX hP 2 (pc' := 160) (st' := [(2, this), (2, this)]) (lo' := [(0, (2, this)), (1, (2, happened)), (2, (0, head)), (3, (2, tf1)), (4, (0, l4_h46))]) rfl ?_
                      refine r_getR hX hP rfl fl_X8_28_129 hS (fun pf60 pf60e pf60s => ?_)
                      refine r_ex hX hP 1 (pc' := 164) (st' := [(2, tf1), (2, pf60), (2, this)]) (lo' := [(0, (2, this)), (1, (2, happened)), (2, (0, head)), (3, (2, tf1)), (4, (0, l4_h46))]) rfl ?_
                      refine r_getR hX hP rfl fl_X8_298_136 tf1s (fun pf61 pf61e pf61s => ?_)
                      refine r_ex hX hP 1 (pc' := 169) (st' := [(0, l4_h46), (2, pf61), (2, pf60), (2, this)]) (lo' := [(0, (2, this)), (1, (2, happened)), (2, (0, head)), (3, (2, tf1)), (4, (0, l4_h46))]) rfl ?_
                      refine r_lald hX hP rfl al_127 pf61s (by first | decide | omega) (by first | decide | omega) (fun x62 x62e x62a x62b => ?_)
                      refine r_ex hX hP 2 (pc' := 172) (st' := [(2, tf1), (0, head), (1, x62), (2, pf60), (2, this)]) (lo' := [(0, (2, this)), (1, (2, happened)), (2, (0, head)), (3, (2, tf1)), (4, (0, l4_h46))]) rfl ?_
                      refine r_getKR hX hP rfl fl_X8_283_136 tf1s (x := rf54) rf54e ?_
                      refine r_ex hX hP 1 (pc' := 177) (st' := [(0, l4_h46), (2, rf54), (0, head), (1, x62), (2, pf60), (2, this)]) (lo' := [(0, (2, this)), (1, (2, happened)), (2, (0, head)), (3, (2, tf1)), (4, (0, l4_h46))]) rfl ?_
                      refine r_ialdK hX hP rfl al_122 rf54s (by first | decide | omega) (by first | decide | omega) (x := x55) x55e ?_
                      refine r_callV gd hX hP rfl cv_X8_286_129 hS (d' := 3) (mc' := 0) (ms' := 0) (as' := [(2, pf60), (1, x62), (0, head), (0, x55)]) (st := []) (by first | decide | omega) (by first | decide | omega) (by first | decide | omega) rfl rfl (Nat.le_of_ble_eq_true rfl) (c_X8_hand E S (hw [(93, -1)] (hw [(95, -1), (96, -1), (97, -1)] (hw [(93, -1), (95, -1), (96, -1), (97, -1)] (hw [(119, -1), (126, -1), (127, -1)] (hw [(125, -1)] G Gh8) G3) Gh46) G56) G57) this pf60 x62 head x55 hS pf60s (by first | decide | omega) (by first | decide | omega) (by first | decide | omega) (by first | decide | omega) (by first | decide | omega) (by first | decide | omega)) ?_
                      rintro _ _ _ ⟨rfl, ⟨G63, rfl⟩, rfl, -⟩
                      refine r_ex hX hP 2 (pc' := 46) (st' := []) (lo' := [(0, (2, this)), (1, (2, happened)), (2, (0, head)), (3, (2, tf1)), (4, (0, (l4_h46 + 1)))]) rfl ?_
                      refine r_eqG (X := X) (hw_sub (hw_sub (hw_sub (hw_base _ _ _) rfl) rfl) rfl) ?_
                      exact ih46 (l4_h46 + 1) _ (by first | decide | omega) (by first | decide | omega) (by first | decide | omega)
                    · skip
                      exfalso; omega
        refine r_eqG (X := X) (hw_refl [(93, -1), (95, -1), (96, -1), (97, -1)] _) ?_
        exact loop46 ((30 - 0) + 1 : Int).toNat 0 _ (by first | decide | omega) (by first | decide | omega) (by first | decide | omega)
      · skip
        refine r_ex hX hP 1 (pc' := 15) (st' := [(2, tf1)]) (lo' := [(0, (2, this)), (1, (2, happened)), (2, (0, head)), (3, (2, tf1)), (4, (0, l4_h8))]) rfl ?_
        refine r_getR hX hP rfl fl_X8_262_136 tf1s (fun hf64 hf64e hf64s => ?_)
        refine r_ex hX hP 2 (pc' := 21) (st' := [(2, this), (0, l4_h8), (2, hf64)]) (lo' := [(0, (2, this)), (1, (2, happened)), (2, (0, head)), (3, (2, tf1)), (4, (0, l4_h8))]) rfl ?_
        refine r_getR hX hP rfl fl_X8_45_129 hS (fun af65 af65e af65s => ?_)
        refine r_getR hX hP rfl fl_X8_246_130 af65s (fun af66 af66e af66s => ?_)
        refine r_ex hX hP 1 (pc' := 29) (st' := [(0, l4_h8), (2, af66), (0, l4_h8), (2, hf64)]) (lo' := [(0, (2, this)), (1, (2, happened)), (2, (0, head)), (3, (2, tf1)), (4, (0, l4_h8))]) rfl ?_
        refine r_aald hX hP rfl al_98 rfl af66s (by first | decide | omega) (by first | decide | omega) (fun r67 r67e r67s => ?_)
        refine r_ex hX hP 1 (pc' := 31) (st' := [(0, head), (2, r67), (0, l4_h8), (2, hf64)]) (lo' := [(0, (2, this)), (1, (2, happened)), (2, (0, head)), (3, (2, tf1)), (4, (0, l4_h8))]) rfl ?_
        refine r_lald hX hP rfl al_95 r67s (by first | decide | omega) (by first | decide | omega) (fun x68 x68e x68a x68b => ?_)
        refine r_lastK hX hP rfl al_125 hf64s (by first | decide | omega) (by first | decide | omega) (by first | decide | omega) (by first | decide | omega) (fun h69 => ?_)
        refine r_ex hX hP 2 (pc' := 8) (st' := []) (lo' := [(0, (2, this)), (1, (2, happened)), (2, (0, head)), (3, (2, tf1)), (4, (0, (l4_h8 + 1)))]) rfl ?_
        refine r_eqG (X := X) (hw_up (hw_base _ _ _) rfl) ?_
        exact ih8 (l4_h8 + 1) _ (by first | decide | omega) (by first | decide | omega) (by first | decide | omega)
  refine r_eqG (X := X) (hw_refl [(125, -1)] _) ?_
  exact loop8 ((4 - 0) + 1 : Int).toNat 0 _ (by first | decide | omega) (by first | decide | omega) (by first | decide | omega)
set_option maxRecDepth 100000 in
set_option maxHeartbeats 4000000 in
theorem c_X8_runEvent (E : En) (S : Sg) (G : Gh) (this : Int) (happened : Int) (number : Int) (hS : S this = 129) (happened_s : S happened = 137) (evl : Int) (evl_e : evl = G 129 this 12) (evl_s : S evl = 156) (evn : Int) (evn_e : evn = G 156 evl 2) (number_a : 0 ≤ number) (number_b : number ≤ 15) (pre0 : number + 1 ≤ evn) (ci : CI E S G) : Calls E mX8_runEvent [(2, this), (2, happened), (0, number)] S G 5 0 0 (fun r S' G' => S = S' ∧ (∃ G1, hw [(93, -1), (95, -1), (96, -1), (97, -1), (116, -1), (119, -1), (125, -1), (126, -1), (127, -1), (129, 2)] G G1 = G') ∧ r = none ∧ True) := by
  refine calls_by [(0, (2, this)), (1, (2, happened)), (2, (0, number))] rfl rfl (Nat.le_of_ble_eq_true rfl) (fun X hX => ?_)
  have hP := hPX8_runEvent
  refine r_peekI hX (tl_156 2 rfl (by decide)) evl_s (fun evn_o evn_oe evn_oa evn_ob => ?_)
  obtain rfl : evn = evn_o := evn_e.trans evn_oe.symm
  refine r_ex hX hP 3 (pc' := 3) (st' := [(0, number), (2, happened), (2, this)]) (lo' := [(0, (2, this)), (1, (2, happened)), (2, (0, number))]) rfl ?_
  refine r_callV gd hX hP rfl cv_X8_197_129 hS (d' := 4) (mc' := 0) (ms' := 0) (as' := [(2, happened), (0, number)]) (st := []) (by first | decide | omega) (by first | decide | omega) (by first | decide | omega) rfl rfl (Nat.le_of_ble_eq_true rfl) (c_X8_sortShares E S G this happened number hS happened_s evl evl_e evl_s evn evn_e (by first | decide | omega) (by first | decide | omega) (by first | decide | omega) ci) ?_
  rintro _ _ _ ⟨rfl, ⟨G1, rfl⟩, rfl, -⟩
  refine r_ex hX hP 1 (pc' := 7) (st' := [(2, this)]) (lo' := [(0, (2, this)), (1, (2, happened)), (2, (0, number))]) rfl ?_
  refine r_getR hX hP rfl fl_X8_45_129 hS (fun af2 af2e af2s => ?_)
  refine r_callV gd hX hP rfl cv_X8_200_130 af2s (d' := 1) (mc' := 0) (ms' := 0) (as' := []) (st := []) (by first | decide | omega) (by first | decide | omega) (by first | decide | omega) rfl rfl (Nat.le_of_ble_eq_true rfl) (c_X0_rollRows E S (hw [(95, -1)] G G1) af2  af2s) ?_
  rintro _ _ _ ⟨rfl, ⟨G3, rfl⟩, rfl, -⟩
  refine r_ex hX hP 2 (pc' := 15) (st' := [(2, happened), (2, this)]) (lo' := [(0, (2, this)), (1, (2, happened)), (2, (0, number))]) rfl ?_
  refine r_getR hX hP rfl fl_X8_168_137 happened_s (fun tf4 tf4e tf4s => ?_)
  refine r_callV gd hX hP rfl cv_X8_203_129 hS (d' := 3) (mc' := 0) (ms' := 0) (as' := [(2, tf4)]) (st := []) (by first | decide | omega) (by first | decide | omega) (by first | decide | omega) rfl rfl (Nat.le_of_ble_eq_true rfl) (c_X8_cutBack E S (hw [(95, -1)] (hw [(95, -1)] G G1) G3) this tf4 hS tf4s) ?_
  rintro _ _ _ ⟨rfl, ⟨G5, rfl⟩, rfl, -⟩
  refine r_ex hX hP 1 (pc' := 22) (st' := [(2, this)]) (lo' := [(0, (2, this)), (1, (2, happened)), (2, (0, number))]) rfl ?_
  refine r_getKR hX hP rfl fl_X8_45_129 hS (x := af2) af2e ?_
  refine r_callV gd hX hP rfl cv_X8_200_130 af2s (d' := 1) (mc' := 0) (ms' := 0) (as' := []) (st := []) (by first | decide | omega) (by first | decide | omega) (by first | decide | omega) rfl rfl (Nat.le_of_ble_eq_true rfl) (c_X0_rollRows E S (hw [(95, -1), (96, -1), (97, -1)] (hw [(95, -1)] (hw [(95, -1)] G G1) G3) G5) af2  af2s) ?_
  rintro _ _ _ ⟨rfl, ⟨G6, rfl⟩, rfl, -⟩
  refine r_ex hX hP 2 (pc' := 30) (st' := []) (lo' := [(0, (2, this)), (1, (2, happened)), (2, (0, number)), (3, (0, 0))]) rfl ?_
  have loop30 : ∀ (nF : Nat) (l3_h30 : Int) (Gh30 : Gh), 0 ≤ l3_h30 → l3_h30 ≤ 3 → 3 - l3_h30 < (nF : Int) → X 0 0 30 [] [(0, (2, this)), (1, (2, happened)), (2, (0, number)), (3, (0, l3_h30))] S (hw [(116, -1)] (hw [(95, -1)] (hw [(95, -1), (96, -1), (97, -1)] (hw [(95, -1)] (hw [(95, -1)] G G1) G3) G5) G6) Gh30) := by
    intro nF
    induction nF with
    | zero => intro l3_h30 Gh30 yh30_0 yh30_1 ym30; exfalso; omega
    | succ nF ih30 =>
      intro l3_h30 Gh30 yh30_0 yh30_1 ym30
      refine r_ex hX hP 2 (pc' := 32) (st' := [(0, 3), (0, l3_h30)]) (lo' := [(0, (2, this)), (1, (2, happened)), (2, (0, number)), (3, (0, l3_h30))]) rfl ?_
      refine r_ic_ge hX hP rfl (tgt := 88) rfl (by first | decide | omega) (by first | decide | omega) (by first | decide | omega) (by first | decide | omega) (fun c7 => ?_) (fun c7 => ?_)
      · skip
        refine r_ex hX hP 1 (pc' := 89) (st' := [(2, this)]) (lo' := [(0, (2, this)), (1, (2, happened)), (2, (0, number)), (3, (0, l3_h30))]) rfl ?_
        refine r_getR hX hP rfl fl_X8_74_129 hS (fun ff8 ff8e ff8s => ?_)
        refine r_ex hX hP 1 (pc' := 93) (st' := [(0, (-1)), (2, ff8)]) (lo' := [(0, (2, this)), (1, (2, happened)), (2, (0, number)), (3, (0, l3_h30))]) rfl ?_
        refine r_callS gd hX hP rfl cs_X8_123 (d' := 0) (mc' := 0) (ms' := 0) (as' := [(2, ff8), (0, (-1))]) (st := []) (by first | decide | omega) (by first | decide | omega) (by first | decide | omega) rfl rfl (Nat.le_of_ble_eq_true rfl) (c_fillI_I20k E S (hw [(116, -1)] (hw [(95, -1)] (hw [(95, -1), (96, -1), (97, -1)] (hw [(95, -1)] (hw [(95, -1)] G G1) G3) G5) G6) Gh30) ff8 (-1) ff8s (by first | decide | omega) (by first | decide | omega)) ?_
        rintro _ _ _ ⟨rfl, ⟨G9, rfl⟩, rfl, -⟩
        refine r_ex hX hP 2 (pc' := 98) (st' := []) (lo' := [(0, (2, this)), (1, (2, happened)), (2, (0, number)), (3, (0, 0))]) rfl ?_
        have loop98 : ∀ (nF : Nat) (l3_h98 : Int) (Gh98 : Gh), 0 ≤ l3_h98 → l3_h98 ≤ 20 → 20 - l3_h98 < (nF : Int) → X 0 0 98 [] [(0, (2, this)), (1, (2, happened)), (2, (0, number)), (3, (0, l3_h98))] S (hw [(93, -1), (95, -1), (96, -1), (97, -1), (119, -1), (125, -1), (126, -1), (127, -1)] (hw [(93, -1)] (hw [(116, -1)] (hw [(95, -1)] (hw [(95, -1), (96, -1), (97, -1)] (hw [(95, -1)] (hw [(95, -1)] G G1) G3) G5) G6) Gh30) G9) Gh98) := by
          intro nF
          induction nF with
          | zero => intro l3_h98 Gh98 yh98_0 yh98_1 ym98; exfalso; omega
          | succ nF ih98 =>
            intro l3_h98 Gh98 yh98_0 yh98_1 ym98
            refine r_ex hX hP 2 (pc' := 100) (st' := [(2, this), (0, l3_h98)]) (lo' := [(0, (2, this)), (1, (2, happened)), (2, (0, number)), (3, (0, l3_h98))]) rfl ?_
            refine r_getKR hX hP rfl fl_X8_45_129 hS (x := af2) af2e ?_
            refine r_getI hX hP rfl fl_X8_207_130 af2s (fun cf10 cf10e cf10a cf10b => ?_)
            refine r_ic_ge hX hP rfl (tgt := 134) rfl (by first | decide | omega) (by first | decide | omega) (by first | decide | omega) (by first | decide | omega) (fun c11 => ?_) (fun c11 => ?_)
            · skip
              refine r_ex hX hP 2 (pc' := 136) (st' := [(2, happened), (2, this)]) (lo' := [(0, (2, this)), (1, (2, happened)), (2, (0, number)), (3, (0, l3_h98))]) rfl ?_
              refine r_getI hX hP rfl fl_X8_217_137 happened_s (fun pf12 pf12e pf12a pf12b => ?_)
              refine r_callV gd hX hP rfl cv_X8_218_129 hS (d' := 0) (mc' := 0) (ms' := 0) (as' := [(0, pf12)]) (st := []) (by first | decide | omega) (by first | decide | omega) (by first | decide | omega) rfl rfl (Nat.le_of_ble_eq_true rfl) (c_X8_moveLeftWorth E S (hw [(93, -1), (95, -1), (96, -1), (97, -1), (119, -1), (125, -1), (126, -1), (127, -1)] (hw [(93, -1)] (hw [(116, -1)] (hw [(95, -1)] (hw [(95, -1), (96, -1), (97, -1)] (hw [(95, -1)] (hw [(95, -1)] G G1) G3) G5) G6) Gh30) G9) Gh98) this pf12 hS (by first | decide | omega) (by first | decide | omega)) ?_
              rintro _ _ _ ⟨rfl, ⟨G13, rfl⟩, rfl, -⟩
              refine r_ex hX hP 1 (pc' := 143) (st' := [(2, this)]) (lo' := [(0, (2, this)), (1, (2, happened)), (2, (0, number)), (3, (0, l3_h98))]) rfl ?_
              refine r_callV gd hX hP rfl cv_X8_222_129 hS (d' := 1) (mc' := 0) (ms' := 0) (as' := []) (st := []) (by first | decide | omega) (by first | decide | omega) (by first | decide | omega) rfl rfl (Nat.le_of_ble_eq_true rfl) (c_X8_watch E S (hw [(95, -1)] (hw [(93, -1), (95, -1), (96, -1), (97, -1), (119, -1), (125, -1), (126, -1), (127, -1)] (hw [(93, -1)] (hw [(116, -1)] (hw [(95, -1)] (hw [(95, -1), (96, -1), (97, -1)] (hw [(95, -1)] (hw [(95, -1)] G G1) G3) G5) G6) Gh30) G9) Gh98) G13) this  hS) ?_
              rintro _ _ _ ⟨rfl, ⟨G14, rfl⟩, rfl, -⟩
              exact r_retV hX hP rfl rfl (by first | decide | omega) (by first | decide | omega) ⟨rfl, ⟨_, (hw_sub (hw_sub (hw_sub (hw_sub (hw_sub (hw_sub (hw_sub (hw_sub (hw_sub (hw_refl _ _) rfl) rfl) rfl) rfl) rfl) rfl) rfl) rfl) rfl).symm⟩, rfl, trivial⟩
            · skip
              refine r_ex hX hP 1 (pc' := 110) (st' := [(2, this)]) (lo' := [(0, (2, this)), (1, (2, happened)), (2, (0, number)), (3, (0, l3_h98))]) rfl ?_
              refine r_getKR hX hP rfl fl_X8_45_129 hS (x := af2) af2e ?_
              refine r_getR hX hP rfl fl_X8_211_130 af2s (fun tf15 tf15e tf15s => ?_)
              refine r_ex hX hP 1 (pc' := 117) (st' := [(0, l3_h98), (2, tf15)]) (lo' := [(0, (2, this)), (1, (2, happened)), (2, (0, number)), (3, (0, l3_h98))]) rfl ?_
              refine r_iald hX hP rfl al_94 tf15s (by first | decide | omega) (by first | decide | omega) (fun x16 x16e x16a x16b => ?_)
              refine r_ex hX hP 1 (pc' := 119) (st' := [(0, l3_h98), (0, x16)]) (lo' := [(0, (2, this)), (1, (2, happened)), (2, (0, number)), (3, (0, l3_h98))]) rfl ?_
              refine r_ic_ne hX hP rfl (tgt := 128) rfl (by first | decide | omega) (by first | decide | omega) (by first | decide | omega) (by first | decide | omega) (fun c17 => ?_) (fun c17 => ?_)
              · skip
                refine r_ex hX hP 2 (pc' := 98) (st' := []) (lo' := [(0, (2, this)), (1, (2, happened)), (2, (0, number)), (3, (0, (l3_h98 + 1)))]) rfl ?_
                refine r_eqG (X := X) (hw_base _ _ _) ?_
                exact ih98 (l3_h98 + 1) _ (by first | decide | omega) (by first | decide | omega) (by first | decide | omega)
              · skip
                refine r_ex hX hP 3 (pc' := 125) (st' := [(0, l3_h98), (2, happened), (2, this)]) (lo' := [(0, (2, this)), (1, (2, happened)), (2, (0, number)), (3, (0, l3_h98))]) rfl ?_
                have ci18 : CI E S (hw [(93, -1), (95, -1), (96, -1), (97, -1), (119, -1), (125, -1), (126, -1), (127, -1)] (hw [(93, -1)] (hw [(116, -1)] (hw [(95, -1)] (hw [(95, -1), (96, -1), (97, -1)] (hw [(95, -1)] (hw [(95, -1)] G G1) G3) G5) G6) Gh30) G9) Gh98) := (ci_hw (ci_hw (ci_hw (ci_hw (ci_hw (ci_hw (ci_hw ci rfl) rfl) rfl) rfl) rfl) rfl) rfl)
                refine r_callV gd hX hP rfl cv_X8_214_129 hS (d' := 4) (mc' := 0) (ms' := 0) (as' := [(2, happened), (0, l3_h98)]) (st := []) (by first | decide | omega) (by first | decide | omega) (by first | decide | omega) rfl rfl (Nat.le_of_ble_eq_true rfl) (c_X8_serve E S (hw [(93, -1), (95, -1), (96, -1), (97, -1), (119, -1), (125, -1), (126, -1), (127, -1)] (hw [(93, -1)] (hw [(116, -1)] (hw [(95, -1)] (hw [(95, -1), (96, -1), (97, -1)] (hw [(95, -1)] (hw [(95, -1)] G G1) G3) G5) G6) Gh30) G9) Gh98) this happened l3_h98 hS happened_s (by first | decide | omega) (by first | decide | omega) ci18) ?_
                rintro _ _ _ ⟨rfl, ⟨G19, rfl⟩, rfl, -⟩
                refine r_ex hX hP 2 (pc' := 98) (st' := []) (lo' := [(0, (2, this)), (1, (2, happened)), (2, (0, number)), (3, (0, (l3_h98 + 1)))]) rfl ?_
                refine r_eqG (X := X) (hw_sub (hw_base _ _ _) rfl) ?_
                exact ih98 (l3_h98 + 1) _ (by first | decide | omega) (by first | decide | omega) (by first | decide | omega)
        refine r_eqG (X := X) (hw_refl [(93, -1), (95, -1), (96, -1), (97, -1), (119, -1), (125, -1), (126, -1), (127, -1)] _) ?_
        exact loop98 ((20 - 0) + 1 : Int).toNat 0 _ (by first | decide | omega) (by first | decide | omega) (by first | decide | omega)
      · skip
        refine r_ex hX hP 2 (pc' := 38) (st' := []) (lo' := [(0, (2, this)), (1, (2, happened)), (2, (0, number)), (3, (0, l3_h30)), (4, (0, 0))]) rfl ?_
        have loop38 : ∀ (nF : Nat) (l4_h38 : Int) (Gh38 : Gh), 0 ≤ l4_h38 → l4_h38 ≤ 20 → 20 - l4_h38 < (nF : Int) → X 0 0 38 [] [(0, (2, this)), (1, (2, happened)), (2, (0, number)), (3, (0, l3_h30)), (4, (0, l4_h38))] S (hw [(116, -1)] (hw [(116, -1)] (hw [(95, -1)] (hw [(95, -1), (96, -1), (97, -1)] (hw [(95, -1)] (hw [(95, -1)] G G1) G3) G5) G6) Gh30) Gh38) := by
          intro nF
          induction nF with
          | zero => intro l4_h38 Gh38 yh38_0 yh38_1 ym38; exfalso; omega
          | succ nF ih38 =>
            intro l4_h38 Gh38 yh38_0 yh38_1 ym38
            refine r_ex hX hP 2 (pc' := 41) (st' := [(2, this), (0, l4_h38)]) (lo' := [(0, (2, this)), (1, (2, happened)), (2, (0, number)), (3, (0, l3_h30)), (4, (0, l4_h38))]) rfl ?_
            refine r_getKR hX hP rfl fl_X8_45_129 hS (x := af2) af2e ?_
            refine r_getI hX hP rfl fl_X8_207_130 af2s (fun cf20 cf20e cf20a cf20b => ?_)
            refine r_ic_ge hX hP rfl (tgt := 82) rfl (by first | decide | omega) (by first | decide | omega) (by first | decide | omega) (by first | decide | omega) (fun c21 => ?_) (fun c21 => ?_)
            · skip
              refine r_ex hX hP 2 (pc' := 30) (st' := []) (lo' := [(0, (2, this)), (1, (2, happened)), (2, (0, number)), (3, (0, (l3_h30 + 1))), (4, (0, l4_h38))]) rfl ?_
              refine r_pick hX [0, 1, 2, 3] (lo' := [(0, (2, this)), (1, (2, happened)), (2, (0, number)), (3, (0, (l3_h30 + 1)))]) rfl ?_
              refine r_eqG (X := X) (hw_sub (hw_base _ _ _) rfl) ?_
              exact ih30 (l3_h30 + 1) _ (by first | decide | omega) (by first | decide | omega) (by first | decide | omega)
            · skip
              refine r_ex hX hP 1 (pc' := 51) (st' := [(2, this)]) (lo' := [(0, (2, this)), (1, (2, happened)), (2, (0, number)), (3, (0, l3_h30)), (4, (0, l4_h38))]) rfl ?_
              refine r_getR hX hP rfl fl_X8_39_129 hS (fun kf22 kf22e kf22s => ?_)
              refine r_ex hX hP 1 (pc' := 55) (st' := [(0, number), (2, kf22)]) (lo' := [(0, (2, this)), (1, (2, happened)), (2, (0, number)), (3, (0, l3_h30)), (4, (0, l4_h38))]) rfl ?_
              refine r_aald hX hP rfl al_117 rfl kf22s (by first | decide | omega) (by first | decide | omega) (fun r23 r23e r23s => ?_)
              refine r_ex hX hP 6 (pc' := 64) (st' := [(2, this), (0, ((l3_h30 * 20) + l4_h38)), (2, r23)]) (lo' := [(0, (2, this)), (1, (2, happened)), (2, (0, number)), (3, (0, l3_h30)), (4, (0, l4_h38))]) rfl ?_
              refine r_getKR hX hP rfl fl_X8_45_129 hS (x := af2) af2e ?_
              refine r_getR hX hP rfl fl_X8_208_130 af2s (fun mf24 mf24e mf24s => ?_)
              refine r_ex hX hP 1 (pc' := 71) (st' := [(0, l3_h30), (2, mf24), (0, ((l3_h30 * 20) + l4_h38)), (2, r23)]) (lo' := [(0, (2, this)), (1, (2, happened)), (2, (0, number)), (3, (0, l3_h30)), (4, (0, l4_h38))]) rfl ?_
              refine r_aald hX hP rfl al_98 rfl mf24s (by first | decide | omega) (by first | decide | omega) (fun r25 r25e r25s => ?_)
              refine r_ex hX hP 1 (pc' := 74) (st' := [(0, l4_h38), (2, r25), (0, ((l3_h30 * 20) + l4_h38)), (2, r23)]) (lo' := [(0, (2, this)), (1, (2, happened)), (2, (0, number)), (3, (0, l3_h30)), (4, (0, l4_h38))]) rfl ?_
              refine r_lald hX hP rfl al_95 r25s (by first | decide | omega) (by first | decide | omega) (fun x26 x26e x26a x26b => ?_)
              refine r_lastK hX hP rfl al_116 r23s (by first | decide | omega) (by first | decide | omega) (by first | decide | omega) (by first | decide | omega) (fun h27 => ?_)
              refine r_ex hX hP 2 (pc' := 38) (st' := []) (lo' := [(0, (2, this)), (1, (2, happened)), (2, (0, number)), (3, (0, l3_h30)), (4, (0, (l4_h38 + 1)))]) rfl ?_
              refine r_eqG (X := X) (hw_up (hw_base _ _ _) rfl) ?_
              exact ih38 (l4_h38 + 1) _ (by first | decide | omega) (by first | decide | omega) (by first | decide | omega)
        refine r_eqG (X := X) (hw_refl [(116, -1)] _) ?_
        exact loop38 ((20 - 0) + 1 : Int).toNat 0 _ (by first | decide | omega) (by first | decide | omega) (by first | decide | omega)
  refine r_eqG (X := X) (hw_refl [(116, -1)] _) ?_
  exact loop30 ((3 - 0) + 1 : Int).toNat 0 _ (by first | decide | omega) (by first | decide | omega) (by first | decide | omega)
set_option maxRecDepth 100000 in
set_option maxHeartbeats 4000000 in
theorem c_X8_to (E : En) (S : Sg) (G : Gh) (this : Int) (day : Int) (hS : S this = 129) (day_a : (-2147483648) ≤ day) (day_b : day ≤ 2147483647) (ci : CI E S G) : Calls E mX8_to [(2, this), (0, day)] S G 6 0 0 (fun r S' G' => S = S' ∧ (∃ G1, hw [(93, -1), (95, -1), (96, -1), (97, -1), (115, -1), (116, -1), (118, -1), (119, -1), (125, -1), (126, -1), (127, -1), (129, 1), (129, 2), (129, 15), (129, 16)] G G1 = G') ∧ r = none ∧ True) := by
  refine calls_by [(0, (2, this)), (1, (0, day))] rfl rfl (Nat.le_of_ble_eq_true rfl) (fun X hX => ?_)
  have hP := hPX8_to
  refine r_ex hX hP 1 (pc' := 1) (st' := [(2, this)]) (lo' := [(0, (2, this)), (1, (0, day))]) rfl ?_
  refine r_getI hX hP rfl fl_X8_16_129 hS (fun sf1 sf1e sf1a sf1b => ?_)
  refine r_if_ne hX hP rfl (tgt := 28) rfl (by first | decide | omega) (by first | decide | omega) (fun c2 => ?_) (fun c2 => ?_)
  · skip
    refine r_ex hX hP 1 (pc' := 29) (st' := [(2, this)]) (lo' := [(0, (2, this)), (1, (0, day))]) rfl ?_
    refine r_callV gd hX hP rfl cv_X8_84_129 hS (d' := 3) (mc' := 0) (ms' := 0) (as' := []) (st := []) (by first | decide | omega) (by first | decide | omega) (by first | decide | omega) rfl rfl (Nat.le_of_ble_eq_true rfl) (c_X8_restart E S G this  hS ci) ?_
    rintro _ _ _ ⟨rfl, ⟨G3, rfl⟩, rfl, neh4, neh4e, f5⟩
    refine r_peekI hX (tl_129 16 rfl (by decide)) hS (fun o6 o6e o6a o6b => ?_)
    obtain rfl : neh4 = o6 := neh4e.trans o6e.symm
    have x203 : ∀ (next_x203 : Int) (Gx203 : Gh), next_x203 = (hw [(93, -1), (95, -1), (96, -1), (97, -1), (115, -1), (116, -1), (119, -1), (125, -1), (126, -1), (127, -1), (129, 2), (129, 16)] (hw [(95, -1), (115, -1), (118, -1), (129, 1), (129, 2), (129, 15), (129, 16)] G G3) Gx203) 129 this 16 → 0 ≤ next_x203 → next_x203 ≤ 96 → X 0 0 203 [] [(0, (2, this)), (1, (0, day))] S (hw [(93, -1), (95, -1), (96, -1), (97, -1), (115, -1), (116, -1), (119, -1), (125, -1), (126, -1), (127, -1), (129, 2), (129, 16)] (hw [(95, -1), (115, -1), (118, -1), (129, 1), (129, 2), (129, 15), (129, 16)] G G3) Gx203) := by
      intro next_x203 Gx203 next_x203_e yx203_0 yx203_1
      exact r_retV hX hP rfl rfl (by first | decide | omega) (by first | decide | omega) ⟨rfl, ⟨_, (hw_sub (hw_sub (hw_refl _ _) rfl) rfl).symm⟩, rfl, trivial⟩
    have loop32 : ∀ (nF : Nat) (next_h32 : Int) (Gh32 : Gh), next_h32 = (hw [(93, -1), (95, -1), (96, -1), (97, -1), (115, -1), (116, -1), (119, -1), (125, -1), (126, -1), (127, -1), (129, 2), (129, 16)] (hw [(95, -1), (115, -1), (118, -1), (129, 1), (129, 2), (129, 15), (129, 16)] G G3) Gh32) 129 this 16 → 0 ≤ next_h32 → next_h32 ≤ 96 → 96 - next_h32 < (nF : Int) → X 0 0 32 [] [(0, (2, this)), (1, (0, day))] S (hw [(93, -1), (95, -1), (96, -1), (97, -1), (115, -1), (116, -1), (119, -1), (125, -1), (126, -1), (127, -1), (129, 2), (129, 16)] (hw [(95, -1), (115, -1), (118, -1), (129, 1), (129, 2), (129, 15), (129, 16)] G G3) Gh32) := by
      intro nF
      induction nF with
      | zero => intro next_h32 Gh32 next_h32_e yh32_0 yh32_1 ym32; exfalso; omega
      | succ nF ih32 =>
        intro next_h32 Gh32 next_h32_e yh32_0 yh32_1 ym32
        refine r_ex hX hP 1 (pc' := 33) (st' := [(2, this)]) (lo' := [(0, (2, this)), (1, (0, day))]) rfl ?_
        refine r_getKI hX hP rfl fl_X8_77_129 hS (x := next_h32) next_h32_e ?_
        refine r_ex hX hP 1 (pc' := 37) (st' := [(2, this), (0, next_h32)]) (lo' := [(0, (2, this)), (1, (0, day))]) rfl ?_
        refine r_getI hX hP rfl fl_X8_87_129 hS (fun cf7 cf7e cf7a cf7b => ?_)
        refine r_ic_ge hX hP rfl (tgt := 203) rfl (by first | decide | omega) (by first | decide | omega) (by first | decide | omega) (by first | decide | omega) (fun c8 => ?_) (fun c8 => ?_)
        · skip
          refine r_eqG (X := X) (hw_sub (hw_refl [(93, -1), (95, -1), (96, -1), (97, -1), (115, -1), (116, -1), (119, -1), (125, -1), (126, -1), (127, -1), (129, 2), (129, 16)] _) rfl) ?_
          exact x203 next_h32 _ next_h32_e (by first | decide | omega) (by first | decide | omega)
        · skip
          refine r_ex hX hP 1 (pc' := 44) (st' := [(2, this)]) (lo' := [(0, (2, this)), (1, (0, day))]) rfl ?_
          refine r_getI hX hP rfl fl_X8_90_129 hS (fun of9 of9e of9a of9b => ?_)
          refine r_if_ne hX hP rfl (tgt := 203) rfl (by first | decide | omega) (by first | decide | omega) (fun c10 => ?_) (fun c10 => ?_)
          · skip
            refine r_eqG (X := X) (hw_sub (hw_refl [(93, -1), (95, -1), (96, -1), (97, -1), (115, -1), (116, -1), (119, -1), (125, -1), (126, -1), (127, -1), (129, 2), (129, 16)] _) rfl) ?_
            exact x203 next_h32 _ next_h32_e (by first | decide | omega) (by first | decide | omega)
          · skip
            refine r_ex hX hP 2 (pc' := 52) (st' := [(2, this), (2, this)]) (lo' := [(0, (2, this)), (1, (0, day))]) rfl ?_
            refine r_getKI hX hP rfl fl_X8_77_129 hS (x := next_h32) next_h32_e ?_
            refine r_callV gd hX hP rfl cv_X8_80_129 hS (d' := 0) (mc' := 0) (ms' := 0) (as' := [(0, next_h32)]) (st := []) (by first | decide | omega) (by first | decide | omega) (by first | decide | omega) rfl rfl (Nat.le_of_ble_eq_true rfl) (c_X8_dayAt E S (hw [(93, -1), (95, -1), (96, -1), (97, -1), (115, -1), (116, -1), (119, -1), (125, -1), (126, -1), (127, -1), (129, 2), (129, 16)] (hw [(95, -1), (115, -1), (118, -1), (129, 1), (129, 2), (129, 15), (129, 16)] G G3) Gh32) this next_h32 hS (by first | decide | omega) (by first | decide | omega)) ?_
            rintro _ _ _ ⟨rfl, rfl, z11, rfl, z11a, z11b⟩
            refine r_ex hX hP 1 (pc' := 59) (st' := [(0, day), (0, z11)]) (lo' := [(0, (2, this)), (1, (0, day))]) rfl ?_
            refine r_ic_gt hX hP rfl (tgt := 203) rfl (by first | decide | omega) (by first | decide | omega) (by first | decide | omega) (by first | decide | omega) (fun c12 => ?_) (fun c12 => ?_)
            · skip
              refine r_eqG (X := X) (hw_sub (hw_refl [(93, -1), (95, -1), (96, -1), (97, -1), (115, -1), (116, -1), (119, -1), (125, -1), (126, -1), (127, -1), (129, 2), (129, 16)] _) rfl) ?_
              exact x203 next_h32 _ next_h32_e (by first | decide | omega) (by first | decide | omega)
            · skip
              refine r_ex hX hP 1 (pc' := 63) (st' := [(2, this)]) (lo' := [(0, (2, this)), (1, (0, day))]) rfl ?_
              refine r_getR hX hP rfl fl_X8_65_129 hS (fun of13 of13e of13s => ?_)
              refine r_ex hX hP 1 (pc' := 67) (st' := [(2, this), (2, of13)]) (lo' := [(0, (2, this)), (1, (0, day))]) rfl ?_
              refine r_getKI hX hP rfl fl_X8_77_129 hS (x := next_h32) next_h32_e ?_
              refine r_iald hX hP rfl al_118 of13s (by first | decide | omega) (by first | decide | omega) (fun x14 x14e x14a x14b => ?_)
              refine r_ex hX hP 1 (pc' := 73) (st' := [(0, 64), (0, x14)]) (lo' := [(0, (2, this)), (1, (0, day))]) rfl ?_
              refine r_idiv hX hP rfl (by first | decide | omega) (by first | decide | omega) (by first | decide | omega) (by first | decide | omega) (by first | decide | omega) ?_
              obtain ⟨q15, q15e⟩ : ∃ q : Int, q = (Int.tdiv x14 64) := ⟨_, rfl⟩
              rw [← q15e]
              have q15b := td_pos q15e (by first | decide | omega) (by first | decide | omega)
              refine r_ex hX hP 1 (pc' := 75) (st' := [(0, 4), (0, q15)]) (lo' := [(0, (2, this)), (1, (0, day))]) rfl ?_
              refine r_irem hX hP rfl (by first | decide | omega) (by first | decide | omega) (by first | decide | omega) (by first | decide | omega) (by first | decide | omega) ?_
              obtain ⟨q16, q16e⟩ : ∃ q : Int, q = (Int.tmod q15 4) := ⟨_, rfl⟩
              rw [← q16e]
              have q16b := tm_pos q16e (by first | decide | omega) (by first | decide | omega)
              refine r_ex hX hP 2 (pc' := 78) (st' := [(2, this)]) (lo' := [(0, (2, this)), (1, (0, day)), (2, (0, q16))]) rfl ?_
              refine r_getKR hX hP rfl fl_X8_65_129 hS (x := of13) of13e ?_
              refine r_ex hX hP 1 (pc' := 82) (st' := [(2, this), (2, of13)]) (lo' := [(0, (2, this)), (1, (0, day)), (2, (0, q16))]) rfl ?_
              refine r_getKI hX hP rfl fl_X8_77_129 hS (x := next_h32) next_h32_e ?_
              refine r_ialdK hX hP rfl al_118 of13s (by first | decide | omega) (by first | decide | omega) (x := x14) x14e ?_
              refine r_ex hX hP 1 (pc' := 88) (st' := [(0, 64), (0, x14)]) (lo' := [(0, (2, this)), (1, (0, day)), (2, (0, q16))]) rfl ?_
              refine r_irem hX hP rfl (by first | decide | omega) (by first | decide | omega) (by first | decide | omega) (by first | decide | omega) (by first | decide | omega) ?_
              obtain ⟨q17, q17e⟩ : ∃ q : Int, q = (Int.tmod x14 64) := ⟨_, rfl⟩
              rw [← q17e]
              have q17b := tm_pos q17e (by first | decide | omega) (by first | decide | omega)
              refine r_ex hX hP 2 (pc' := 91) (st' := [(0, q16)]) (lo' := [(0, (2, this)), (1, (0, day)), (2, (0, q16)), (3, (0, q17))]) rfl ?_
              refine r_if_ne hX hP rfl (tgt := 123) rfl (by first | decide | omega) (by first | decide | omega) (fun c18 => ?_) (fun c18 => ?_)
              · skip
                refine r_ex hX hP 2 (pc' := 125) (st' := [(0, 1), (0, q16)]) (lo' := [(0, (2, this)), (1, (0, day)), (2, (0, q16)), (3, (0, q17))]) rfl ?_
                refine r_ic_ne hX hP rfl (tgt := 158) rfl (by first | decide | omega) (by first | decide | omega) (by first | decide | omega) (by first | decide | omega) (fun c19 => ?_) (fun c19 => ?_)
                · skip
                  refine r_ex hX hP 2 (pc' := 160) (st' := [(0, 2), (0, q16)]) (lo' := [(0, (2, this)), (1, (0, day)), (2, (0, q16)), (3, (0, q17))]) rfl ?_
                  refine r_ic_ne hX hP rfl (tgt := 190) rfl (by first | decide | omega) (by first | decide | omega) (by first | decide | omega) (by first | decide | omega) (fun c20 => ?_) (fun c20 => ?_)
                  · skip
                    refine r_ex hX hP 2 (pc' := 192) (st' := [(2, this), (2, this)]) (lo' := [(0, (2, this)), (1, (0, day)), (2, (0, q16)), (3, (0, q17))]) rfl ?_
                    refine r_getKI hX hP rfl fl_X8_77_129 hS (x := next_h32) next_h32_e ?_
                    refine r_ex hX hP 2 (pc' := 197) (st' := [(0, (next_h32 + 1)), (2, this)]) (lo' := [(0, (2, this)), (1, (0, day)), (2, (0, q16)), (3, (0, q17))]) rfl ?_
                    refine r_putIK hX hP rfl fp_X8_77_129 hS (by first | decide | omega) (by first | decide | omega) (fun h21 => ?_)
                    refine r_ex hX hP 1 (pc' := 32) (st' := []) (lo' := [(0, (2, this)), (1, (0, day)), (2, (0, q16)), (3, (0, q17))]) rfl ?_
                    refine r_pick hX [0, 1] (lo' := [(0, (2, this)), (1, (0, day))]) rfl ?_
                    refine r_eqG (X := X) (hw_up (hw_base _ _ _) rfl) ?_
                    exact ih32 (next_h32 + 1) _ h21 (by first | decide | omega) (by first | decide | omega) (by first | decide | omega)
                  · skip
                    refine r_ex hX hP 2 (pc' := 165) (st' := [(2, this), (0, q17)]) (lo' := [(0, (2, this)), (1, (0, day)), (2, (0, q16)), (3, (0, q17))]) rfl ?_
                    refine r_getR hX hP rfl fl_X8_59_129 hS (fun ef22 ef22e ef22s => ?_)
                    refine r_peekI hX (tl_156 2 rfl (by decide)) ef22s (fun sip23 sip23e sip23a sip23b => ?_)
                    refine r_callV gd hX hP rfl cv_X8_93_156 ef22s (d' := 0) (mc' := 0) (ms' := 0) (as' := []) (st := [(0, q17)]) (by first | decide | omega) (by first | decide | omega) (by first | decide | omega) rfl rfl (Nat.le_of_ble_eq_true rfl) (c_size_Lev E S (hw [(93, -1), (95, -1), (96, -1), (97, -1), (115, -1), (116, -1), (119, -1), (125, -1), (126, -1), (127, -1), (129, 2), (129, 16)] (hw [(95, -1), (115, -1), (118, -1), (129, 1), (129, 2), (129, 15), (129, 16)] G G3) Gh32) ef22  ef22s sip23 sip23e) ?_
                    rintro _ _ _ ⟨rfl, rfl, z24, rfl, z24a, z24b, f25⟩
                    refine r_ic_ge hX hP rfl (tgt := 190) rfl (by first | decide | omega) (by first | decide | omega) (by first | decide | omega) (by first | decide | omega) (fun c26 => ?_) (fun c26 => ?_)
                    · skip
                      refine r_ex hX hP 2 (pc' := 192) (st' := [(2, this), (2, this)]) (lo' := [(0, (2, this)), (1, (0, day)), (2, (0, q16)), (3, (0, q17))]) rfl ?_
                      refine r_getKI hX hP rfl fl_X8_77_129 hS (x := next_h32) next_h32_e ?_
                      refine r_ex hX hP 2 (pc' := 197) (st' := [(0, (next_h32 + 1)), (2, this)]) (lo' := [(0, (2, this)), (1, (0, day)), (2, (0, q16)), (3, (0, q17))]) rfl ?_
                      refine r_putIK hX hP rfl fp_X8_77_129 hS (by first | decide | omega) (by first | decide | omega) (fun h27 => ?_)
                      refine r_ex hX hP 1 (pc' := 32) (st' := []) (lo' := [(0, (2, this)), (1, (0, day)), (2, (0, q16)), (3, (0, q17))]) rfl ?_
                      refine r_pick hX [0, 1] (lo' := [(0, (2, this)), (1, (0, day))]) rfl ?_
                      refine r_eqG (X := X) (hw_up (hw_base _ _ _) rfl) ?_
                      exact ih32 (next_h32 + 1) _ h27 (by first | decide | omega) (by first | decide | omega) (by first | decide | omega)
                    · skip
                      refine r_ex hX hP 2 (pc' := 176) (st' := [(2, this), (2, this)]) (lo' := [(0, (2, this)), (1, (0, day)), (2, (0, q16)), (3, (0, q17))]) rfl ?_
                      refine r_getKR hX hP rfl fl_X8_59_129 hS (x := ef22) ef22e ?_
                      refine r_ex hX hP 1 (pc' := 180) (st' := [(0, q17), (2, ef22), (2, this)]) (lo' := [(0, (2, this)), (1, (0, day)), (2, (0, q16)), (3, (0, q17))]) rfl ?_
                      have ci28 : CI E S (hw [(93, -1), (95, -1), (96, -1), (97, -1), (115, -1), (116, -1), (119, -1), (125, -1), (126, -1), (127, -1), (129, 2), (129, 16)] (hw [(95, -1), (115, -1), (118, -1), (129, 1), (129, 2), (129, 15), (129, 16)] G G3) Gh32) := (ci_hw (ci_hw ci rfl) rfl)
                      refine r_callV gd hX hP rfl cv_X8_97_156 ef22s (d' := 2) (mc' := 0) (ms' := 0) (as' := [(0, q17)]) (st := [(2, this)]) (by first | decide | omega) (by first | decide | omega) (by first | decide | omega) rfl rfl (Nat.le_of_ble_eq_true rfl) (c_get_Lev E S (hw [(93, -1), (95, -1), (96, -1), (97, -1), (115, -1), (116, -1), (119, -1), (125, -1), (126, -1), (127, -1), (129, 2), (129, 16)] (hw [(95, -1), (115, -1), (118, -1), (129, 1), (129, 2), (129, 15), (129, 16)] G G3) Gh32) ef22 q17 ef22s sip23 sip23e (by first | decide | omega) (by first | decide | omega) (by first | decide | omega) ci28) ?_
                      rintro _ _ _ ⟨rfl, rfl, z29, rfl, z29s⟩
                      refine r_cast hX hP rfl (tbg sg5 103 rfl rfl) ck_137_X2 z29s ?_
                      refine r_ex hX hP 1 (pc' := 187) (st' := [(0, q17), (2, z29), (2, this)]) (lo' := [(0, (2, this)), (1, (0, day)), (2, (0, q16)), (3, (0, q17))]) rfl ?_
                      refine r_callV gd hX hP rfl cv_X8_113_129 hS (d' := 5) (mc' := 0) (ms' := 0) (as' := [(2, z29), (0, q17)]) (st := []) (by first | decide | omega) (by first | decide | omega) (by first | decide | omega) rfl rfl (Nat.le_of_ble_eq_true rfl) (c_X8_runEvent E S (hw [(93, -1), (95, -1), (96, -1), (97, -1), (115, -1), (116, -1), (119, -1), (125, -1), (126, -1), (127, -1), (129, 2), (129, 16)] (hw [(95, -1), (115, -1), (118, -1), (129, 1), (129, 2), (129, 15), (129, 16)] G G3) Gh32) this z29 q17 hS z29s ef22 ef22e ef22s sip23 sip23e (by first | decide | omega) (by first | decide | omega) (by first | decide | omega) ci28) ?_
                      rintro _ _ _ ⟨rfl, ⟨G30, rfl⟩, rfl, -⟩
                      refine r_ex hX hP 2 (pc' := 192) (st' := [(2, this), (2, this)]) (lo' := [(0, (2, this)), (1, (0, day)), (2, (0, q16)), (3, (0, q17))]) rfl ?_
                      refine r_getKI hX hP rfl fl_X8_77_129 hS (x := next_h32) next_h32_e ?_
                      refine r_ex hX hP 2 (pc' := 197) (st' := [(0, (next_h32 + 1)), (2, this)]) (lo' := [(0, (2, this)), (1, (0, day)), (2, (0, q16)), (3, (0, q17))]) rfl ?_
                      refine r_putIK hX hP rfl fp_X8_77_129 hS (by first | decide | omega) (by first | decide | omega) (fun h31 => ?_)
                      refine r_ex hX hP 1 (pc' := 32) (st' := []) (lo' := [(0, (2, this)), (1, (0, day)), (2, (0, q16)), (3, (0, q17))]) rfl ?_
                      refine r_pick hX [0, 1] (lo' := [(0, (2, this)), (1, (0, day))]) rfl ?_
                      refine r_eqG (X := X) (hw_up (hw_sub (hw_base _ _ _) rfl) rfl) ?_
                      exact ih32 (next_h32 + 1) _ h31 (by first | decide | omega) (by first | decide | omega) (by first | decide | omega)
                · skip
                  refine r_ex hX hP 2 (pc' := 130) (st' := [(2, this), (0, q17)]) (lo' := [(0, (2, this)), (1, (0, day)), (2, (0, q16)), (3, (0, q17))]) rfl ?_
                  refine r_getR hX hP rfl fl_X8_56_129 hS (fun tf32 tf32e tf32s => ?_)
                  refine r_peekI hX (tl_155 2 rfl (by decide)) tf32s (fun sip33 sip33e sip33a sip33b => ?_)
                  refine r_callV gd hX hP rfl cv_X8_93_155 tf32s (d' := 0) (mc' := 0) (ms' := 0) (as' := []) (st := [(0, q17)]) (by first | decide | omega) (by first | decide | omega) (by first | decide | omega) rfl rfl (Nat.le_of_ble_eq_true rfl) (c_size_Ltr E S (hw [(93, -1), (95, -1), (96, -1), (97, -1), (115, -1), (116, -1), (119, -1), (125, -1), (126, -1), (127, -1), (129, 2), (129, 16)] (hw [(95, -1), (115, -1), (118, -1), (129, 1), (129, 2), (129, 15), (129, 16)] G G3) Gh32) tf32  tf32s sip33 sip33e) ?_
                  rintro _ _ _ ⟨rfl, rfl, z34, rfl, z34a, z34b, f35⟩
                  refine r_ic_ge hX hP rfl (tgt := 158) rfl (by first | decide | omega) (by first | decide | omega) (by first | decide | omega) (by first | decide | omega) (fun c36 => ?_) (fun c36 => ?_)
                  · skip
                    refine r_ex hX hP 2 (pc' := 160) (st' := [(0, 2), (0, q16)]) (lo' := [(0, (2, this)), (1, (0, day)), (2, (0, q16)), (3, (0, q17))]) rfl ?_
                    refine r_ic_ne hX hP rfl (tgt := 190) rfl (by first | decide | omega) (by first | decide | omega) (by first | decide | omega) (by first | decide | omega) (fun c37 => ?_) (fun c37 => ?_)
                    · skip
                      refine r_ex hX hP 2 (pc' := 192) (st' := [(2, this), (2, this)]) (lo' := [(0, (2, this)), (1, (0, day)), (2, (0, q16)), (3, (0, q17))]) rfl ?_
                      refine r_getKI hX hP rfl fl_X8_77_129 hS (x := next_h32) next_h32_e ?_
                      refine r_ex hX hP 2 (pc' := 197) (st' := [(0, (next_h32 + 1)), (2, this)]) (lo' := [(0, (2, this)), (1, (0, day)), (2, (0, q16)), (3, (0, q17))]) rfl ?_
                      refine r_putIK hX hP rfl fp_X8_77_129 hS (by first | decide | omega) (by first | decide | omega) (fun h38 => ?_)
                      refine r_ex hX hP 1 (pc' := 32) (st' := []) (lo' := [(0, (2, this)), (1, (0, day)), (2, (0, q16)), (3, (0, q17))]) rfl ?_
                      refine r_pick hX [0, 1] (lo' := [(0, (2, this)), (1, (0, day))]) rfl ?_
                      refine r_eqG (X := X) (hw_up (hw_base _ _ _) rfl) ?_
                      exact ih32 (next_h32 + 1) _ h38 (by first | decide | omega) (by first | decide | omega) (by first | decide | omega)
                    · skip
                      exfalso; omega
                  · skip
                    refine r_ex hX hP 2 (pc' := 141) (st' := [(2, this), (2, this)]) (lo' := [(0, (2, this)), (1, (0, day)), (2, (0, q16)), (3, (0, q17))]) rfl ?_
                    refine r_getKR hX hP rfl fl_X8_56_129 hS (x := tf32) tf32e ?_
                    refine r_ex hX hP 1 (pc' := 145) (st' := [(0, q17), (2, tf32), (2, this)]) (lo' := [(0, (2, this)), (1, (0, day)), (2, (0, q16)), (3, (0, q17))]) rfl ?_
                    have ci39 : CI E S (hw [(93, -1), (95, -1), (96, -1), (97, -1), (115, -1), (116, -1), (119, -1), (125, -1), (126, -1), (127, -1), (129, 2), (129, 16)] (hw [(95, -1), (115, -1), (118, -1), (129, 1), (129, 2), (129, 15), (129, 16)] G G3) Gh32) := (ci_hw (ci_hw ci rfl) rfl)
                    refine r_callV gd hX hP rfl cv_X8_97_155 tf32s (d' := 2) (mc' := 0) (ms' := 0) (as' := [(0, q17)]) (st := [(2, this)]) (by first | decide | omega) (by first | decide | omega) (by first | decide | omega) rfl rfl (Nat.le_of_ble_eq_true rfl) (c_get_Ltr E S (hw [(93, -1), (95, -1), (96, -1), (97, -1), (115, -1), (116, -1), (119, -1), (125, -1), (126, -1), (127, -1), (129, 2), (129, 16)] (hw [(95, -1), (115, -1), (118, -1), (129, 1), (129, 2), (129, 15), (129, 16)] G G3) Gh32) tf32 q17 tf32s sip33 sip33e (by first | decide | omega) (by first | decide | omega) (by first | decide | omega) ci39) ?_
                    rintro _ _ _ ⟨rfl, rfl, z40, rfl, z40s⟩
                    refine r_cast hX hP rfl (tbg sg5 91 rfl rfl) ck_140_X1 z40s ?_
                    refine r_ex hX hP 1 (pc' := 152) (st' := [(0, q17), (2, z40), (2, this)]) (lo' := [(0, (2, this)), (1, (0, day)), (2, (0, q16)), (3, (0, q17))]) rfl ?_
                    refine r_callV gd hX hP rfl cv_X8_107_129 hS (d' := 0) (mc' := 0) (ms' := 0) (as' := [(2, z40), (0, q17)]) (st := []) (by first | decide | omega) (by first | decide | omega) (by first | decide | omega) rfl rfl (Nat.le_of_ble_eq_true rfl) (c_X8_runTrade E S (hw [(93, -1), (95, -1), (96, -1), (97, -1), (115, -1), (116, -1), (119, -1), (125, -1), (126, -1), (127, -1), (129, 2), (129, 16)] (hw [(95, -1), (115, -1), (118, -1), (129, 1), (129, 2), (129, 15), (129, 16)] G G3) Gh32) this z40 q17 hS z40s (by first | decide | omega) (by first | decide | omega)) ?_
                    rintro _ _ _ ⟨rfl, ⟨G41, rfl⟩, rfl, -⟩
                    refine r_ex hX hP 3 (pc' := 192) (st' := [(2, this), (2, this)]) (lo' := [(0, (2, this)), (1, (0, day)), (2, (0, q16)), (3, (0, q17))]) rfl ?_
                    refine r_getKI hX hP rfl fl_X8_77_129 hS (x := next_h32) next_h32_e ?_
                    refine r_ex hX hP 2 (pc' := 197) (st' := [(0, (next_h32 + 1)), (2, this)]) (lo' := [(0, (2, this)), (1, (0, day)), (2, (0, q16)), (3, (0, q17))]) rfl ?_
                    refine r_putIK hX hP rfl fp_X8_77_129 hS (by first | decide | omega) (by first | decide | omega) (fun h42 => ?_)
                    refine r_ex hX hP 1 (pc' := 32) (st' := []) (lo' := [(0, (2, this)), (1, (0, day)), (2, (0, q16)), (3, (0, q17))]) rfl ?_
                    refine r_pick hX [0, 1] (lo' := [(0, (2, this)), (1, (0, day))]) rfl ?_
                    refine r_eqG (X := X) (hw_up (hw_sub (hw_base _ _ _) rfl) rfl) ?_
                    exact ih32 (next_h32 + 1) _ h42 (by first | decide | omega) (by first | decide | omega) (by first | decide | omega)
              · skip
                refine r_ex hX hP 2 (pc' := 96) (st' := [(2, this), (0, q17)]) (lo' := [(0, (2, this)), (1, (0, day)), (2, (0, q16)), (3, (0, q17))]) rfl ?_
                refine r_getR hX hP rfl fl_X8_52_129 hS (fun if43 if43e if43s => ?_)
                refine r_peekI hX (tl_154 2 rfl (by decide)) if43s (fun sip44 sip44e sip44a sip44b => ?_)
                refine r_callV gd hX hP rfl cv_X8_93_154 if43s (d' := 0) (mc' := 0) (ms' := 0) (as' := []) (st := [(0, q17)]) (by first | decide | omega) (by first | decide | omega) (by first | decide | omega) rfl rfl (Nat.le_of_ble_eq_true rfl) (c_size_Lis E S (hw [(93, -1), (95, -1), (96, -1), (97, -1), (115, -1), (116, -1), (119, -1), (125, -1), (126, -1), (127, -1), (129, 2), (129, 16)] (hw [(95, -1), (115, -1), (118, -1), (129, 1), (129, 2), (129, 15), (129, 16)] G G3) Gh32) if43  if43s sip44 sip44e) ?_
                rintro _ _ _ ⟨rfl, rfl, z45, rfl, z45a, z45b, f46⟩
                refine r_ic_ge hX hP rfl (tgt := 123) rfl (by first | decide | omega) (by first | decide | omega) (by first | decide | omega) (by first | decide | omega) (fun c47 => ?_) (fun c47 => ?_)
                · skip
                  refine r_ex hX hP 2 (pc' := 125) (st' := [(0, 1), (0, q16)]) (lo' := [(0, (2, this)), (1, (0, day)), (2, (0, q16)), (3, (0, q17))]) rfl ?_
                  refine r_ic_ne hX hP rfl (tgt := 158) rfl (by first | decide | omega) (by first | decide | omega) (by first | decide | omega) (by first | decide | omega) (fun c48 => ?_) (fun c48 => ?_)
                  · skip
                    refine r_ex hX hP 2 (pc' := 160) (st' := [(0, 2), (0, q16)]) (lo' := [(0, (2, this)), (1, (0, day)), (2, (0, q16)), (3, (0, q17))]) rfl ?_
                    refine r_ic_ne hX hP rfl (tgt := 190) rfl (by first | decide | omega) (by first | decide | omega) (by first | decide | omega) (by first | decide | omega) (fun c49 => ?_) (fun c49 => ?_)
                    · skip
                      refine r_ex hX hP 2 (pc' := 192) (st' := [(2, this), (2, this)]) (lo' := [(0, (2, this)), (1, (0, day)), (2, (0, q16)), (3, (0, q17))]) rfl ?_
                      refine r_getKI hX hP rfl fl_X8_77_129 hS (x := next_h32) next_h32_e ?_
                      refine r_ex hX hP 2 (pc' := 197) (st' := [(0, (next_h32 + 1)), (2, this)]) (lo' := [(0, (2, this)), (1, (0, day)), (2, (0, q16)), (3, (0, q17))]) rfl ?_
                      refine r_putIK hX hP rfl fp_X8_77_129 hS (by first | decide | omega) (by first | decide | omega) (fun h50 => ?_)
                      refine r_ex hX hP 1 (pc' := 32) (st' := []) (lo' := [(0, (2, this)), (1, (0, day)), (2, (0, q16)), (3, (0, q17))]) rfl ?_
                      refine r_pick hX [0, 1] (lo' := [(0, (2, this)), (1, (0, day))]) rfl ?_
                      refine r_eqG (X := X) (hw_up (hw_base _ _ _) rfl) ?_
                      exact ih32 (next_h32 + 1) _ h50 (by first | decide | omega) (by first | decide | omega) (by first | decide | omega)
                    · skip
                      exfalso; omega
                  · skip
                    exfalso; omega
                · skip
                  refine r_ex hX hP 2 (pc' := 107) (st' := [(2, this), (2, this)]) (lo' := [(0, (2, this)), (1, (0, day)), (2, (0, q16)), (3, (0, q17))]) rfl ?_
                  refine r_getKR hX hP rfl fl_X8_52_129 hS (x := if43) if43e ?_
                  refine r_ex hX hP 1 (pc' := 111) (st' := [(0, q17), (2, if43), (2, this)]) (lo' := [(0, (2, this)), (1, (0, day)), (2, (0, q16)), (3, (0, q17))]) rfl ?_
                  have ci51 : CI E S (hw [(93, -1), (95, -1), (96, -1), (97, -1), (115, -1), (116, -1), (119, -1), (125, -1), (126, -1), (127, -1), (129, 2), (129, 16)] (hw [(95, -1), (115, -1), (118, -1), (129, 1), (129, 2), (129, 15), (129, 16)] G G3) Gh32) := (ci_hw (ci_hw ci rfl) rfl)
                  refine r_callV gd hX hP rfl cv_X8_97_154 if43s (d' := 2) (mc' := 0) (ms' := 0) (as' := [(0, q17)]) (st := [(2, this)]) (by first | decide | omega) (by first | decide | omega) (by first | decide | omega) rfl rfl (Nat.le_of_ble_eq_true rfl) (c_get_Lis E S (hw [(93, -1), (95, -1), (96, -1), (97, -1), (115, -1), (116, -1), (119, -1), (125, -1), (126, -1), (127, -1), (129, 2), (129, 16)] (hw [(95, -1), (115, -1), (118, -1), (129, 1), (129, 2), (129, 15), (129, 16)] G G3) Gh32) if43 q17 if43s sip44 sip44e (by first | decide | omega) (by first | decide | omega) (by first | decide | omega) ci51) ?_
                  rintro _ _ _ ⟨rfl, rfl, z52, rfl, z52s⟩
                  refine r_cast hX hP rfl (tbg sg5 91 rfl rfl) ck_139_X1 z52s ?_
                  refine r_callV gd hX hP rfl cv_X8_103_129 hS (d' := 0) (mc' := 0) (ms' := 0) (as' := [(2, z52)]) (st := []) (by first | decide | omega) (by first | decide | omega) (by first | decide | omega) rfl rfl (Nat.le_of_ble_eq_true rfl) (c_X8_runIssue E S (hw [(93, -1), (95, -1), (96, -1), (97, -1), (115, -1), (116, -1), (119, -1), (125, -1), (126, -1), (127, -1), (129, 2), (129, 16)] (hw [(95, -1), (115, -1), (118, -1), (129, 1), (129, 2), (129, 15), (129, 16)] G G3) Gh32) this z52 hS z52s) ?_
                  rintro _ _ _ ⟨rfl, ⟨G53, rfl⟩, rfl, -⟩
                  refine r_ex hX hP 3 (pc' := 192) (st' := [(2, this), (2, this)]) (lo' := [(0, (2, this)), (1, (0, day)), (2, (0, q16)), (3, (0, q17))]) rfl ?_
                  refine r_getKI hX hP rfl fl_X8_77_129 hS (x := next_h32) next_h32_e ?_
                  refine r_ex hX hP 2 (pc' := 197) (st' := [(0, (next_h32 + 1)), (2, this)]) (lo' := [(0, (2, this)), (1, (0, day)), (2, (0, q16)), (3, (0, q17))]) rfl ?_
                  refine r_putIK hX hP rfl fp_X8_77_129 hS (by first | decide | omega) (by first | decide | omega) (fun h54 => ?_)
                  refine r_ex hX hP 1 (pc' := 32) (st' := []) (lo' := [(0, (2, this)), (1, (0, day)), (2, (0, q16)), (3, (0, q17))]) rfl ?_
                  refine r_pick hX [0, 1] (lo' := [(0, (2, this)), (1, (0, day))]) rfl ?_
                  refine r_eqG (X := X) (hw_up (hw_sub (hw_base _ _ _) rfl) rfl) ?_
                  exact ih32 (next_h32 + 1) _ h54 (by first | decide | omega) (by first | decide | omega) (by first | decide | omega)
    refine r_eqG (X := X) (hw_refl [(93, -1), (95, -1), (96, -1), (97, -1), (115, -1), (116, -1), (119, -1), (125, -1), (126, -1), (127, -1), (129, 2), (129, 16)] _) ?_
    exact loop32 ((96 - neh4) + 1 : Int).toNat neh4 _ neh4e (by first | decide | omega) (by first | decide | omega) (by first | decide | omega)
  · skip
    refine r_ex hX hP 1 (pc' := 8) (st' := [(2, this)]) (lo' := [(0, (2, this)), (1, (0, day))]) rfl ?_
    refine r_getI hX hP rfl fl_X8_77_129 hS (fun nf55 nf55e nf55a nf55b => ?_)
    refine r_if_le hX hP rfl (tgt := 32) rfl (by first | decide | omega) (by first | decide | omega) (fun c56 => ?_) (fun c56 => ?_)
    · skip
      have x203 : ∀ (next_x203 : Int) (Gx203 : Gh), next_x203 = (hw [(93, -1), (95, -1), (96, -1), (97, -1), (115, -1), (116, -1), (119, -1), (125, -1), (126, -1), (127, -1), (129, 2), (129, 16)] G Gx203) 129 this 16 → 0 ≤ next_x203 → next_x203 ≤ 96 → X 0 0 203 [] [(0, (2, this)), (1, (0, day))] S (hw [(93, -1), (95, -1), (96, -1), (97, -1), (115, -1), (116, -1), (119, -1), (125, -1), (126, -1), (127, -1), (129, 2), (129, 16)] G Gx203) := by
        intro next_x203 Gx203 next_x203_e yx203_0 yx203_1
        exact r_retV hX hP rfl rfl (by first | decide | omega) (by first | decide | omega) ⟨rfl, ⟨_, (hw_sub (hw_refl _ _) rfl).symm⟩, rfl, trivial⟩
      have loop32 : ∀ (nF : Nat) (next_h32 : Int) (Gh32 : Gh), next_h32 = (hw [(93, -1), (95, -1), (96, -1), (97, -1), (115, -1), (116, -1), (119, -1), (125, -1), (126, -1), (127, -1), (129, 2), (129, 16)] G Gh32) 129 this 16 → 0 ≤ next_h32 → next_h32 ≤ 96 → 96 - next_h32 < (nF : Int) → X 0 0 32 [] [(0, (2, this)), (1, (0, day))] S (hw [(93, -1), (95, -1), (96, -1), (97, -1), (115, -1), (116, -1), (119, -1), (125, -1), (126, -1), (127, -1), (129, 2), (129, 16)] G Gh32) := by
        intro nF
        induction nF with
        | zero => intro next_h32 Gh32 next_h32_e yh32_0 yh32_1 ym32; exfalso; omega
        | succ nF ih32 =>
          intro next_h32 Gh32 next_h32_e yh32_0 yh32_1 ym32
          refine r_ex hX hP 1 (pc' := 33) (st' := [(2, this)]) (lo' := [(0, (2, this)), (1, (0, day))]) rfl ?_
          refine r_getKI hX hP rfl fl_X8_77_129 hS (x := next_h32) next_h32_e ?_
          refine r_ex hX hP 1 (pc' := 37) (st' := [(2, this), (0, next_h32)]) (lo' := [(0, (2, this)), (1, (0, day))]) rfl ?_
          refine r_getI hX hP rfl fl_X8_87_129 hS (fun cf57 cf57e cf57a cf57b => ?_)
          refine r_ic_ge hX hP rfl (tgt := 203) rfl (by first | decide | omega) (by first | decide | omega) (by first | decide | omega) (by first | decide | omega) (fun c58 => ?_) (fun c58 => ?_)
          · skip
            refine r_eqG (X := X) (hw_sub (hw_refl [(93, -1), (95, -1), (96, -1), (97, -1), (115, -1), (116, -1), (119, -1), (125, -1), (126, -1), (127, -1), (129, 2), (129, 16)] _) rfl) ?_
            exact x203 next_h32 _ next_h32_e (by first | decide | omega) (by first | decide | omega)
          · skip
            refine r_ex hX hP 1 (pc' := 44) (st' := [(2, this)]) (lo' := [(0, (2, this)), (1, (0, day))]) rfl ?_
            refine r_getI hX hP rfl fl_X8_90_129 hS (fun of59 of59e of59a of59b => ?_)
            refine r_if_ne hX hP rfl (tgt := 203) rfl (by first | decide | omega) (by first | decide | omega) (fun c60 => ?_) (fun c60 => ?_)
            · skip
              refine r_eqG (X := X) (hw_sub (hw_refl [(93, -1), (95, -1), (96, -1), (97, -1), (115, -1), (116, -1), (119, -1), (125, -1), (126, -1), (127, -1), (129, 2), (129, 16)] _) rfl) ?_
              exact x203 next_h32 _ next_h32_e (by first | decide | omega) (by first | decide | omega)
            · skip
              refine r_ex hX hP 2 (pc' := 52) (st' := [(2, this), (2, this)]) (lo' := [(0, (2, this)), (1, (0, day))]) rfl ?_
              refine r_getKI hX hP rfl fl_X8_77_129 hS (x := next_h32) next_h32_e ?_
              refine r_callV gd hX hP rfl cv_X8_80_129 hS (d' := 0) (mc' := 0) (ms' := 0) (as' := [(0, next_h32)]) (st := []) (by first | decide | omega) (by first | decide | omega) (by first | decide | omega) rfl rfl (Nat.le_of_ble_eq_true rfl) (c_X8_dayAt E S (hw [(93, -1), (95, -1), (96, -1), (97, -1), (115, -1), (116, -1), (119, -1), (125, -1), (126, -1), (127, -1), (129, 2), (129, 16)] G Gh32) this next_h32 hS (by first | decide | omega) (by first | decide | omega)) ?_
              rintro _ _ _ ⟨rfl, rfl, z61, rfl, z61a, z61b⟩
              refine r_ex hX hP 1 (pc' := 59) (st' := [(0, day), (0, z61)]) (lo' := [(0, (2, this)), (1, (0, day))]) rfl ?_
              refine r_ic_gt hX hP rfl (tgt := 203) rfl (by first | decide | omega) (by first | decide | omega) (by first | decide | omega) (by first | decide | omega) (fun c62 => ?_) (fun c62 => ?_)
              · skip
                refine r_eqG (X := X) (hw_sub (hw_refl [(93, -1), (95, -1), (96, -1), (97, -1), (115, -1), (116, -1), (119, -1), (125, -1), (126, -1), (127, -1), (129, 2), (129, 16)] _) rfl) ?_
                exact x203 next_h32 _ next_h32_e (by first | decide | omega) (by first | decide | omega)
              · skip
                refine r_ex hX hP 1 (pc' := 63) (st' := [(2, this)]) (lo' := [(0, (2, this)), (1, (0, day))]) rfl ?_
                refine r_getR hX hP rfl fl_X8_65_129 hS (fun of63 of63e of63s => ?_)
                refine r_ex hX hP 1 (pc' := 67) (st' := [(2, this), (2, of63)]) (lo' := [(0, (2, this)), (1, (0, day))]) rfl ?_
                refine r_getKI hX hP rfl fl_X8_77_129 hS (x := next_h32) next_h32_e ?_
                refine r_iald hX hP rfl al_118 of63s (by first | decide | omega) (by first | decide | omega) (fun x64 x64e x64a x64b => ?_)
                refine r_ex hX hP 1 (pc' := 73) (st' := [(0, 64), (0, x64)]) (lo' := [(0, (2, this)), (1, (0, day))]) rfl ?_
                refine r_idiv hX hP rfl (by first | decide | omega) (by first | decide | omega) (by first | decide | omega) (by first | decide | omega) (by first | decide | omega) ?_
                obtain ⟨q65, q65e⟩ : ∃ q : Int, q = (Int.tdiv x64 64) := ⟨_, rfl⟩
                rw [← q65e]
                have q65b := td_pos q65e (by first | decide | omega) (by first | decide | omega)
                refine r_ex hX hP 1 (pc' := 75) (st' := [(0, 4), (0, q65)]) (lo' := [(0, (2, this)), (1, (0, day))]) rfl ?_
                refine r_irem hX hP rfl (by first | decide | omega) (by first | decide | omega) (by first | decide | omega) (by first | decide | omega) (by first | decide | omega) ?_
                obtain ⟨q66, q66e⟩ : ∃ q : Int, q = (Int.tmod q65 4) := ⟨_, rfl⟩
                rw [← q66e]
                have q66b := tm_pos q66e (by first | decide | omega) (by first | decide | omega)
                refine r_ex hX hP 2 (pc' := 78) (st' := [(2, this)]) (lo' := [(0, (2, this)), (1, (0, day)), (2, (0, q66))]) rfl ?_
                refine r_getKR hX hP rfl fl_X8_65_129 hS (x := of63) of63e ?_
                refine r_ex hX hP 1 (pc' := 82) (st' := [(2, this), (2, of63)]) (lo' := [(0, (2, this)), (1, (0, day)), (2, (0, q66))]) rfl ?_
                refine r_getKI hX hP rfl fl_X8_77_129 hS (x := next_h32) next_h32_e ?_
                refine r_ialdK hX hP rfl al_118 of63s (by first | decide | omega) (by first | decide | omega) (x := x64) x64e ?_
                refine r_ex hX hP 1 (pc' := 88) (st' := [(0, 64), (0, x64)]) (lo' := [(0, (2, this)), (1, (0, day)), (2, (0, q66))]) rfl ?_
                refine r_irem hX hP rfl (by first | decide | omega) (by first | decide | omega) (by first | decide | omega) (by first | decide | omega) (by first | decide | omega) ?_
                obtain ⟨q67, q67e⟩ : ∃ q : Int, q = (Int.tmod x64 64) := ⟨_, rfl⟩
                rw [← q67e]
                have q67b := tm_pos q67e (by first | decide | omega) (by first | decide | omega)
                refine r_ex hX hP 2 (pc' := 91) (st' := [(0, q66)]) (lo' := [(0, (2, this)), (1, (0, day)), (2, (0, q66)), (3, (0, q67))]) rfl ?_
                refine r_if_ne hX hP rfl (tgt := 123) rfl (by first | decide | omega) (by first | decide | omega) (fun c68 => ?_) (fun c68 => ?_)
                · skip
                  refine r_ex hX hP 2 (pc' := 125) (st' := [(0, 1), (0, q66)]) (lo' := [(0, (2, this)), (1, (0, day)), (2, (0, q66)), (3, (0, q67))]) rfl ?_
                  refine r_ic_ne hX hP rfl (tgt := 158) rfl (by first | decide | omega) (by first | decide | omega) (by first | decide | omega) (by first | decide | omega) (fun c69 => ?_) (fun c69 => ?_)
                  · skip
                    refine r_ex hX hP 2 (pc' := 160) (st' := [(0, 2), (0, q66)]) (lo' := [(0, (2, this)), (1, (0, day)), (2, (0, q66)), (3, (0, q67))]) rfl ?_
                    refine r_ic_ne hX hP rfl (tgt := 190) rfl (by first | decide | omega) (by first | decide | omega) (by first | decide | omega) (by first | decide | omega) (fun c70 => ?_) (fun c70 => ?_)
                    · skip
                      refine r_ex hX hP 2 (pc' := 192) (st' := [(2, this), (2, this)]) (lo' := [(0, (2, this)), (1, (0, day)), (2, (0, q66)), (3, (0, q67))]) rfl ?_
                      refine r_getKI hX hP rfl fl_X8_77_129 hS (x := next_h32) next_h32_e ?_
                      refine r_ex hX hP 2 (pc' := 197) (st' := [(0, (next_h32 + 1)), (2, this)]) (lo' := [(0, (2, this)), (1, (0, day)), (2, (0, q66)), (3, (0, q67))]) rfl ?_
                      refine r_putIK hX hP rfl fp_X8_77_129 hS (by first | decide | omega) (by first | decide | omega) (fun h71 => ?_)
                      refine r_ex hX hP 1 (pc' := 32) (st' := []) (lo' := [(0, (2, this)), (1, (0, day)), (2, (0, q66)), (3, (0, q67))]) rfl ?_
                      refine r_pick hX [0, 1] (lo' := [(0, (2, this)), (1, (0, day))]) rfl ?_
                      refine r_eqG (X := X) (hw_up (hw_base _ _ _) rfl) ?_
                      exact ih32 (next_h32 + 1) _ h71 (by first | decide | omega) (by first | decide | omega) (by first | decide | omega)
                    · skip
                      refine r_ex hX hP 2 (pc' := 165) (st' := [(2, this), (0, q67)]) (lo' := [(0, (2, this)), (1, (0, day)), (2, (0, q66)), (3, (0, q67))]) rfl ?_
                      refine r_getR hX hP rfl fl_X8_59_129 hS (fun ef72 ef72e ef72s => ?_)
                      refine r_peekI hX (tl_156 2 rfl (by decide)) ef72s (fun sip73 sip73e sip73a sip73b => ?_)
                      refine r_callV gd hX hP rfl cv_X8_93_156 ef72s (d' := 0) (mc' := 0) (ms' := 0) (as' := []) (st := [(0, q67)]) (by first | decide | omega) (by first | decide | omega) (by first | decide | omega) rfl rfl (Nat.le_of_ble_eq_true rfl) (c_size_Lev E S (hw [(93, -1), (95, -1), (96, -1), (97, -1), (115, -1), (116, -1), (119, -1), (125, -1), (126, -1), (127, -1), (129, 2), (129, 16)] G Gh32) ef72  ef72s sip73 sip73e) ?_
                      rintro _ _ _ ⟨rfl, rfl, z74, rfl, z74a, z74b, f75⟩
                      refine r_ic_ge hX hP rfl (tgt := 190) rfl (by first | decide | omega) (by first | decide | omega) (by first | decide | omega) (by first | decide | omega) (fun c76 => ?_) (fun c76 => ?_)
                      · skip
                        refine r_ex hX hP 2 (pc' := 192) (st' := [(2, this), (2, this)]) (lo' := [(0, (2, this)), (1, (0, day)), (2, (0, q66)), (3, (0, q67))]) rfl ?_
                        refine r_getKI hX hP rfl fl_X8_77_129 hS (x := next_h32) next_h32_e ?_
                        refine r_ex hX hP 2 (pc' := 197) (st' := [(0, (next_h32 + 1)), (2, this)]) (lo' := [(0, (2, this)), (1, (0, day)), (2, (0, q66)), (3, (0, q67))]) rfl ?_
                        refine r_putIK hX hP rfl fp_X8_77_129 hS (by first | decide | omega) (by first | decide | omega) (fun h77 => ?_)
                        refine r_ex hX hP 1 (pc' := 32) (st' := []) (lo' := [(0, (2, this)), (1, (0, day)), (2, (0, q66)), (3, (0, q67))]) rfl ?_
                        refine r_pick hX [0, 1] (lo' := [(0, (2, this)), (1, (0, day))]) rfl ?_
                        refine r_eqG (X := X) (hw_up (hw_base _ _ _) rfl) ?_
                        exact ih32 (next_h32 + 1) _ h77 (by first | decide | omega) (by first | decide | omega) (by first | decide | omega)
                      · skip
                        refine r_ex hX hP 2 (pc' := 176) (st' := [(2, this), (2, this)]) (lo' := [(0, (2, this)), (1, (0, day)), (2, (0, q66)), (3, (0, q67))]) rfl ?_
                        refine r_getKR hX hP rfl fl_X8_59_129 hS (x := ef72) ef72e ?_
                        refine r_ex hX hP 1 (pc' := 180) (st' := [(0, q67), (2, ef72), (2, this)]) (lo' := [(0, (2, this)), (1, (0, day)), (2, (0, q66)), (3, (0, q67))]) rfl ?_
                        have ci78 : CI E S (hw [(93, -1), (95, -1), (96, -1), (97, -1), (115, -1), (116, -1), (119, -1), (125, -1), (126, -1), (127, -1), (129, 2), (129, 16)] G Gh32) := (ci_hw ci rfl)
                        refine r_callV gd hX hP rfl cv_X8_97_156 ef72s (d' := 2) (mc' := 0) (ms' := 0) (as' := [(0, q67)]) (st := [(2, this)]) (by first | decide | omega) (by first | decide | omega) (by first | decide | omega) rfl rfl (Nat.le_of_ble_eq_true rfl) (c_get_Lev E S (hw [(93, -1), (95, -1), (96, -1), (97, -1), (115, -1), (116, -1), (119, -1), (125, -1), (126, -1), (127, -1), (129, 2), (129, 16)] G Gh32) ef72 q67 ef72s sip73 sip73e (by first | decide | omega) (by first | decide | omega) (by first | decide | omega) ci78) ?_
                        rintro _ _ _ ⟨rfl, rfl, z79, rfl, z79s⟩
                        refine r_cast hX hP rfl (tbg sg5 103 rfl rfl) ck_137_X2 z79s ?_
                        refine r_ex hX hP 1 (pc' := 187) (st' := [(0, q67), (2, z79), (2, this)]) (lo' := [(0, (2, this)), (1, (0, day)), (2, (0, q66)), (3, (0, q67))]) rfl ?_
                        refine r_callV gd hX hP rfl cv_X8_113_129 hS (d' := 5) (mc' := 0) (ms' := 0) (as' := [(2, z79), (0, q67)]) (st := []) (by first | decide | omega) (by first | decide | omega) (by first | decide | omega) rfl rfl (Nat.le_of_ble_eq_true rfl) (c_X8_runEvent E S (hw [(93, -1), (95, -1), (96, -1), (97, -1), (115, -1), (116, -1), (119, -1), (125, -1), (126, -1), (127, -1), (129, 2), (129, 16)] G Gh32) this z79 q67 hS z79s ef72 ef72e ef72s sip73 sip73e (by first | decide | omega) (by first | decide | omega) (by first | decide | omega) ci78) ?_
                        rintro _ _ _ ⟨rfl, ⟨G80, rfl⟩, rfl, -⟩
                        refine r_ex hX hP 2 (pc' := 192) (st' := [(2, this), (2, this)]) (lo' := [(0, (2, this)), (1, (0, day)), (2, (0, q66)), (3, (0, q67))]) rfl ?_
                        refine r_getKI hX hP rfl fl_X8_77_129 hS (x := next_h32) next_h32_e ?_
                        refine r_ex hX hP 2 (pc' := 197) (st' := [(0, (next_h32 + 1)), (2, this)]) (lo' := [(0, (2, this)), (1, (0, day)), (2, (0, q66)), (3, (0, q67))]) rfl ?_
                        refine r_putIK hX hP rfl fp_X8_77_129 hS (by first | decide | omega) (by first | decide | omega) (fun h81 => ?_)
                        refine r_ex hX hP 1 (pc' := 32) (st' := []) (lo' := [(0, (2, this)), (1, (0, day)), (2, (0, q66)), (3, (0, q67))]) rfl ?_
                        refine r_pick hX [0, 1] (lo' := [(0, (2, this)), (1, (0, day))]) rfl ?_
                        refine r_eqG (X := X) (hw_up (hw_sub (hw_base _ _ _) rfl) rfl) ?_
                        exact ih32 (next_h32 + 1) _ h81 (by first | decide | omega) (by first | decide | omega) (by first | decide | omega)
                  · skip
                    refine r_ex hX hP 2 (pc' := 130) (st' := [(2, this), (0, q67)]) (lo' := [(0, (2, this)), (1, (0, day)), (2, (0, q66)), (3, (0, q67))]) rfl ?_
                    refine r_getR hX hP rfl fl_X8_56_129 hS (fun tf82 tf82e tf82s => ?_)
                    refine r_peekI hX (tl_155 2 rfl (by decide)) tf82s (fun sip83 sip83e sip83a sip83b => ?_)
                    refine r_callV gd hX hP rfl cv_X8_93_155 tf82s (d' := 0) (mc' := 0) (ms' := 0) (as' := []) (st := [(0, q67)]) (by first | decide | omega) (by first | decide | omega) (by first | decide | omega) rfl rfl (Nat.le_of_ble_eq_true rfl) (c_size_Ltr E S (hw [(93, -1), (95, -1), (96, -1), (97, -1), (115, -1), (116, -1), (119, -1), (125, -1), (126, -1), (127, -1), (129, 2), (129, 16)] G Gh32) tf82  tf82s sip83 sip83e) ?_
                    rintro _ _ _ ⟨rfl, rfl, z84, rfl, z84a, z84b, f85⟩
                    refine r_ic_ge hX hP rfl (tgt := 158) rfl (by first | decide | omega) (by first | decide | omega) (by first | decide | omega) (by first | decide | omega) (fun c86 => ?_) (fun c86 => ?_)
                    · skip
                      refine r_ex hX hP 2 (pc' := 160) (st' := [(0, 2), (0, q66)]) (lo' := [(0, (2, this)), (1, (0, day)), (2, (0, q66)), (3, (0, q67))]) rfl ?_
                      refine r_ic_ne hX hP rfl (tgt := 190) rfl (by first | decide | omega) (by first | decide | omega) (by first | decide | omega) (by first | decide | omega) (fun c87 => ?_) (fun c87 => ?_)
                      · skip
                        refine r_ex hX hP 2 (pc' := 192) (st' := [(2, this), (2, this)]) (lo' := [(0, (2, this)), (1, (0, day)), (2, (0, q66)), (3, (0, q67))]) rfl ?_
                        refine r_getKI hX hP rfl fl_X8_77_129 hS (x := next_h32) next_h32_e ?_
                        refine r_ex hX hP 2 (pc' := 197) (st' := [(0, (next_h32 + 1)), (2, this)]) (lo' := [(0, (2, this)), (1, (0, day)), (2, (0, q66)), (3, (0, q67))]) rfl ?_
                        refine r_putIK hX hP rfl fp_X8_77_129 hS (by first | decide | omega) (by first | decide | omega) (fun h88 => ?_)
                        refine r_ex hX hP 1 (pc' := 32) (st' := []) (lo' := [(0, (2, this)), (1, (0, day)), (2, (0, q66)), (3, (0, q67))]) rfl ?_
                        refine r_pick hX [0, 1] (lo' := [(0, (2, this)), (1, (0, day))]) rfl ?_
                        refine r_eqG (X := X) (hw_up (hw_base _ _ _) rfl) ?_
                        exact ih32 (next_h32 + 1) _ h88 (by first | decide | omega) (by first | decide | omega) (by first | decide | omega)
                      · skip
                        exfalso; omega
                    · skip
                      refine r_ex hX hP 2 (pc' := 141) (st' := [(2, this), (2, this)]) (lo' := [(0, (2, this)), (1, (0, day)), (2, (0, q66)), (3, (0, q67))]) rfl ?_
                      refine r_getKR hX hP rfl fl_X8_56_129 hS (x := tf82) tf82e ?_
                      refine r_ex hX hP 1 (pc' := 145) (st' := [(0, q67), (2, tf82), (2, this)]) (lo' := [(0, (2, this)), (1, (0, day)), (2, (0, q66)), (3, (0, q67))]) rfl ?_
                      have ci89 : CI E S (hw [(93, -1), (95, -1), (96, -1), (97, -1), (115, -1), (116, -1), (119, -1), (125, -1), (126, -1), (127, -1), (129, 2), (129, 16)] G Gh32) := (ci_hw ci rfl)
                      refine r_callV gd hX hP rfl cv_X8_97_155 tf82s (d' := 2) (mc' := 0) (ms' := 0) (as' := [(0, q67)]) (st := [(2, this)]) (by first | decide | omega) (by first | decide | omega) (by first | decide | omega) rfl rfl (Nat.le_of_ble_eq_true rfl) (c_get_Ltr E S (hw [(93, -1), (95, -1), (96, -1), (97, -1), (115, -1), (116, -1), (119, -1), (125, -1), (126, -1), (127, -1), (129, 2), (129, 16)] G Gh32) tf82 q67 tf82s sip83 sip83e (by first | decide | omega) (by first | decide | omega) (by first | decide | omega) ci89) ?_
                      rintro _ _ _ ⟨rfl, rfl, z90, rfl, z90s⟩
                      refine r_cast hX hP rfl (tbg sg5 91 rfl rfl) ck_140_X1 z90s ?_
                      refine r_ex hX hP 1 (pc' := 152) (st' := [(0, q67), (2, z90), (2, this)]) (lo' := [(0, (2, this)), (1, (0, day)), (2, (0, q66)), (3, (0, q67))]) rfl ?_
                      refine r_callV gd hX hP rfl cv_X8_107_129 hS (d' := 0) (mc' := 0) (ms' := 0) (as' := [(2, z90), (0, q67)]) (st := []) (by first | decide | omega) (by first | decide | omega) (by first | decide | omega) rfl rfl (Nat.le_of_ble_eq_true rfl) (c_X8_runTrade E S (hw [(93, -1), (95, -1), (96, -1), (97, -1), (115, -1), (116, -1), (119, -1), (125, -1), (126, -1), (127, -1), (129, 2), (129, 16)] G Gh32) this z90 q67 hS z90s (by first | decide | omega) (by first | decide | omega)) ?_
                      rintro _ _ _ ⟨rfl, ⟨G91, rfl⟩, rfl, -⟩
                      refine r_ex hX hP 3 (pc' := 192) (st' := [(2, this), (2, this)]) (lo' := [(0, (2, this)), (1, (0, day)), (2, (0, q66)), (3, (0, q67))]) rfl ?_
                      refine r_getKI hX hP rfl fl_X8_77_129 hS (x := next_h32) next_h32_e ?_
                      refine r_ex hX hP 2 (pc' := 197) (st' := [(0, (next_h32 + 1)), (2, this)]) (lo' := [(0, (2, this)), (1, (0, day)), (2, (0, q66)), (3, (0, q67))]) rfl ?_
                      refine r_putIK hX hP rfl fp_X8_77_129 hS (by first | decide | omega) (by first | decide | omega) (fun h92 => ?_)
                      refine r_ex hX hP 1 (pc' := 32) (st' := []) (lo' := [(0, (2, this)), (1, (0, day)), (2, (0, q66)), (3, (0, q67))]) rfl ?_
                      refine r_pick hX [0, 1] (lo' := [(0, (2, this)), (1, (0, day))]) rfl ?_
                      refine r_eqG (X := X) (hw_up (hw_sub (hw_base _ _ _) rfl) rfl) ?_
                      exact ih32 (next_h32 + 1) _ h92 (by first | decide | omega) (by first | decide | omega) (by first | decide | omega)
                · skip
                  refine r_ex hX hP 2 (pc' := 96) (st' := [(2, this), (0, q67)]) (lo' := [(0, (2, this)), (1, (0, day)), (2, (0, q66)), (3, (0, q67))]) rfl ?_
                  refine r_getR hX hP rfl fl_X8_52_129 hS (fun if93 if93e if93s => ?_)
                  refine r_peekI hX (tl_154 2 rfl (by decide)) if93s (fun sip94 sip94e sip94a sip94b => ?_)
                  refine r_callV gd hX hP rfl cv_X8_93_154 if93s (d' := 0) (mc' := 0) (ms' := 0) (as' := []) (st := [(0, q67)]) (by first | decide | omega) (by first | decide | omega) (by first | decide | omega) rfl rfl (Nat.le_of_ble_eq_true rfl) (c_size_Lis E S (hw [(93, -1), (95, -1), (96, -1), (97, -1), (115, -1), (116, -1), (119, -1), (125, -1), (126, -1), (127, -1), (129, 2), (129, 16)] G Gh32) if93  if93s sip94 sip94e) ?_
                  rintro _ _ _ ⟨rfl, rfl, z95, rfl, z95a, z95b, f96⟩
                  refine r_ic_ge hX hP rfl (tgt := 123) rfl (by first | decide | omega) (by first | decide | omega) (by first | decide | omega) (by first | decide | omega) (fun c97 => ?_) (fun c97 => ?_)
                  · skip
                    refine r_ex hX hP 2 (pc' := 125) (st' := [(0, 1), (0, q66)]) (lo' := [(0, (2, this)), (1, (0, day)), (2, (0, q66)), (3, (0, q67))]) rfl ?_
                    refine r_ic_ne hX hP rfl (tgt := 158) rfl (by first | decide | omega) (by first | decide | omega) (by first | decide | omega) (by first | decide | omega) (fun c98 => ?_) (fun c98 => ?_)
                    · skip
                      refine r_ex hX hP 2 (pc' := 160) (st' := [(0, 2), (0, q66)]) (lo' := [(0, (2, this)), (1, (0, day)), (2, (0, q66)), (3, (0, q67))]) rfl ?_
                      refine r_ic_ne hX hP rfl (tgt := 190) rfl (by first | decide | omega) (by first | decide | omega) (by first | decide | omega) (by first | decide | omega) (fun c99 => ?_) (fun c99 => ?_)
                      · skip
                        refine r_ex hX hP 2 (pc' := 192) (st' := [(2, this), (2, this)]) (lo' := [(0, (2, this)), (1, (0, day)), (2, (0, q66)), (3, (0, q67))]) rfl ?_
                        refine r_getKI hX hP rfl fl_X8_77_129 hS (x := next_h32) next_h32_e ?_
                        refine r_ex hX hP 2 (pc' := 197) (st' := [(0, (next_h32 + 1)), (2, this)]) (lo' := [(0, (2, this)), (1, (0, day)), (2, (0, q66)), (3, (0, q67))]) rfl ?_
                        refine r_putIK hX hP rfl fp_X8_77_129 hS (by first | decide | omega) (by first | decide | omega) (fun h100 => ?_)
                        refine r_ex hX hP 1 (pc' := 32) (st' := []) (lo' := [(0, (2, this)), (1, (0, day)), (2, (0, q66)), (3, (0, q67))]) rfl ?_
                        refine r_pick hX [0, 1] (lo' := [(0, (2, this)), (1, (0, day))]) rfl ?_
                        refine r_eqG (X := X) (hw_up (hw_base _ _ _) rfl) ?_
                        exact ih32 (next_h32 + 1) _ h100 (by first | decide | omega) (by first | decide | omega) (by first | decide | omega)
                      · skip
                        exfalso; omega
                    · skip
                      exfalso; omega
                  · skip
                    refine r_ex hX hP 2 (pc' := 107) (st' := [(2, this), (2, this)]) (lo' := [(0, (2, this)), (1, (0, day)), (2, (0, q66)), (3, (0, q67))]) rfl ?_
                    refine r_getKR hX hP rfl fl_X8_52_129 hS (x := if93) if93e ?_
                    refine r_ex hX hP 1 (pc' := 111) (st' := [(0, q67), (2, if93), (2, this)]) (lo' := [(0, (2, this)), (1, (0, day)), (2, (0, q66)), (3, (0, q67))]) rfl ?_
                    have ci101 : CI E S (hw [(93, -1), (95, -1), (96, -1), (97, -1), (115, -1), (116, -1), (119, -1), (125, -1), (126, -1), (127, -1), (129, 2), (129, 16)] G Gh32) := (ci_hw ci rfl)
                    refine r_callV gd hX hP rfl cv_X8_97_154 if93s (d' := 2) (mc' := 0) (ms' := 0) (as' := [(0, q67)]) (st := [(2, this)]) (by first | decide | omega) (by first | decide | omega) (by first | decide | omega) rfl rfl (Nat.le_of_ble_eq_true rfl) (c_get_Lis E S (hw [(93, -1), (95, -1), (96, -1), (97, -1), (115, -1), (116, -1), (119, -1), (125, -1), (126, -1), (127, -1), (129, 2), (129, 16)] G Gh32) if93 q67 if93s sip94 sip94e (by first | decide | omega) (by first | decide | omega) (by first | decide | omega) ci101) ?_
                    rintro _ _ _ ⟨rfl, rfl, z102, rfl, z102s⟩
                    refine r_cast hX hP rfl (tbg sg5 91 rfl rfl) ck_139_X1 z102s ?_
                    refine r_callV gd hX hP rfl cv_X8_103_129 hS (d' := 0) (mc' := 0) (ms' := 0) (as' := [(2, z102)]) (st := []) (by first | decide | omega) (by first | decide | omega) (by first | decide | omega) rfl rfl (Nat.le_of_ble_eq_true rfl) (c_X8_runIssue E S (hw [(93, -1), (95, -1), (96, -1), (97, -1), (115, -1), (116, -1), (119, -1), (125, -1), (126, -1), (127, -1), (129, 2), (129, 16)] G Gh32) this z102 hS z102s) ?_
                    rintro _ _ _ ⟨rfl, ⟨G103, rfl⟩, rfl, -⟩
                    refine r_ex hX hP 3 (pc' := 192) (st' := [(2, this), (2, this)]) (lo' := [(0, (2, this)), (1, (0, day)), (2, (0, q66)), (3, (0, q67))]) rfl ?_
                    refine r_getKI hX hP rfl fl_X8_77_129 hS (x := next_h32) next_h32_e ?_
                    refine r_ex hX hP 2 (pc' := 197) (st' := [(0, (next_h32 + 1)), (2, this)]) (lo' := [(0, (2, this)), (1, (0, day)), (2, (0, q66)), (3, (0, q67))]) rfl ?_
                    refine r_putIK hX hP rfl fp_X8_77_129 hS (by first | decide | omega) (by first | decide | omega) (fun h104 => ?_)
                    refine r_ex hX hP 1 (pc' := 32) (st' := []) (lo' := [(0, (2, this)), (1, (0, day)), (2, (0, q66)), (3, (0, q67))]) rfl ?_
                    refine r_pick hX [0, 1] (lo' := [(0, (2, this)), (1, (0, day))]) rfl ?_
                    refine r_eqG (X := X) (hw_up (hw_sub (hw_base _ _ _) rfl) rfl) ?_
                    exact ih32 (next_h32 + 1) _ h104 (by first | decide | omega) (by first | decide | omega) (by first | decide | omega)
      refine r_eqG (X := X) (hw_refl [(93, -1), (95, -1), (96, -1), (97, -1), (115, -1), (116, -1), (119, -1), (125, -1), (126, -1), (127, -1), (129, 2), (129, 16)] _) ?_
      exact loop32 ((96 - nf55) + 1 : Int).toNat nf55 _ nf55e (by first | decide | omega) (by first | decide | omega) (by first | decide | omega)
    · skip
      refine r_ex hX hP 2 (pc' := 16) (st' := [(2, this), (2, this)]) (lo' := [(0, (2, this)), (1, (0, day))]) rfl ?_
      refine r_getKI hX hP rfl fl_X8_77_129 hS (x := nf55) nf55e ?_
      refine r_ex hX hP 2 (pc' := 21) (st' := [(0, (nf55 - 1)), (2, this)]) (lo' := [(0, (2, this)), (1, (0, day))]) rfl ?_
      refine r_callV gd hX hP rfl cv_X8_80_129 hS (d' := 0) (mc' := 0) (ms' := 0) (as' := [(0, (nf55 - 1))]) (st := []) (by first | decide | omega) (by first | decide | omega) (by first | decide | omega) rfl rfl (Nat.le_of_ble_eq_true rfl) (c_X8_dayAt E S G this (nf55 - 1) hS (by first | decide | omega) (by first | decide | omega)) ?_
      rintro _ _ _ ⟨rfl, rfl, z105, rfl, z105a, z105b⟩
      refine r_ex hX hP 1 (pc' := 25) (st' := [(0, day), (0, z105)]) (lo' := [(0, (2, this)), (1, (0, day))]) rfl ?_
      refine r_ic_le hX hP rfl (tgt := 32) rfl (by first | decide | omega) (by first | decide | omega) (by first | decide | omega) (by first | decide | omega) (fun c106 => ?_) (fun c106 => ?_)
      · skip
        have x203 : ∀ (next_x203 : Int) (Gx203 : Gh), next_x203 = (hw [(93, -1), (95, -1), (96, -1), (97, -1), (115, -1), (116, -1), (119, -1), (125, -1), (126, -1), (127, -1), (129, 2), (129, 16)] G Gx203) 129 this 16 → 0 ≤ next_x203 → next_x203 ≤ 96 → X 0 0 203 [] [(0, (2, this)), (1, (0, day))] S (hw [(93, -1), (95, -1), (96, -1), (97, -1), (115, -1), (116, -1), (119, -1), (125, -1), (126, -1), (127, -1), (129, 2), (129, 16)] G Gx203) := by
          intro next_x203 Gx203 next_x203_e yx203_0 yx203_1
          exact r_retV hX hP rfl rfl (by first | decide | omega) (by first | decide | omega) ⟨rfl, ⟨_, (hw_sub (hw_refl _ _) rfl).symm⟩, rfl, trivial⟩
        have loop32 : ∀ (nF : Nat) (next_h32 : Int) (Gh32 : Gh), next_h32 = (hw [(93, -1), (95, -1), (96, -1), (97, -1), (115, -1), (116, -1), (119, -1), (125, -1), (126, -1), (127, -1), (129, 2), (129, 16)] G Gh32) 129 this 16 → 0 ≤ next_h32 → next_h32 ≤ 96 → 96 - next_h32 < (nF : Int) → X 0 0 32 [] [(0, (2, this)), (1, (0, day))] S (hw [(93, -1), (95, -1), (96, -1), (97, -1), (115, -1), (116, -1), (119, -1), (125, -1), (126, -1), (127, -1), (129, 2), (129, 16)] G Gh32) := by
          intro nF
          induction nF with
          | zero => intro next_h32 Gh32 next_h32_e yh32_0 yh32_1 ym32; exfalso; omega
          | succ nF ih32 =>
            intro next_h32 Gh32 next_h32_e yh32_0 yh32_1 ym32
            refine r_ex hX hP 1 (pc' := 33) (st' := [(2, this)]) (lo' := [(0, (2, this)), (1, (0, day))]) rfl ?_
            refine r_getKI hX hP rfl fl_X8_77_129 hS (x := next_h32) next_h32_e ?_
            refine r_ex hX hP 1 (pc' := 37) (st' := [(2, this), (0, next_h32)]) (lo' := [(0, (2, this)), (1, (0, day))]) rfl ?_
            refine r_getI hX hP rfl fl_X8_87_129 hS (fun cf107 cf107e cf107a cf107b => ?_)
            refine r_ic_ge hX hP rfl (tgt := 203) rfl (by first | decide | omega) (by first | decide | omega) (by first | decide | omega) (by first | decide | omega) (fun c108 => ?_) (fun c108 => ?_)
            · skip
              refine r_eqG (X := X) (hw_sub (hw_refl [(93, -1), (95, -1), (96, -1), (97, -1), (115, -1), (116, -1), (119, -1), (125, -1), (126, -1), (127, -1), (129, 2), (129, 16)] _) rfl) ?_
              exact x203 next_h32 _ next_h32_e (by first | decide | omega) (by first | decide | omega)
            · skip
              refine r_ex hX hP 1 (pc' := 44) (st' := [(2, this)]) (lo' := [(0, (2, this)), (1, (0, day))]) rfl ?_
              refine r_getI hX hP rfl fl_X8_90_129 hS (fun of109 of109e of109a of109b => ?_)
              refine r_if_ne hX hP rfl (tgt := 203) rfl (by first | decide | omega) (by first | decide | omega) (fun c110 => ?_) (fun c110 => ?_)
              · skip
                refine r_eqG (X := X) (hw_sub (hw_refl [(93, -1), (95, -1), (96, -1), (97, -1), (115, -1), (116, -1), (119, -1), (125, -1), (126, -1), (127, -1), (129, 2), (129, 16)] _) rfl) ?_
                exact x203 next_h32 _ next_h32_e (by first | decide | omega) (by first | decide | omega)
              · skip
                refine r_ex hX hP 2 (pc' := 52) (st' := [(2, this), (2, this)]) (lo' := [(0, (2, this)), (1, (0, day))]) rfl ?_
                refine r_getKI hX hP rfl fl_X8_77_129 hS (x := next_h32) next_h32_e ?_
                refine r_callV gd hX hP rfl cv_X8_80_129 hS (d' := 0) (mc' := 0) (ms' := 0) (as' := [(0, next_h32)]) (st := []) (by first | decide | omega) (by first | decide | omega) (by first | decide | omega) rfl rfl (Nat.le_of_ble_eq_true rfl) (c_X8_dayAt E S (hw [(93, -1), (95, -1), (96, -1), (97, -1), (115, -1), (116, -1), (119, -1), (125, -1), (126, -1), (127, -1), (129, 2), (129, 16)] G Gh32) this next_h32 hS (by first | decide | omega) (by first | decide | omega)) ?_
                rintro _ _ _ ⟨rfl, rfl, z111, rfl, z111a, z111b⟩
                refine r_ex hX hP 1 (pc' := 59) (st' := [(0, day), (0, z111)]) (lo' := [(0, (2, this)), (1, (0, day))]) rfl ?_
                refine r_ic_gt hX hP rfl (tgt := 203) rfl (by first | decide | omega) (by first | decide | omega) (by first | decide | omega) (by first | decide | omega) (fun c112 => ?_) (fun c112 => ?_)
                · skip
                  refine r_eqG (X := X) (hw_sub (hw_refl [(93, -1), (95, -1), (96, -1), (97, -1), (115, -1), (116, -1), (119, -1), (125, -1), (126, -1), (127, -1), (129, 2), (129, 16)] _) rfl) ?_
                  exact x203 next_h32 _ next_h32_e (by first | decide | omega) (by first | decide | omega)
                · skip
                  refine r_ex hX hP 1 (pc' := 63) (st' := [(2, this)]) (lo' := [(0, (2, this)), (1, (0, day))]) rfl ?_
                  refine r_getR hX hP rfl fl_X8_65_129 hS (fun of113 of113e of113s => ?_)
                  refine r_ex hX hP 1 (pc' := 67) (st' := [(2, this), (2, of113)]) (lo' := [(0, (2, this)), (1, (0, day))]) rfl ?_
                  refine r_getKI hX hP rfl fl_X8_77_129 hS (x := next_h32) next_h32_e ?_
                  refine r_iald hX hP rfl al_118 of113s (by first | decide | omega) (by first | decide | omega) (fun x114 x114e x114a x114b => ?_)
                  refine r_ex hX hP 1 (pc' := 73) (st' := [(0, 64), (0, x114)]) (lo' := [(0, (2, this)), (1, (0, day))]) rfl ?_
                  refine r_idiv hX hP rfl (by first | decide | omega) (by first | decide | omega) (by first | decide | omega) (by first | decide | omega) (by first | decide | omega) ?_
                  obtain ⟨q115, q115e⟩ : ∃ q : Int, q = (Int.tdiv x114 64) := ⟨_, rfl⟩
                  rw [← q115e]
                  have q115b := td_pos q115e (by first | decide | omega) (by first | decide | omega)
                  refine r_ex hX hP 1 (pc' := 75) (st' := [(0, 4), (0, q115)]) (lo' := [(0, (2, this)), (1, (0, day))]) rfl ?_
                  refine r_irem hX hP rfl (by first | decide | omega) (by first | decide | omega) (by first | decide | omega) (by first | decide | omega) (by first | decide | omega) ?_
                  obtain ⟨q116, q116e⟩ : ∃ q : Int, q = (Int.tmod q115 4) := ⟨_, rfl⟩
                  rw [← q116e]
                  have q116b := tm_pos q116e (by first | decide | omega) (by first | decide | omega)
                  refine r_ex hX hP 2 (pc' := 78) (st' := [(2, this)]) (lo' := [(0, (2, this)), (1, (0, day)), (2, (0, q116))]) rfl ?_
                  refine r_getKR hX hP rfl fl_X8_65_129 hS (x := of113) of113e ?_
                  refine r_ex hX hP 1 (pc' := 82) (st' := [(2, this), (2, of113)]) (lo' := [(0, (2, this)), (1, (0, day)), (2, (0, q116))]) rfl ?_
                  refine r_getKI hX hP rfl fl_X8_77_129 hS (x := next_h32) next_h32_e ?_
                  refine r_ialdK hX hP rfl al_118 of113s (by first | decide | omega) (by first | decide | omega) (x := x114) x114e ?_
                  refine r_ex hX hP 1 (pc' := 88) (st' := [(0, 64), (0, x114)]) (lo' := [(0, (2, this)), (1, (0, day)), (2, (0, q116))]) rfl ?_
                  refine r_irem hX hP rfl (by first | decide | omega) (by first | decide | omega) (by first | decide | omega) (by first | decide | omega) (by first | decide | omega) ?_
                  obtain ⟨q117, q117e⟩ : ∃ q : Int, q = (Int.tmod x114 64) := ⟨_, rfl⟩
                  rw [← q117e]
                  have q117b := tm_pos q117e (by first | decide | omega) (by first | decide | omega)
                  refine r_ex hX hP 2 (pc' := 91) (st' := [(0, q116)]) (lo' := [(0, (2, this)), (1, (0, day)), (2, (0, q116)), (3, (0, q117))]) rfl ?_
                  refine r_if_ne hX hP rfl (tgt := 123) rfl (by first | decide | omega) (by first | decide | omega) (fun c118 => ?_) (fun c118 => ?_)
                  · skip
                    refine r_ex hX hP 2 (pc' := 125) (st' := [(0, 1), (0, q116)]) (lo' := [(0, (2, this)), (1, (0, day)), (2, (0, q116)), (3, (0, q117))]) rfl ?_
                    refine r_ic_ne hX hP rfl (tgt := 158) rfl (by first | decide | omega) (by first | decide | omega) (by first | decide | omega) (by first | decide | omega) (fun c119 => ?_) (fun c119 => ?_)
                    · skip
                      refine r_ex hX hP 2 (pc' := 160) (st' := [(0, 2), (0, q116)]) (lo' := [(0, (2, this)), (1, (0, day)), (2, (0, q116)), (3, (0, q117))]) rfl ?_
                      refine r_ic_ne hX hP rfl (tgt := 190) rfl (by first | decide | omega) (by first | decide | omega) (by first | decide | omega) (by first | decide | omega) (fun c120 => ?_) (fun c120 => ?_)
                      · skip
                        refine r_ex hX hP 2 (pc' := 192) (st' := [(2, this), (2, this)]) (lo' := [(0, (2, this)), (1, (0, day)), (2, (0, q116)), (3, (0, q117))]) rfl ?_
                        refine r_getKI hX hP rfl fl_X8_77_129 hS (x := next_h32) next_h32_e ?_
                        refine r_ex hX hP 2 (pc' := 197) (st' := [(0, (next_h32 + 1)), (2, this)]) (lo' := [(0, (2, this)), (1, (0, day)), (2, (0, q116)), (3, (0, q117))]) rfl ?_
                        refine r_putIK hX hP rfl fp_X8_77_129 hS (by first | decide | omega) (by first | decide | omega) (fun h121 => ?_)
                        refine r_ex hX hP 1 (pc' := 32) (st' := []) (lo' := [(0, (2, this)), (1, (0, day)), (2, (0, q116)), (3, (0, q117))]) rfl ?_
                        refine r_pick hX [0, 1] (lo' := [(0, (2, this)), (1, (0, day))]) rfl ?_
                        refine r_eqG (X := X) (hw_up (hw_base _ _ _) rfl) ?_
                        exact ih32 (next_h32 + 1) _ h121 (by first | decide | omega) (by first | decide | omega) (by first | decide | omega)
                      · skip
                        refine r_ex hX hP 2 (pc' := 165) (st' := [(2, this), (0, q117)]) (lo' := [(0, (2, this)), (1, (0, day)), (2, (0, q116)), (3, (0, q117))]) rfl ?_
                        refine r_getR hX hP rfl fl_X8_59_129 hS (fun ef122 ef122e ef122s => ?_)
                        refine r_peekI hX (tl_156 2 rfl (by decide)) ef122s (fun sip123 sip123e sip123a sip123b => ?_)
                        refine r_callV gd hX hP rfl cv_X8_93_156 ef122s (d' := 0) (mc' := 0) (ms' := 0) (as' := []) (st := [(0, q117)]) (by first | decide | omega) (by first | decide | omega) (by first | decide | omega) rfl rfl (Nat.le_of_ble_eq_true rfl) (c_size_Lev E S (hw [(93, -1), (95, -1), (96, -1), (97, -1), (115, -1), (116, -1), (119, -1), (125, -1), (126, -1), (127, -1), (129, 2), (129, 16)] G Gh32) ef122  ef122s sip123 sip123e) ?_
                        rintro _ _ _ ⟨rfl, rfl, z124, rfl, z124a, z124b, f125⟩
                        refine r_ic_ge hX hP rfl (tgt := 190) rfl (by first | decide | omega) (by first | decide | omega) (by first | decide | omega) (by first | decide | omega) (fun c126 => ?_) (fun c126 => ?_)
                        · skip
                          refine r_ex hX hP 2 (pc' := 192) (st' := [(2, this), (2, this)]) (lo' := [(0, (2, this)), (1, (0, day)), (2, (0, q116)), (3, (0, q117))]) rfl ?_
                          refine r_getKI hX hP rfl fl_X8_77_129 hS (x := next_h32) next_h32_e ?_
                          refine r_ex hX hP 2 (pc' := 197) (st' := [(0, (next_h32 + 1)), (2, this)]) (lo' := [(0, (2, this)), (1, (0, day)), (2, (0, q116)), (3, (0, q117))]) rfl ?_
                          refine r_putIK hX hP rfl fp_X8_77_129 hS (by first | decide | omega) (by first | decide | omega) (fun h127 => ?_)
                          refine r_ex hX hP 1 (pc' := 32) (st' := []) (lo' := [(0, (2, this)), (1, (0, day)), (2, (0, q116)), (3, (0, q117))]) rfl ?_
                          refine r_pick hX [0, 1] (lo' := [(0, (2, this)), (1, (0, day))]) rfl ?_
                          refine r_eqG (X := X) (hw_up (hw_base _ _ _) rfl) ?_
                          exact ih32 (next_h32 + 1) _ h127 (by first | decide | omega) (by first | decide | omega) (by first | decide | omega)
                        · skip
                          refine r_ex hX hP 2 (pc' := 176) (st' := [(2, this), (2, this)]) (lo' := [(0, (2, this)), (1, (0, day)), (2, (0, q116)), (3, (0, q117))]) rfl ?_
                          refine r_getKR hX hP rfl fl_X8_59_129 hS (x := ef122) ef122e ?_
                          refine r_ex hX hP 1 (pc' := 180) (st' := [(0, q117), (2, ef122), (2, this)]) (lo' := [(0, (2, this)), (1, (0, day)), (2, (0, q116)), (3, (0, q117))]) rfl ?_
                          have ci128 : CI E S (hw [(93, -1), (95, -1), (96, -1), (97, -1), (115, -1), (116, -1), (119, -1), (125, -1), (126, -1), (127, -1), (129, 2), (129, 16)] G Gh32) := (ci_hw ci rfl)
                          refine r_callV gd hX hP rfl cv_X8_97_156 ef122s (d' := 2) (mc' := 0) (ms' := 0) (as' := [(0, q117)]) (st := [(2, this)]) (by first | decide | omega) (by first | decide | omega) (by first | decide | omega) rfl rfl (Nat.le_of_ble_eq_true rfl) (c_get_Lev E S (hw [(93, -1), (95, -1), (96, -1), (97, -1), (115, -1), (116, -1), (119, -1), (125, -1), (126, -1), (127, -1), (129, 2), (129, 16)] G Gh32) ef122 q117 ef122s sip123 sip123e (by first | decide | omega) (by first | decide | omega) (by first | decide | omega) ci128) ?_
                          rintro _ _ _ ⟨rfl, rfl, z129, rfl, z129s⟩
                          refine r_cast hX hP rfl (tbg sg5 103 rfl rfl) ck_137_X2 z129s ?_
                          refine r_ex hX hP 1 (pc' := 187) (st' := [(0, q117), (2, z129), (2, this)]) (lo' := [(0, (2, this)), (1, (0, day)), (2, (0, q116)), (3, (0, q117))]) rfl ?_
                          refine r_callV gd hX hP rfl cv_X8_113_129 hS (d' := 5) (mc' := 0) (ms' := 0) (as' := [(2, z129), (0, q117)]) (st := []) (by first | decide | omega) (by first | decide | omega) (by first | decide | omega) rfl rfl (Nat.le_of_ble_eq_true rfl) (c_X8_runEvent E S (hw [(93, -1), (95, -1), (96, -1), (97, -1), (115, -1), (116, -1), (119, -1), (125, -1), (126, -1), (127, -1), (129, 2), (129, 16)] G Gh32) this z129 q117 hS z129s ef122 ef122e ef122s sip123 sip123e (by first | decide | omega) (by first | decide | omega) (by first | decide | omega) ci128) ?_
                          rintro _ _ _ ⟨rfl, ⟨G130, rfl⟩, rfl, -⟩
                          refine r_ex hX hP 2 (pc' := 192) (st' := [(2, this), (2, this)]) (lo' := [(0, (2, this)), (1, (0, day)), (2, (0, q116)), (3, (0, q117))]) rfl ?_
                          refine r_getKI hX hP rfl fl_X8_77_129 hS (x := next_h32) next_h32_e ?_
                          refine r_ex hX hP 2 (pc' := 197) (st' := [(0, (next_h32 + 1)), (2, this)]) (lo' := [(0, (2, this)), (1, (0, day)), (2, (0, q116)), (3, (0, q117))]) rfl ?_
                          refine r_putIK hX hP rfl fp_X8_77_129 hS (by first | decide | omega) (by first | decide | omega) (fun h131 => ?_)
                          refine r_ex hX hP 1 (pc' := 32) (st' := []) (lo' := [(0, (2, this)), (1, (0, day)), (2, (0, q116)), (3, (0, q117))]) rfl ?_
                          refine r_pick hX [0, 1] (lo' := [(0, (2, this)), (1, (0, day))]) rfl ?_
                          refine r_eqG (X := X) (hw_up (hw_sub (hw_base _ _ _) rfl) rfl) ?_
                          exact ih32 (next_h32 + 1) _ h131 (by first | decide | omega) (by first | decide | omega) (by first | decide | omega)
                    · skip
                      refine r_ex hX hP 2 (pc' := 130) (st' := [(2, this), (0, q117)]) (lo' := [(0, (2, this)), (1, (0, day)), (2, (0, q116)), (3, (0, q117))]) rfl ?_
                      refine r_getR hX hP rfl fl_X8_56_129 hS (fun tf132 tf132e tf132s => ?_)
                      refine r_peekI hX (tl_155 2 rfl (by decide)) tf132s (fun sip133 sip133e sip133a sip133b => ?_)
                      refine r_callV gd hX hP rfl cv_X8_93_155 tf132s (d' := 0) (mc' := 0) (ms' := 0) (as' := []) (st := [(0, q117)]) (by first | decide | omega) (by first | decide | omega) (by first | decide | omega) rfl rfl (Nat.le_of_ble_eq_true rfl) (c_size_Ltr E S (hw [(93, -1), (95, -1), (96, -1), (97, -1), (115, -1), (116, -1), (119, -1), (125, -1), (126, -1), (127, -1), (129, 2), (129, 16)] G Gh32) tf132  tf132s sip133 sip133e) ?_
                      rintro _ _ _ ⟨rfl, rfl, z134, rfl, z134a, z134b, f135⟩
                      refine r_ic_ge hX hP rfl (tgt := 158) rfl (by first | decide | omega) (by first | decide | omega) (by first | decide | omega) (by first | decide | omega) (fun c136 => ?_) (fun c136 => ?_)
                      · skip
                        refine r_ex hX hP 2 (pc' := 160) (st' := [(0, 2), (0, q116)]) (lo' := [(0, (2, this)), (1, (0, day)), (2, (0, q116)), (3, (0, q117))]) rfl ?_
                        refine r_ic_ne hX hP rfl (tgt := 190) rfl (by first | decide | omega) (by first | decide | omega) (by first | decide | omega) (by first | decide | omega) (fun c137 => ?_) (fun c137 => ?_)
                        · skip
                          refine r_ex hX hP 2 (pc' := 192) (st' := [(2, this), (2, this)]) (lo' := [(0, (2, this)), (1, (0, day)), (2, (0, q116)), (3, (0, q117))]) rfl ?_
                          refine r_getKI hX hP rfl fl_X8_77_129 hS (x := next_h32) next_h32_e ?_
                          refine r_ex hX hP 2 (pc' := 197) (st' := [(0, (next_h32 + 1)), (2, this)]) (lo' := [(0, (2, this)), (1, (0, day)), (2, (0, q116)), (3, (0, q117))]) rfl ?_
                          refine r_putIK hX hP rfl fp_X8_77_129 hS (by first | decide | omega) (by first | decide | omega) (fun h138 => ?_)
                          refine r_ex hX hP 1 (pc' := 32) (st' := []) (lo' := [(0, (2, this)), (1, (0, day)), (2, (0, q116)), (3, (0, q117))]) rfl ?_
                          refine r_pick hX [0, 1] (lo' := [(0, (2, this)), (1, (0, day))]) rfl ?_
                          refine r_eqG (X := X) (hw_up (hw_base _ _ _) rfl) ?_
                          exact ih32 (next_h32 + 1) _ h138 (by first | decide | omega) (by first | decide | omega) (by first | decide | omega)
                        · skip
                          exfalso; omega
                      · skip
                        refine r_ex hX hP 2 (pc' := 141) (st' := [(2, this), (2, this)]) (lo' := [(0, (2, this)), (1, (0, day)), (2, (0, q116)), (3, (0, q117))]) rfl ?_
                        refine r_getKR hX hP rfl fl_X8_56_129 hS (x := tf132) tf132e ?_
                        refine r_ex hX hP 1 (pc' := 145) (st' := [(0, q117), (2, tf132), (2, this)]) (lo' := [(0, (2, this)), (1, (0, day)), (2, (0, q116)), (3, (0, q117))]) rfl ?_
                        have ci139 : CI E S (hw [(93, -1), (95, -1), (96, -1), (97, -1), (115, -1), (116, -1), (119, -1), (125, -1), (126, -1), (127, -1), (129, 2), (129, 16)] G Gh32) := (ci_hw ci rfl)
                        refine r_callV gd hX hP rfl cv_X8_97_155 tf132s (d' := 2) (mc' := 0) (ms' := 0) (as' := [(0, q117)]) (st := [(2, this)]) (by first | decide | omega) (by first | decide | omega) (by first | decide | omega) rfl rfl (Nat.le_of_ble_eq_true rfl) (c_get_Ltr E S (hw [(93, -1), (95, -1), (96, -1), (97, -1), (115, -1), (116, -1), (119, -1), (125, -1), (126, -1), (127, -1), (129, 2), (129, 16)] G Gh32) tf132 q117 tf132s sip133 sip133e (by first | decide | omega) (by first | decide | omega) (by first | decide | omega) ci139) ?_
                        rintro _ _ _ ⟨rfl, rfl, z140, rfl, z140s⟩
                        refine r_cast hX hP rfl (tbg sg5 91 rfl rfl) ck_140_X1 z140s ?_
                        refine r_ex hX hP 1 (pc' := 152) (st' := [(0, q117), (2, z140), (2, this)]) (lo' := [(0, (2, this)), (1, (0, day)), (2, (0, q116)), (3, (0, q117))]) rfl ?_
                        refine r_callV gd hX hP rfl cv_X8_107_129 hS (d' := 0) (mc' := 0) (ms' := 0) (as' := [(2, z140), (0, q117)]) (st := []) (by first | decide | omega) (by first | decide | omega) (by first | decide | omega) rfl rfl (Nat.le_of_ble_eq_true rfl) (c_X8_runTrade E S (hw [(93, -1), (95, -1), (96, -1), (97, -1), (115, -1), (116, -1), (119, -1), (125, -1), (126, -1), (127, -1), (129, 2), (129, 16)] G Gh32) this z140 q117 hS z140s (by first | decide | omega) (by first | decide | omega)) ?_
                        rintro _ _ _ ⟨rfl, ⟨G141, rfl⟩, rfl, -⟩
                        refine r_ex hX hP 3 (pc' := 192) (st' := [(2, this), (2, this)]) (lo' := [(0, (2, this)), (1, (0, day)), (2, (0, q116)), (3, (0, q117))]) rfl ?_
                        refine r_getKI hX hP rfl fl_X8_77_129 hS (x := next_h32) next_h32_e ?_
                        refine r_ex hX hP 2 (pc' := 197) (st' := [(0, (next_h32 + 1)), (2, this)]) (lo' := [(0, (2, this)), (1, (0, day)), (2, (0, q116)), (3, (0, q117))]) rfl ?_
                        refine r_putIK hX hP rfl fp_X8_77_129 hS (by first | decide | omega) (by first | decide | omega) (fun h142 => ?_)
                        refine r_ex hX hP 1 (pc' := 32) (st' := []) (lo' := [(0, (2, this)), (1, (0, day)), (2, (0, q116)), (3, (0, q117))]) rfl ?_
                        refine r_pick hX [0, 1] (lo' := [(0, (2, this)), (1, (0, day))]) rfl ?_
                        refine r_eqG (X := X) (hw_up (hw_sub (hw_base _ _ _) rfl) rfl) ?_
                        exact ih32 (next_h32 + 1) _ h142 (by first | decide | omega) (by first | decide | omega) (by first | decide | omega)
                  · skip
                    refine r_ex hX hP 2 (pc' := 96) (st' := [(2, this), (0, q117)]) (lo' := [(0, (2, this)), (1, (0, day)), (2, (0, q116)), (3, (0, q117))]) rfl ?_
                    refine r_getR hX hP rfl fl_X8_52_129 hS (fun if143 if143e if143s => ?_)
                    refine r_peekI hX (tl_154 2 rfl (by decide)) if143s (fun sip144 sip144e sip144a sip144b => ?_)
                    refine r_callV gd hX hP rfl cv_X8_93_154 if143s (d' := 0) (mc' := 0) (ms' := 0) (as' := []) (st := [(0, q117)]) (by first | decide | omega) (by first | decide | omega) (by first | decide | omega) rfl rfl (Nat.le_of_ble_eq_true rfl) (c_size_Lis E S (hw [(93, -1), (95, -1), (96, -1), (97, -1), (115, -1), (116, -1), (119, -1), (125, -1), (126, -1), (127, -1), (129, 2), (129, 16)] G Gh32) if143  if143s sip144 sip144e) ?_
                    rintro _ _ _ ⟨rfl, rfl, z145, rfl, z145a, z145b, f146⟩
                    refine r_ic_ge hX hP rfl (tgt := 123) rfl (by first | decide | omega) (by first | decide | omega) (by first | decide | omega) (by first | decide | omega) (fun c147 => ?_) (fun c147 => ?_)
                    · skip
                      refine r_ex hX hP 2 (pc' := 125) (st' := [(0, 1), (0, q116)]) (lo' := [(0, (2, this)), (1, (0, day)), (2, (0, q116)), (3, (0, q117))]) rfl ?_
                      refine r_ic_ne hX hP rfl (tgt := 158) rfl (by first | decide | omega) (by first | decide | omega) (by first | decide | omega) (by first | decide | omega) (fun c148 => ?_) (fun c148 => ?_)
                      · skip
                        refine r_ex hX hP 2 (pc' := 160) (st' := [(0, 2), (0, q116)]) (lo' := [(0, (2, this)), (1, (0, day)), (2, (0, q116)), (3, (0, q117))]) rfl ?_
                        refine r_ic_ne hX hP rfl (tgt := 190) rfl (by first | decide | omega) (by first | decide | omega) (by first | decide | omega) (by first | decide | omega) (fun c149 => ?_) (fun c149 => ?_)
                        · skip
                          refine r_ex hX hP 2 (pc' := 192) (st' := [(2, this), (2, this)]) (lo' := [(0, (2, this)), (1, (0, day)), (2, (0, q116)), (3, (0, q117))]) rfl ?_
                          refine r_getKI hX hP rfl fl_X8_77_129 hS (x := next_h32) next_h32_e ?_
                          refine r_ex hX hP 2 (pc' := 197) (st' := [(0, (next_h32 + 1)), (2, this)]) (lo' := [(0, (2, this)), (1, (0, day)), (2, (0, q116)), (3, (0, q117))]) rfl ?_
                          refine r_putIK hX hP rfl fp_X8_77_129 hS (by first | decide | omega) (by first | decide | omega) (fun h150 => ?_)
                          refine r_ex hX hP 1 (pc' := 32) (st' := []) (lo' := [(0, (2, this)), (1, (0, day)), (2, (0, q116)), (3, (0, q117))]) rfl ?_
                          refine r_pick hX [0, 1] (lo' := [(0, (2, this)), (1, (0, day))]) rfl ?_
                          refine r_eqG (X := X) (hw_up (hw_base _ _ _) rfl) ?_
                          exact ih32 (next_h32 + 1) _ h150 (by first | decide | omega) (by first | decide | omega) (by first | decide | omega)
                        · skip
                          exfalso; omega
                      · skip
                        exfalso; omega
                    · skip
                      refine r_ex hX hP 2 (pc' := 107) (st' := [(2, this), (2, this)]) (lo' := [(0, (2, this)), (1, (0, day)), (2, (0, q116)), (3, (0, q117))]) rfl ?_
                      refine r_getKR hX hP rfl fl_X8_52_129 hS (x := if143) if143e ?_
                      refine r_ex hX hP 1 (pc' := 111) (st' := [(0, q117), (2, if143), (2, this)]) (lo' := [(0, (2, this)), (1, (0, day)), (2, (0, q116)), (3, (0, q117))]) rfl ?_
                      have ci151 : CI E S (hw [(93, -1), (95, -1), (96, -1), (97, -1), (115, -1), (116, -1), (119, -1), (125, -1), (126, -1), (127, -1), (129, 2), (129, 16)] G Gh32) := (ci_hw ci rfl)
                      refine r_callV gd hX hP rfl cv_X8_97_154 if143s (d' := 2) (mc' := 0) (ms' := 0) (as' := [(0, q117)]) (st := [(2, this)]) (by first | decide | omega) (by first | decide | omega) (by first | decide | omega) rfl rfl (Nat.le_of_ble_eq_true rfl) (c_get_Lis E S (hw [(93, -1), (95, -1), (96, -1), (97, -1), (115, -1), (116, -1), (119, -1), (125, -1), (126, -1), (127, -1), (129, 2), (129, 16)] G Gh32) if143 q117 if143s sip144 sip144e (by first | decide | omega) (by first | decide | omega) (by first | decide | omega) ci151) ?_
                      rintro _ _ _ ⟨rfl, rfl, z152, rfl, z152s⟩
                      refine r_cast hX hP rfl (tbg sg5 91 rfl rfl) ck_139_X1 z152s ?_
                      refine r_callV gd hX hP rfl cv_X8_103_129 hS (d' := 0) (mc' := 0) (ms' := 0) (as' := [(2, z152)]) (st := []) (by first | decide | omega) (by first | decide | omega) (by first | decide | omega) rfl rfl (Nat.le_of_ble_eq_true rfl) (c_X8_runIssue E S (hw [(93, -1), (95, -1), (96, -1), (97, -1), (115, -1), (116, -1), (119, -1), (125, -1), (126, -1), (127, -1), (129, 2), (129, 16)] G Gh32) this z152 hS z152s) ?_
                      rintro _ _ _ ⟨rfl, ⟨G153, rfl⟩, rfl, -⟩
                      refine r_ex hX hP 3 (pc' := 192) (st' := [(2, this), (2, this)]) (lo' := [(0, (2, this)), (1, (0, day)), (2, (0, q116)), (3, (0, q117))]) rfl ?_
                      refine r_getKI hX hP rfl fl_X8_77_129 hS (x := next_h32) next_h32_e ?_
                      refine r_ex hX hP 2 (pc' := 197) (st' := [(0, (next_h32 + 1)), (2, this)]) (lo' := [(0, (2, this)), (1, (0, day)), (2, (0, q116)), (3, (0, q117))]) rfl ?_
                      refine r_putIK hX hP rfl fp_X8_77_129 hS (by first | decide | omega) (by first | decide | omega) (fun h154 => ?_)
                      refine r_ex hX hP 1 (pc' := 32) (st' := []) (lo' := [(0, (2, this)), (1, (0, day)), (2, (0, q116)), (3, (0, q117))]) rfl ?_
                      refine r_pick hX [0, 1] (lo' := [(0, (2, this)), (1, (0, day))]) rfl ?_
                      refine r_eqG (X := X) (hw_up (hw_sub (hw_base _ _ _) rfl) rfl) ?_
                      exact ih32 (next_h32 + 1) _ h154 (by first | decide | omega) (by first | decide | omega) (by first | decide | omega)
        refine r_eqG (X := X) (hw_refl [(93, -1), (95, -1), (96, -1), (97, -1), (115, -1), (116, -1), (119, -1), (125, -1), (126, -1), (127, -1), (129, 2), (129, 16)] _) ?_
        exact loop32 ((96 - nf55) + 1 : Int).toNat nf55 _ nf55e (by first | decide | omega) (by first | decide | omega) (by first | decide | omega)
      · skip
        refine r_ex hX hP 1 (pc' := 29) (st' := [(2, this)]) (lo' := [(0, (2, this)), (1, (0, day))]) rfl ?_
        refine r_callV gd hX hP rfl cv_X8_84_129 hS (d' := 3) (mc' := 0) (ms' := 0) (as' := []) (st := []) (by first | decide | omega) (by first | decide | omega) (by first | decide | omega) rfl rfl (Nat.le_of_ble_eq_true rfl) (c_X8_restart E S G this  hS ci) ?_
        rintro _ _ _ ⟨rfl, ⟨G155, rfl⟩, rfl, neh156, neh156e, f157⟩
        refine r_peekI hX (tl_129 16 rfl (by decide)) hS (fun o158 o158e o158a o158b => ?_)
        obtain rfl : neh156 = o158 := neh156e.trans o158e.symm
        have x203 : ∀ (next_x203 : Int) (Gx203 : Gh), next_x203 = (hw [(93, -1), (95, -1), (96, -1), (97, -1), (115, -1), (116, -1), (119, -1), (125, -1), (126, -1), (127, -1), (129, 2), (129, 16)] (hw [(95, -1), (115, -1), (118, -1), (129, 1), (129, 2), (129, 15), (129, 16)] G G155) Gx203) 129 this 16 → 0 ≤ next_x203 → next_x203 ≤ 96 → X 0 0 203 [] [(0, (2, this)), (1, (0, day))] S (hw [(93, -1), (95, -1), (96, -1), (97, -1), (115, -1), (116, -1), (119, -1), (125, -1), (126, -1), (127, -1), (129, 2), (129, 16)] (hw [(95, -1), (115, -1), (118, -1), (129, 1), (129, 2), (129, 15), (129, 16)] G G155) Gx203) := by
          intro next_x203 Gx203 next_x203_e yx203_0 yx203_1
          exact r_retV hX hP rfl rfl (by first | decide | omega) (by first | decide | omega) ⟨rfl, ⟨_, (hw_sub (hw_sub (hw_refl _ _) rfl) rfl).symm⟩, rfl, trivial⟩
        have loop32 : ∀ (nF : Nat) (next_h32 : Int) (Gh32 : Gh), next_h32 = (hw [(93, -1), (95, -1), (96, -1), (97, -1), (115, -1), (116, -1), (119, -1), (125, -1), (126, -1), (127, -1), (129, 2), (129, 16)] (hw [(95, -1), (115, -1), (118, -1), (129, 1), (129, 2), (129, 15), (129, 16)] G G155) Gh32) 129 this 16 → 0 ≤ next_h32 → next_h32 ≤ 96 → 96 - next_h32 < (nF : Int) → X 0 0 32 [] [(0, (2, this)), (1, (0, day))] S (hw [(93, -1), (95, -1), (96, -1), (97, -1), (115, -1), (116, -1), (119, -1), (125, -1), (126, -1), (127, -1), (129, 2), (129, 16)] (hw [(95, -1), (115, -1), (118, -1), (129, 1), (129, 2), (129, 15), (129, 16)] G G155) Gh32) := by
          intro nF
          induction nF with
          | zero => intro next_h32 Gh32 next_h32_e yh32_0 yh32_1 ym32; exfalso; omega
          | succ nF ih32 =>
            intro next_h32 Gh32 next_h32_e yh32_0 yh32_1 ym32
            refine r_ex hX hP 1 (pc' := 33) (st' := [(2, this)]) (lo' := [(0, (2, this)), (1, (0, day))]) rfl ?_
            refine r_getKI hX hP rfl fl_X8_77_129 hS (x := next_h32) next_h32_e ?_
            refine r_ex hX hP 1 (pc' := 37) (st' := [(2, this), (0, next_h32)]) (lo' := [(0, (2, this)), (1, (0, day))]) rfl ?_
            refine r_getI hX hP rfl fl_X8_87_129 hS (fun cf159 cf159e cf159a cf159b => ?_)
            refine r_ic_ge hX hP rfl (tgt := 203) rfl (by first | decide | omega) (by first | decide | omega) (by first | decide | omega) (by first | decide | omega) (fun c160 => ?_) (fun c160 => ?_)
            · skip
              refine r_eqG (X := X) (hw_sub (hw_refl [(93, -1), (95, -1), (96, -1), (97, -1), (115, -1), (116, -1), (119, -1), (125, -1), (126, -1), (127, -1), (129, 2), (129, 16)] _) rfl) ?_
              exact x203 next_h32 _ next_h32_e (by first | decide | omega) (by first | decide | omega)
            · skip
              refine r_ex hX hP 1 (pc' := 44) (st' := [(2, this)]) (lo' := [(0, (2, this)), (1, (0, day))]) rfl ?_
              refine r_getI hX hP rfl fl_X8_90_129 hS (fun of161 of161e of161a of161b => ?_)
              refine r_if_ne hX hP rfl (tgt := 203) rfl (by first | decide | omega) (by first | decide | omega) (fun c162 => ?_) (fun c162 => ?_)
              · skip
                refine r_eqG (X := X) (hw_sub (hw_refl [(93, -1), (95, -1), (96, -1), (97, -1), (115, -1), (116, -1), (119, -1), (125, -1), (126, -1), (127, -1), (129, 2), (129, 16)] _) rfl) ?_
                exact x203 next_h32 _ next_h32_e (by first | decide | omega) (by first | decide | omega)
              · skip
                refine r_ex hX hP 2 (pc' := 52) (st' := [(2, this), (2, this)]) (lo' := [(0, (2, this)), (1, (0, day))]) rfl ?_
                refine r_getKI hX hP rfl fl_X8_77_129 hS (x := next_h32) next_h32_e ?_
                refine r_callV gd hX hP rfl cv_X8_80_129 hS (d' := 0) (mc' := 0) (ms' := 0) (as' := [(0, next_h32)]) (st := []) (by first | decide | omega) (by first | decide | omega) (by first | decide | omega) rfl rfl (Nat.le_of_ble_eq_true rfl) (c_X8_dayAt E S (hw [(93, -1), (95, -1), (96, -1), (97, -1), (115, -1), (116, -1), (119, -1), (125, -1), (126, -1), (127, -1), (129, 2), (129, 16)] (hw [(95, -1), (115, -1), (118, -1), (129, 1), (129, 2), (129, 15), (129, 16)] G G155) Gh32) this next_h32 hS (by first | decide | omega) (by first | decide | omega)) ?_
                rintro _ _ _ ⟨rfl, rfl, z163, rfl, z163a, z163b⟩
                refine r_ex hX hP 1 (pc' := 59) (st' := [(0, day), (0, z163)]) (lo' := [(0, (2, this)), (1, (0, day))]) rfl ?_
                refine r_ic_gt hX hP rfl (tgt := 203) rfl (by first | decide | omega) (by first | decide | omega) (by first | decide | omega) (by first | decide | omega) (fun c164 => ?_) (fun c164 => ?_)
                · skip
                  refine r_eqG (X := X) (hw_sub (hw_refl [(93, -1), (95, -1), (96, -1), (97, -1), (115, -1), (116, -1), (119, -1), (125, -1), (126, -1), (127, -1), (129, 2), (129, 16)] _) rfl) ?_
                  exact x203 next_h32 _ next_h32_e (by first | decide | omega) (by first | decide | omega)
                · skip
                  refine r_ex hX hP 1 (pc' := 63) (st' := [(2, this)]) (lo' := [(0, (2, this)), (1, (0, day))]) rfl ?_
                  refine r_getR hX hP rfl fl_X8_65_129 hS (fun of165 of165e of165s => ?_)
                  refine r_ex hX hP 1 (pc' := 67) (st' := [(2, this), (2, of165)]) (lo' := [(0, (2, this)), (1, (0, day))]) rfl ?_
                  refine r_getKI hX hP rfl fl_X8_77_129 hS (x := next_h32) next_h32_e ?_
                  refine r_iald hX hP rfl al_118 of165s (by first | decide | omega) (by first | decide | omega) (fun x166 x166e x166a x166b => ?_)
                  refine r_ex hX hP 1 (pc' := 73) (st' := [(0, 64), (0, x166)]) (lo' := [(0, (2, this)), (1, (0, day))]) rfl ?_
                  refine r_idiv hX hP rfl (by first | decide | omega) (by first | decide | omega) (by first | decide | omega) (by first | decide | omega) (by first | decide | omega) ?_
                  obtain ⟨q167, q167e⟩ : ∃ q : Int, q = (Int.tdiv x166 64) := ⟨_, rfl⟩
                  rw [← q167e]
                  have q167b := td_pos q167e (by first | decide | omega) (by first | decide | omega)
                  refine r_ex hX hP 1 (pc' := 75) (st' := [(0, 4), (0, q167)]) (lo' := [(0, (2, this)), (1, (0, day))]) rfl ?_
                  refine r_irem hX hP rfl (by first | decide | omega) (by first | decide | omega) (by first | decide | omega) (by first | decide | omega) (by first | decide | omega) ?_
                  obtain ⟨q168, q168e⟩ : ∃ q : Int, q = (Int.tmod q167 4) := ⟨_, rfl⟩
                  rw [← q168e]
                  have q168b := tm_pos q168e (by first | decide | omega) (by first | decide | omega)
                  refine r_ex hX hP 2 (pc' := 78) (st' := [(2, this)]) (lo' := [(0, (2, this)), (1, (0, day)), (2, (0, q168))]) rfl ?_
                  refine r_getKR hX hP rfl fl_X8_65_129 hS (x := of165) of165e ?_
                  refine r_ex hX hP 1 (pc' := 82) (st' := [(2, this), (2, of165)]) (lo' := [(0, (2, this)), (1, (0, day)), (2, (0, q168))]) rfl ?_
                  refine r_getKI hX hP rfl fl_X8_77_129 hS (x := next_h32) next_h32_e ?_
                  refine r_ialdK hX hP rfl al_118 of165s (by first | decide | omega) (by first | decide | omega) (x := x166) x166e ?_
                  refine r_ex hX hP 1 (pc' := 88) (st' := [(0, 64), (0, x166)]) (lo' := [(0, (2, this)), (1, (0, day)), (2, (0, q168))]) rfl ?_
                  refine r_irem hX hP rfl (by first | decide | omega) (by first | decide | omega) (by first | decide | omega) (by first | decide | omega) (by first | decide | omega) ?_
                  obtain ⟨q169, q169e⟩ : ∃ q : Int, q = (Int.tmod x166 64) := ⟨_, rfl⟩
                  rw [← q169e]
                  have q169b := tm_pos q169e (by first | decide | omega) (by first | decide | omega)
                  refine r_ex hX hP 2 (pc' := 91) (st' := [(0, q168)]) (lo' := [(0, (2, this)), (1, (0, day)), (2, (0, q168)), (3, (0, q169))]) rfl ?_
                  refine r_if_ne hX hP rfl (tgt := 123) rfl (by first | decide | omega) (by first | decide | omega) (fun c170 => ?_) (fun c170 => ?_)
                  · skip
                    refine r_ex hX hP 2 (pc' := 125) (st' := [(0, 1), (0, q168)]) (lo' := [(0, (2, this)), (1, (0, day)), (2, (0, q168)), (3, (0, q169))]) rfl ?_
                    refine r_ic_ne hX hP rfl (tgt := 158) rfl (by first | decide | omega) (by first | decide | omega) (by first | decide | omega) (by first | decide | omega) (fun c171 => ?_) (fun c171 => ?_)
                    · skip
                      refine r_ex hX hP 2 (pc' := 160) (st' := [(0, 2), (0, q168)]) (lo' := [(0, (2, this)), (1, (0, day)), (2, (0, q168)), (3, (0, q169))]) rfl ?_
                      refine r_ic_ne hX hP rfl (tgt := 190) rfl (by first | decide | omega) (by first | decide | omega) (by first | decide | omega) (by first | decide | omega) (fun c172 => ?_) (fun c172 => ?_)
                      · skip
                        refine r_ex hX hP 2 (pc' := 192) (st' := [(2, this), (2, this)]) (lo' := [(0, (2, this)), (1, (0, day)), (2, (0, q168)), (3, (0, q169))]) rfl ?_
                        refine r_getKI hX hP rfl fl_X8_77_129 hS (x := next_h32) next_h32_e ?_
                        refine r_ex hX hP 2 (pc' := 197) (st' := [(0, (next_h32 + 1)), (2, this)]) (lo' := [(0, (2, this)), (1, (0, day)), (2, (0, q168)), (3, (0, q169))]) rfl ?_
                        refine r_putIK hX hP rfl fp_X8_77_129 hS (by first | decide | omega) (by first | decide | omega) (fun h173 => ?_)
                        refine r_ex hX hP 1 (pc' := 32) (st' := []) (lo' := [(0, (2, this)), (1, (0, day)), (2, (0, q168)), (3, (0, q169))]) rfl ?_
                        refine r_pick hX [0, 1] (lo' := [(0, (2, this)), (1, (0, day))]) rfl ?_
                        refine r_eqG (X := X) (hw_up (hw_base _ _ _) rfl) ?_
                        exact ih32 (next_h32 + 1) _ h173 (by first | decide | omega) (by first | decide | omega) (by first | decide | omega)
                      · skip
                        refine r_ex hX hP 2 (pc' := 165) (st' := [(2, this), (0, q169)]) (lo' := [(0, (2, this)), (1, (0, day)), (2, (0, q168)), (3, (0, q169))]) rfl ?_
                        refine r_getR hX hP rfl fl_X8_59_129 hS (fun ef174 ef174e ef174s => ?_)
                        refine r_peekI hX (tl_156 2 rfl (by decide)) ef174s (fun sip175 sip175e sip175a sip175b => ?_)
                        refine r_callV gd hX hP rfl cv_X8_93_156 ef174s (d' := 0) (mc' := 0) (ms' := 0) (as' := []) (st := [(0, q169)]) (by first | decide | omega) (by first | decide | omega) (by first | decide | omega) rfl rfl (Nat.le_of_ble_eq_true rfl) (c_size_Lev E S (hw [(93, -1), (95, -1), (96, -1), (97, -1), (115, -1), (116, -1), (119, -1), (125, -1), (126, -1), (127, -1), (129, 2), (129, 16)] (hw [(95, -1), (115, -1), (118, -1), (129, 1), (129, 2), (129, 15), (129, 16)] G G155) Gh32) ef174  ef174s sip175 sip175e) ?_
                        rintro _ _ _ ⟨rfl, rfl, z176, rfl, z176a, z176b, f177⟩
                        refine r_ic_ge hX hP rfl (tgt := 190) rfl (by first | decide | omega) (by first | decide | omega) (by first | decide | omega) (by first | decide | omega) (fun c178 => ?_) (fun c178 => ?_)
                        · skip
                          refine r_ex hX hP 2 (pc' := 192) (st' := [(2, this), (2, this)]) (lo' := [(0, (2, this)), (1, (0, day)), (2, (0, q168)), (3, (0, q169))]) rfl ?_
                          refine r_getKI hX hP rfl fl_X8_77_129 hS (x := next_h32) next_h32_e ?_
                          refine r_ex hX hP 2 (pc' := 197) (st' := [(0, (next_h32 + 1)), (2, this)]) (lo' := [(0, (2, this)), (1, (0, day)), (2, (0, q168)), (3, (0, q169))]) rfl ?_
                          refine r_putIK hX hP rfl fp_X8_77_129 hS (by first | decide | omega) (by first | decide | omega) (fun h179 => ?_)
                          refine r_ex hX hP 1 (pc' := 32) (st' := []) (lo' := [(0, (2, this)), (1, (0, day)), (2, (0, q168)), (3, (0, q169))]) rfl ?_
                          refine r_pick hX [0, 1] (lo' := [(0, (2, this)), (1, (0, day))]) rfl ?_
                          refine r_eqG (X := X) (hw_up (hw_base _ _ _) rfl) ?_
                          exact ih32 (next_h32 + 1) _ h179 (by first | decide | omega) (by first | decide | omega) (by first | decide | omega)
                        · skip
                          refine r_ex hX hP 2 (pc' := 176) (st' := [(2, this), (2, this)]) (lo' := [(0, (2, this)), (1, (0, day)), (2, (0, q168)), (3, (0, q169))]) rfl ?_
                          refine r_getKR hX hP rfl fl_X8_59_129 hS (x := ef174) ef174e ?_
                          refine r_ex hX hP 1 (pc' := 180) (st' := [(0, q169), (2, ef174), (2, this)]) (lo' := [(0, (2, this)), (1, (0, day)), (2, (0, q168)), (3, (0, q169))]) rfl ?_
                          have ci180 : CI E S (hw [(93, -1), (95, -1), (96, -1), (97, -1), (115, -1), (116, -1), (119, -1), (125, -1), (126, -1), (127, -1), (129, 2), (129, 16)] (hw [(95, -1), (115, -1), (118, -1), (129, 1), (129, 2), (129, 15), (129, 16)] G G155) Gh32) := (ci_hw (ci_hw ci rfl) rfl)
                          refine r_callV gd hX hP rfl cv_X8_97_156 ef174s (d' := 2) (mc' := 0) (ms' := 0) (as' := [(0, q169)]) (st := [(2, this)]) (by first | decide | omega) (by first | decide | omega) (by first | decide | omega) rfl rfl (Nat.le_of_ble_eq_true rfl) (c_get_Lev E S (hw [(93, -1), (95, -1), (96, -1), (97, -1), (115, -1), (116, -1), (119, -1), (125, -1), (126, -1), (127, -1), (129, 2), (129, 16)] (hw [(95, -1), (115, -1), (118, -1), (129, 1), (129, 2), (129, 15), (129, 16)] G G155) Gh32) ef174 q169 ef174s sip175 sip175e (by first | decide | omega) (by first | decide | omega) (by first | decide | omega) ci180) ?_
                          rintro _ _ _ ⟨rfl, rfl, z181, rfl, z181s⟩
                          refine r_cast hX hP rfl (tbg sg5 103 rfl rfl) ck_137_X2 z181s ?_
                          refine r_ex hX hP 1 (pc' := 187) (st' := [(0, q169), (2, z181), (2, this)]) (lo' := [(0, (2, this)), (1, (0, day)), (2, (0, q168)), (3, (0, q169))]) rfl ?_
                          refine r_callV gd hX hP rfl cv_X8_113_129 hS (d' := 5) (mc' := 0) (ms' := 0) (as' := [(2, z181), (0, q169)]) (st := []) (by first | decide | omega) (by first | decide | omega) (by first | decide | omega) rfl rfl (Nat.le_of_ble_eq_true rfl) (c_X8_runEvent E S (hw [(93, -1), (95, -1), (96, -1), (97, -1), (115, -1), (116, -1), (119, -1), (125, -1), (126, -1), (127, -1), (129, 2), (129, 16)] (hw [(95, -1), (115, -1), (118, -1), (129, 1), (129, 2), (129, 15), (129, 16)] G G155) Gh32) this z181 q169 hS z181s ef174 ef174e ef174s sip175 sip175e (by first | decide | omega) (by first | decide | omega) (by first | decide | omega) ci180) ?_
                          rintro _ _ _ ⟨rfl, ⟨G182, rfl⟩, rfl, -⟩
                          refine r_ex hX hP 2 (pc' := 192) (st' := [(2, this), (2, this)]) (lo' := [(0, (2, this)), (1, (0, day)), (2, (0, q168)), (3, (0, q169))]) rfl ?_
                          refine r_getKI hX hP rfl fl_X8_77_129 hS (x := next_h32) next_h32_e ?_
                          refine r_ex hX hP 2 (pc' := 197) (st' := [(0, (next_h32 + 1)), (2, this)]) (lo' := [(0, (2, this)), (1, (0, day)), (2, (0, q168)), (3, (0, q169))]) rfl ?_
                          refine r_putIK hX hP rfl fp_X8_77_129 hS (by first | decide | omega) (by first | decide | omega) (fun h183 => ?_)
                          refine r_ex hX hP 1 (pc' := 32) (st' := []) (lo' := [(0, (2, this)), (1, (0, day)), (2, (0, q168)), (3, (0, q169))]) rfl ?_
                          refine r_pick hX [0, 1] (lo' := [(0, (2, this)), (1, (0, day))]) rfl ?_
                          refine r_eqG (X := X) (hw_up (hw_sub (hw_base _ _ _) rfl) rfl) ?_
                          exact ih32 (next_h32 + 1) _ h183 (by first | decide | omega) (by first | decide | omega) (by first | decide | omega)
                    · skip
                      refine r_ex hX hP 2 (pc' := 130) (st' := [(2, this), (0, q169)]) (lo' := [(0, (2, this)), (1, (0, day)), (2, (0, q168)), (3, (0, q169))]) rfl ?_
                      refine r_getR hX hP rfl fl_X8_56_129 hS (fun tf184 tf184e tf184s => ?_)
                      refine r_peekI hX (tl_155 2 rfl (by decide)) tf184s (fun sip185 sip185e sip185a sip185b => ?_)
                      refine r_callV gd hX hP rfl cv_X8_93_155 tf184s (d' := 0) (mc' := 0) (ms' := 0) (as' := []) (st := [(0, q169)]) (by first | decide | omega) (by first | decide | omega) (by first | decide | omega) rfl rfl (Nat.le_of_ble_eq_true rfl) (c_size_Ltr E S (hw [(93, -1), (95, -1), (96, -1), (97, -1), (115, -1), (116, -1), (119, -1), (125, -1), (126, -1), (127, -1), (129, 2), (129, 16)] (hw [(95, -1), (115, -1), (118, -1), (129, 1), (129, 2), (129, 15), (129, 16)] G G155) Gh32) tf184  tf184s sip185 sip185e) ?_
                      rintro _ _ _ ⟨rfl, rfl, z186, rfl, z186a, z186b, f187⟩
                      refine r_ic_ge hX hP rfl (tgt := 158) rfl (by first | decide | omega) (by first | decide | omega) (by first | decide | omega) (by first | decide | omega) (fun c188 => ?_) (fun c188 => ?_)
                      · skip
                        refine r_ex hX hP 2 (pc' := 160) (st' := [(0, 2), (0, q168)]) (lo' := [(0, (2, this)), (1, (0, day)), (2, (0, q168)), (3, (0, q169))]) rfl ?_
                        refine r_ic_ne hX hP rfl (tgt := 190) rfl (by first | decide | omega) (by first | decide | omega) (by first | decide | omega) (by first | decide | omega) (fun c189 => ?_) (fun c189 => ?_)
                        · skip
                          refine r_ex hX hP 2 (pc' := 192) (st' := [(2, this), (2, this)]) (lo' := [(0, (2, this)), (1, (0, day)), (2, (0, q168)), (3, (0, q169))]) rfl ?_
                          refine r_getKI hX hP rfl fl_X8_77_129 hS (x := next_h32) next_h32_e ?_
                          refine r_ex hX hP 2 (pc' := 197) (st' := [(0, (next_h32 + 1)), (2, this)]) (lo' := [(0, (2, this)), (1, (0, day)), (2, (0, q168)), (3, (0, q169))]) rfl ?_
                          refine r_putIK hX hP rfl fp_X8_77_129 hS (by first | decide | omega) (by first | decide | omega) (fun h190 => ?_)
                          refine r_ex hX hP 1 (pc' := 32) (st' := []) (lo' := [(0, (2, this)), (1, (0, day)), (2, (0, q168)), (3, (0, q169))]) rfl ?_
                          refine r_pick hX [0, 1] (lo' := [(0, (2, this)), (1, (0, day))]) rfl ?_
                          refine r_eqG (X := X) (hw_up (hw_base _ _ _) rfl) ?_
                          exact ih32 (next_h32 + 1) _ h190 (by first | decide | omega) (by first | decide | omega) (by first | decide | omega)
                        · skip
                          exfalso; omega
                      · skip
                        refine r_ex hX hP 2 (pc' := 141) (st' := [(2, this), (2, this)]) (lo' := [(0, (2, this)), (1, (0, day)), (2, (0, q168)), (3, (0, q169))]) rfl ?_
                        refine r_getKR hX hP rfl fl_X8_56_129 hS (x := tf184) tf184e ?_
                        refine r_ex hX hP 1 (pc' := 145) (st' := [(0, q169), (2, tf184), (2, this)]) (lo' := [(0, (2, this)), (1, (0, day)), (2, (0, q168)), (3, (0, q169))]) rfl ?_
                        have ci191 : CI E S (hw [(93, -1), (95, -1), (96, -1), (97, -1), (115, -1), (116, -1), (119, -1), (125, -1), (126, -1), (127, -1), (129, 2), (129, 16)] (hw [(95, -1), (115, -1), (118, -1), (129, 1), (129, 2), (129, 15), (129, 16)] G G155) Gh32) := (ci_hw (ci_hw ci rfl) rfl)
                        refine r_callV gd hX hP rfl cv_X8_97_155 tf184s (d' := 2) (mc' := 0) (ms' := 0) (as' := [(0, q169)]) (st := [(2, this)]) (by first | decide | omega) (by first | decide | omega) (by first | decide | omega) rfl rfl (Nat.le_of_ble_eq_true rfl) (c_get_Ltr E S (hw [(93, -1), (95, -1), (96, -1), (97, -1), (115, -1), (116, -1), (119, -1), (125, -1), (126, -1), (127, -1), (129, 2), (129, 16)] (hw [(95, -1), (115, -1), (118, -1), (129, 1), (129, 2), (129, 15), (129, 16)] G G155) Gh32) tf184 q169 tf184s sip185 sip185e (by first | decide | omega) (by first | decide | omega) (by first | decide | omega) ci191) ?_
                        rintro _ _ _ ⟨rfl, rfl, z192, rfl, z192s⟩
                        refine r_cast hX hP rfl (tbg sg5 91 rfl rfl) ck_140_X1 z192s ?_
                        refine r_ex hX hP 1 (pc' := 152) (st' := [(0, q169), (2, z192), (2, this)]) (lo' := [(0, (2, this)), (1, (0, day)), (2, (0, q168)), (3, (0, q169))]) rfl ?_
                        refine r_callV gd hX hP rfl cv_X8_107_129 hS (d' := 0) (mc' := 0) (ms' := 0) (as' := [(2, z192), (0, q169)]) (st := []) (by first | decide | omega) (by first | decide | omega) (by first | decide | omega) rfl rfl (Nat.le_of_ble_eq_true rfl) (c_X8_runTrade E S (hw [(93, -1), (95, -1), (96, -1), (97, -1), (115, -1), (116, -1), (119, -1), (125, -1), (126, -1), (127, -1), (129, 2), (129, 16)] (hw [(95, -1), (115, -1), (118, -1), (129, 1), (129, 2), (129, 15), (129, 16)] G G155) Gh32) this z192 q169 hS z192s (by first | decide | omega) (by first | decide | omega)) ?_
                        rintro _ _ _ ⟨rfl, ⟨G193, rfl⟩, rfl, -⟩
                        refine r_ex hX hP 3 (pc' := 192) (st' := [(2, this), (2, this)]) (lo' := [(0, (2, this)), (1, (0, day)), (2, (0, q168)), (3, (0, q169))]) rfl ?_
                        refine r_getKI hX hP rfl fl_X8_77_129 hS (x := next_h32) next_h32_e ?_
                        refine r_ex hX hP 2 (pc' := 197) (st' := [(0, (next_h32 + 1)), (2, this)]) (lo' := [(0, (2, this)), (1, (0, day)), (2, (0, q168)), (3, (0, q169))]) rfl ?_
                        refine r_putIK hX hP rfl fp_X8_77_129 hS (by first | decide | omega) (by first | decide | omega) (fun h194 => ?_)
                        refine r_ex hX hP 1 (pc' := 32) (st' := []) (lo' := [(0, (2, this)), (1, (0, day)), (2, (0, q168)), (3, (0, q169))]) rfl ?_
                        refine r_pick hX [0, 1] (lo' := [(0, (2, this)), (1, (0, day))]) rfl ?_
                        refine r_eqG (X := X) (hw_up (hw_sub (hw_base _ _ _) rfl) rfl) ?_
                        exact ih32 (next_h32 + 1) _ h194 (by first | decide | omega) (by first | decide | omega) (by first | decide | omega)
                  · skip
                    refine r_ex hX hP 2 (pc' := 96) (st' := [(2, this), (0, q169)]) (lo' := [(0, (2, this)), (1, (0, day)), (2, (0, q168)), (3, (0, q169))]) rfl ?_
                    refine r_getR hX hP rfl fl_X8_52_129 hS (fun if195 if195e if195s => ?_)
                    refine r_peekI hX (tl_154 2 rfl (by decide)) if195s (fun sip196 sip196e sip196a sip196b => ?_)
                    refine r_callV gd hX hP rfl cv_X8_93_154 if195s (d' := 0) (mc' := 0) (ms' := 0) (as' := []) (st := [(0, q169)]) (by first | decide | omega) (by first | decide | omega) (by first | decide | omega) rfl rfl (Nat.le_of_ble_eq_true rfl) (c_size_Lis E S (hw [(93, -1), (95, -1), (96, -1), (97, -1), (115, -1), (116, -1), (119, -1), (125, -1), (126, -1), (127, -1), (129, 2), (129, 16)] (hw [(95, -1), (115, -1), (118, -1), (129, 1), (129, 2), (129, 15), (129, 16)] G G155) Gh32) if195  if195s sip196 sip196e) ?_
                    rintro _ _ _ ⟨rfl, rfl, z197, rfl, z197a, z197b, f198⟩
                    refine r_ic_ge hX hP rfl (tgt := 123) rfl (by first | decide | omega) (by first | decide | omega) (by first | decide | omega) (by first | decide | omega) (fun c199 => ?_) (fun c199 => ?_)
                    · skip
                      refine r_ex hX hP 2 (pc' := 125) (st' := [(0, 1), (0, q168)]) (lo' := [(0, (2, this)), (1, (0, day)), (2, (0, q168)), (3, (0, q169))]) rfl ?_
                      refine r_ic_ne hX hP rfl (tgt := 158) rfl (by first | decide | omega) (by first | decide | omega) (by first | decide | omega) (by first | decide | omega) (fun c200 => ?_) (fun c200 => ?_)
                      · skip
                        refine r_ex hX hP 2 (pc' := 160) (st' := [(0, 2), (0, q168)]) (lo' := [(0, (2, this)), (1, (0, day)), (2, (0, q168)), (3, (0, q169))]) rfl ?_
                        refine r_ic_ne hX hP rfl (tgt := 190) rfl (by first | decide | omega) (by first | decide | omega) (by first | decide | omega) (by first | decide | omega) (fun c201 => ?_) (fun c201 => ?_)
                        · skip
                          refine r_ex hX hP 2 (pc' := 192) (st' := [(2, this), (2, this)]) (lo' := [(0, (2, this)), (1, (0, day)), (2, (0, q168)), (3, (0, q169))]) rfl ?_
                          refine r_getKI hX hP rfl fl_X8_77_129 hS (x := next_h32) next_h32_e ?_
                          refine r_ex hX hP 2 (pc' := 197) (st' := [(0, (next_h32 + 1)), (2, this)]) (lo' := [(0, (2, this)), (1, (0, day)), (2, (0, q168)), (3, (0, q169))]) rfl ?_
                          refine r_putIK hX hP rfl fp_X8_77_129 hS (by first | decide | omega) (by first | decide | omega) (fun h202 => ?_)
                          refine r_ex hX hP 1 (pc' := 32) (st' := []) (lo' := [(0, (2, this)), (1, (0, day)), (2, (0, q168)), (3, (0, q169))]) rfl ?_
                          refine r_pick hX [0, 1] (lo' := [(0, (2, this)), (1, (0, day))]) rfl ?_
                          refine r_eqG (X := X) (hw_up (hw_base _ _ _) rfl) ?_
                          exact ih32 (next_h32 + 1) _ h202 (by first | decide | omega) (by first | decide | omega) (by first | decide | omega)
                        · skip
                          exfalso; omega
                      · skip
                        exfalso; omega
                    · skip
                      refine r_ex hX hP 2 (pc' := 107) (st' := [(2, this), (2, this)]) (lo' := [(0, (2, this)), (1, (0, day)), (2, (0, q168)), (3, (0, q169))]) rfl ?_
                      refine r_getKR hX hP rfl fl_X8_52_129 hS (x := if195) if195e ?_
                      refine r_ex hX hP 1 (pc' := 111) (st' := [(0, q169), (2, if195), (2, this)]) (lo' := [(0, (2, this)), (1, (0, day)), (2, (0, q168)), (3, (0, q169))]) rfl ?_
                      have ci203 : CI E S (hw [(93, -1), (95, -1), (96, -1), (97, -1), (115, -1), (116, -1), (119, -1), (125, -1), (126, -1), (127, -1), (129, 2), (129, 16)] (hw [(95, -1), (115, -1), (118, -1), (129, 1), (129, 2), (129, 15), (129, 16)] G G155) Gh32) := (ci_hw (ci_hw ci rfl) rfl)
                      refine r_callV gd hX hP rfl cv_X8_97_154 if195s (d' := 2) (mc' := 0) (ms' := 0) (as' := [(0, q169)]) (st := [(2, this)]) (by first | decide | omega) (by first | decide | omega) (by first | decide | omega) rfl rfl (Nat.le_of_ble_eq_true rfl) (c_get_Lis E S (hw [(93, -1), (95, -1), (96, -1), (97, -1), (115, -1), (116, -1), (119, -1), (125, -1), (126, -1), (127, -1), (129, 2), (129, 16)] (hw [(95, -1), (115, -1), (118, -1), (129, 1), (129, 2), (129, 15), (129, 16)] G G155) Gh32) if195 q169 if195s sip196 sip196e (by first | decide | omega) (by first | decide | omega) (by first | decide | omega) ci203) ?_
                      rintro _ _ _ ⟨rfl, rfl, z204, rfl, z204s⟩
                      refine r_cast hX hP rfl (tbg sg5 91 rfl rfl) ck_139_X1 z204s ?_
                      refine r_callV gd hX hP rfl cv_X8_103_129 hS (d' := 0) (mc' := 0) (ms' := 0) (as' := [(2, z204)]) (st := []) (by first | decide | omega) (by first | decide | omega) (by first | decide | omega) rfl rfl (Nat.le_of_ble_eq_true rfl) (c_X8_runIssue E S (hw [(93, -1), (95, -1), (96, -1), (97, -1), (115, -1), (116, -1), (119, -1), (125, -1), (126, -1), (127, -1), (129, 2), (129, 16)] (hw [(95, -1), (115, -1), (118, -1), (129, 1), (129, 2), (129, 15), (129, 16)] G G155) Gh32) this z204 hS z204s) ?_
                      rintro _ _ _ ⟨rfl, ⟨G205, rfl⟩, rfl, -⟩
                      refine r_ex hX hP 3 (pc' := 192) (st' := [(2, this), (2, this)]) (lo' := [(0, (2, this)), (1, (0, day)), (2, (0, q168)), (3, (0, q169))]) rfl ?_
                      refine r_getKI hX hP rfl fl_X8_77_129 hS (x := next_h32) next_h32_e ?_
                      refine r_ex hX hP 2 (pc' := 197) (st' := [(0, (next_h32 + 1)), (2, this)]) (lo' := [(0, (2, this)), (1, (0, day)), (2, (0, q168)), (3, (0, q169))]) rfl ?_
                      refine r_putIK hX hP rfl fp_X8_77_129 hS (by first | decide | omega) (by first | decide | omega) (fun h206 => ?_)
                      refine r_ex hX hP 1 (pc' := 32) (st' := []) (lo' := [(0, (2, this)), (1, (0, day)), (2, (0, q168)), (3, (0, q169))]) rfl ?_
                      refine r_pick hX [0, 1] (lo' := [(0, (2, this)), (1, (0, day))]) rfl ?_
                      refine r_eqG (X := X) (hw_up (hw_sub (hw_base _ _ _) rfl) rfl) ?_
                      exact ih32 (next_h32 + 1) _ h206 (by first | decide | omega) (by first | decide | omega) (by first | decide | omega)
        refine r_eqG (X := X) (hw_refl [(93, -1), (95, -1), (96, -1), (97, -1), (115, -1), (116, -1), (119, -1), (125, -1), (126, -1), (127, -1), (129, 2), (129, 16)] _) ?_
        exact loop32 ((96 - neh156) + 1 : Int).toNat neh156 _ neh156e (by first | decide | omega) (by first | decide | omega) (by first | decide | omega)
