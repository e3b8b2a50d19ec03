theorem fl_X3_51_133 : Fl RX3 51 133 13 (2, 99, 0) := ⟨4, 17, fs_133, RX3, TX3, rfl, rfl, by decide, rfl, by decide, rfl, cf_X3, (tbg sg6 60 rfl rfl)⟩
theorem fl_X3_131_139 : Fl RX3 131 139 4 (0, (-2147483648), 2147483647) := ⟨2, 9, fs_139, RX1, TX1, rfl, rfl, by decide, rfl, by decide, rfl, cf_X1, (tbg sg3 34 rfl rfl)⟩
theorem cs_X3_67 : Cs RX3 67 mX3_put 2 := ⟨co_X3_put, (tbg sg6 43 rfl rfl), (tbg sg6 44 rfl rfl)⟩
theorem fl_X3_11_133 : Fl RX3 11 133 1 (2, 100, 0) := ⟨4, 17, fs_133, RX3, TX3, rfl, rfl, by decide, rfl, by decide, rfl, cf_X3, (tbg sg6 48 rfl rfl)⟩
theorem fl_X3_134_139 : Fl RX3 134 139 2 (0, 0, 19) := ⟨2, 9, fs_139, RX1, TX1, rfl, rfl, by decide, rfl, by decide, rfl, cf_X1, (tbg sg3 27 rfl rfl)⟩
theorem fl_X3_137_139 : Fl RX3 137 139 6 (0, 0, 19) := ⟨2, 9, fs_139, RX1, TX1, rfl, rfl, by decide, rfl, by decide, rfl, cf_X1, (tbg sg3 43 rfl rfl)⟩
theorem al_100 : Al 100 4 400 (2, 99, 0) := ⟨rfl, by decide, by decide⟩
theorem cs_X3_140 : Cs RX3 140 mX3_addTimes 3 := ⟨co_X3_addTimes, (tbg sg6 110 rfl rfl), (tbg sg6 111 rfl rfl)⟩
theorem fl_X3_134_140 : Fl RX3 134 140 2 (0, 0, 19) := ⟨2, 9, fs_140, RX1, TX1, rfl, rfl, by decide, rfl, by decide, rfl, cf_X1, (tbg sg3 27 rfl rfl)⟩
theorem fl_X3_144_140 : Fl RX3 144 140 5 (0, 0, 19) := ⟨2, 9, fs_140, RX1, TX1, rfl, rfl, by decide, rfl, by decide, rfl, cf_X1, (tbg sg3 39 rfl rfl)⟩
theorem fl_X3_131_140 : Fl RX3 131 140 4 (0, (-2147483648), 2147483647) := ⟨2, 9, fs_140, RX1, TX1, rfl, rfl, by decide, rfl, by decide, rfl, cf_X1, (tbg sg3 34 rfl rfl)⟩
theorem cs_X3_147 : Cs RX3 147 mX3_isLess 2 := ⟨co_X3_isLess, (tbg sg6 117 rfl rfl), (tbg sg6 118 rfl rfl)⟩
theorem co_X3_subtract : Co mX3_subtract 2 := ⟨(tbg sg6 122 rfl rfl), (tbg sg1 25 rfl rfl), by decide, by decide, by decide +kernel, by decide⟩
theorem cs_X3_151 : Cs RX3 151 mX3_subtract 2 := ⟨co_X3_subtract, (tbg sg6 120 rfl rfl), (tbg sg6 121 rfl rfl)⟩
theorem fl_X3_137_140 : Fl RX3 137 140 6 (0, 0, 19) := ⟨2, 9, fs_140, RX1, TX1, rfl, rfl, by decide, rfl, by decide, rfl, cf_X1, (tbg sg3 43 rfl rfl)⟩
theorem fl_X3_63_133 : Fl RX3 63 133 0 (2, 130, 0) := ⟨4, 17, fs_133, RX3, TX3, rfl, rfl, by decide, rfl, by decide, rfl, cf_X3, (tbg sg6 47 rfl rfl)⟩
theorem fl_X3_157_130 : Fl RX3 157 130 0 (0, 0, 20) := ⟨1, 18, fs_130, RX0, TX0, rfl, rfl, by decide, rfl, by decide, rfl, cf_X0, (tbg sg1 54 rfl rfl)⟩
theorem fl_X3_186_130 : Fl RX3 186 130 1 (2, 93, 0) := ⟨1, 18, fs_130, RX0, TX0, rfl, rfl, by decide, rfl, by decide, rfl, cf_X0, (tbg sg1 56 rfl rfl)⟩
theorem fl_X3_19_133 : Fl RX3 19 133 3 (2, 101, 0) := ⟨4, 17, fs_133, RX3, TX3, rfl, rfl, by decide, rfl, by decide, rfl, cf_X3, (tbg sg6 50 rfl rfl)⟩
theorem al_101 : Al 101 4 80 (2, 99, 0) := ⟨rfl, by decide, by decide⟩
theorem fl_X3_16_133 : Fl RX3 16 133 2 (2, 101, 0) := ⟨4, 17, fs_133, RX3, TX3, rfl, rfl, by decide, rfl, by decide, rfl, cf_X3, (tbg sg6 49 rfl rfl)⟩
theorem co_X3_copy : Co mX3_copy 2 := ⟨(tbg sg6 130 rfl rfl), (tbg sg1 25 rfl rfl), by decide, by decide, by decide +kernel, by decide⟩
theorem cs_X3_161 : Cs RX3 161 mX3_copy 2 := ⟨co_X3_copy, (tbg sg6 128 rfl rfl), (tbg sg6 129 rfl rfl)⟩
theorem fl_X3_42_133 : Fl RX3 42 133 10 (2, 103, 0) := ⟨4, 17, fs_133, RX3, TX3, rfl, rfl, by decide, rfl, by decide, rfl, cf_X3, (tbg sg6 57 rfl rfl)⟩
theorem al_103 : Al 103 4 21 (2, 99, 0) := ⟨rfl, by decide, by decide⟩
theorem fl_X3_45_133 : Fl RX3 45 133 11 (2, 103, 0) := ⟨4, 17, fs_133, RX3, TX3, rfl, rfl, by decide, rfl, by decide, rfl, cf_X3, (tbg sg6 58 rfl rfl)⟩
theorem fl_X3_39_133 : Fl RX3 39 133 9 (2, 103, 0) := ⟨4, 17, fs_133, RX3, TX3, rfl, rfl, by decide, rfl, by decide, rfl, cf_X3, (tbg sg6 56 rfl rfl)⟩
theorem co_X3_cutToLong : Co mX3_cutToLong 1 := ⟨(tbg sg6 147 rfl rfl), (tbg sg1 25 rfl rfl), by decide, by decide, by decide +kernel, by decide⟩
theorem cs_X3_208 : Cs RX3 208 mX3_cutToLong 1 := ⟨co_X3_cutToLong, (tbg sg6 145 rfl rfl), (tbg sg6 146 rfl rfl)⟩
theorem fl_X3_54_133 : Fl RX3 54 133 14 (2, 99, 0) := ⟨4, 17, fs_133, RX3, TX3, rfl, rfl, by decide, rfl, by decide, rfl, cf_X3, (tbg sg6 61 rfl rfl)⟩
theorem fl_X3_60_133 : Fl RX3 60 133 16 (2, 99, 0) := ⟨4, 17, fs_133, RX3, TX3, rfl, rfl, by decide, rfl, by decide, rfl, cf_X3, (tbg sg6 63 rfl rfl)⟩
theorem fl_X3_57_133 : Fl RX3 57 133 15 (2, 99, 0) := ⟨4, 17, fs_133, RX3, TX3, rfl, rfl, by decide, rfl, by decide, rfl, cf_X3, (tbg sg6 62 rfl rfl)⟩
theorem co_X3_portion : Co mX3_portion 2 := ⟨(tbg sg6 156 rfl rfl), (tbg sg1 25 rfl rfl), by decide, by decide, by decide +kernel, by decide⟩
theorem cv_X3_271_133 : Cv RX3 271 mX3_portion 133 2 := ⟨co_X3_portion, (tbg sg6 153 rfl rfl), (tbg sg6 155 rfl rfl), 4, 17, fs_133, RX3, TX3, rfl, by decide, rfl, (tbm 64 (by decide +kernel) rfl)⟩
theorem fl_X3_22_133 : Fl RX3 22 133 4 (2, 102, 0) := ⟨4, 17, fs_133, RX3, TX3, rfl, rfl, by decide, rfl, by decide, rfl, cf_X3, (tbg sg6 51 rfl rfl)⟩
theorem al_102 : Al 102 4 20 (2, 99, 0) := ⟨rfl, by decide, by decide⟩
theorem fl_X3_179_130 : Fl RX3 179 130 4 (2, 94, 0) := ⟨1, 18, fs_130, RX0, TX0, rfl, rfl, by decide, rfl, by decide, rfl, cf_X0, (tbg sg1 61 rfl rfl)⟩
theorem fl_X3_265_130 : Fl RX3 265 130 7 (2, 93, 0) := ⟨1, 18, fs_130, RX0, TX0, rfl, rfl, by decide, rfl, by decide, rfl, cf_X0, (tbg sg1 67 rfl rfl)⟩
theorem co_X3_apportion : Co mX3_apportion 2 := ⟨(tbg sg6 152 rfl rfl), (tbg sg1 25 rfl rfl), by decide, by decide, by decide +kernel, by decide⟩
theorem cv_X3_215_133 : Cv RX3 215 mX3_apportion 133 2 := ⟨co_X3_apportion, (tbg sg6 149 rfl rfl), (tbg sg6 151 rfl rfl), 4, 17, fs_133, RX3, TX3, rfl, by decide, rfl, (tbm 63 (by decide +kernel) rfl)⟩
theorem fl_X3_25_133 : Fl RX3 25 133 5 (2, 102, 0) := ⟨4, 17, fs_133, RX3, TX3, rfl, rfl, by decide, rfl, by decide, rfl, cf_X3, (tbg sg6 52 rfl rfl)⟩
theorem fl_X3_35_133 : Fl RX3 35 133 8 (2, 97, 0) := ⟨4, 17, fs_133, RX3, TX3, rfl, rfl, by decide, rfl, by decide, rfl, cf_X3, (tbg sg6 55 rfl rfl)⟩
theorem fl_X3_268_130 : Fl RX3 268 130 9 (2, 93, 0) := ⟨1, 18, fs_130, RX0, TX0, rfl, rfl, by decide, rfl, by decide, rfl, cf_X0, (tbg sg1 70 rfl rfl)⟩
theorem fl_X3_238_136 : Fl RX3 238 136 7 (2, 122, 0) := ⟨10, 16, fs_136, RX9, TX9, rfl, rfl, by decide, rfl, by decide, rfl, cf_X9, (tbg sg3 204 rfl rfl)⟩
theorem fl_X3_255_136 : Fl RX3 255 136 4 (2, 119, 0) := ⟨10, 16, fs_136, RX9, TX9, rfl, rfl, by decide, rfl, by decide, rfl, cf_X9, (tbg sg3 189 rfl rfl)⟩
theorem fl_X3_258_136 : Fl RX3 258 136 6 (2, 119, 0) := ⟨10, 16, fs_136, RX9, TX9, rfl, rfl, by decide, rfl, by decide, rfl, cf_X9, (tbg sg3 199 rfl rfl)⟩
theorem co_X3_divide : Co mX3_divide 2 := ⟨(tbg sg6 172 rfl rfl), (tbg sg1 25 rfl rfl), by decide, by decide, by decide +kernel, by decide⟩
theorem cs_X3_261 : Cs RX3 261 mX3_divide 2 := ⟨co_X3_divide, (tbg sg6 170 rfl rfl), (tbg sg6 171 rfl rfl)⟩
theorem fl_X3_194_136 : Fl RX3 194 136 9 (2, 124, 0) := ⟨10, 16, fs_136, RX9, TX9, rfl, rfl, by decide, rfl, by decide, rfl, cf_X9, (tbg sg3 210 rfl rfl)⟩
theorem fl_X3_31_133 : Fl RX3 31 133 7 (2, 95, 0) := ⟨4, 17, fs_133, RX3, TX3, rfl, rfl, by decide, rfl, by decide, rfl, cf_X3, (tbg sg6 54 rfl rfl)⟩
theorem fl_X3_212_136 : Fl RX3 212 136 10 (2, 124, 0) := ⟨10, 16, fs_136, RX9, TX9, rfl, rfl, by decide, rfl, by decide, rfl, cf_X9, (tbg sg3 214 rfl rfl)⟩
theorem fl_X3_189_136 : Fl RX3 189 136 1 (0, 0, 3) := ⟨10, 16, fs_136, RX9, TX9, rfl, rfl, by decide, rfl, by decide, rfl, cf_X9, (tbg sg3 177 rfl rfl)⟩
theorem fl_X3_205_136 : Fl RX3 205 136 2 (0, (-1), 2) := ⟨10, 16, fs_136, RX9, TX9, rfl, rfl, by decide, rfl, by decide, rfl, cf_X9, (tbg sg3 181 rfl rfl)⟩
theorem fl_X3_28_133 : Fl RX3 28 133 6 (2, 102, 0) := ⟨4, 17, fs_133, RX3, TX3, rfl, rfl, by decide, rfl, by decide, rfl, cf_X3, (tbg sg6 53 rfl rfl)⟩
theorem co_X3_allotTops : Co mX3_allotTops 2 := ⟨(tbg sg6 144 rfl rfl), (tbg sg1 25 rfl rfl), by decide, by decide, by decide +kernel, by decide⟩
theorem cv_X3_197_133 : Cv RX3 197 mX3_allotTops 133 2 := ⟨co_X3_allotTops, (tbg sg6 141 rfl rfl), (tbg sg6 143 rfl rfl), 4, 17, fs_133, RX3, TX3, rfl, by decide, rfl, (tbm 62 (by decide +kernel) rfl)⟩
theorem co_X3_deal : Co mX3_deal 3 := ⟨(tbg sg6 160 rfl rfl), (tbg sg1 25 rfl rfl), by decide, by decide, by decide +kernel, by decide⟩
theorem cv_X3_201_133 : Cv RX3 201 mX3_deal 133 3 := ⟨co_X3_deal, (tbg sg6 157 rfl rfl), (tbg sg6 159 rfl rfl), 4, 17, fs_133, RX3, TX3, rfl, by decide, rfl, (tbm 65 (by decide +kernel) rfl)⟩
theorem fl_X3_171_137 : Fl RX3 171 137 3 (2, 136, 0) := ⟨3, 7, fs_137, RX2, TX2, rfl, rfl, by decide, rfl, by decide, rfl, cf_X2, (tbg sg4 213 rfl rfl)⟩
theorem cv_X3_222_136 : Cv RX3 222 mX9_work 136 0 := ⟨co_X9_work, (tbg sg6 165 rfl rfl), (tbg sg5 169 rfl rfl), 10, 16, fs_136, RX9, TX9, rfl, by decide, rfl, (tbg sg5 170 rfl rfl)⟩
theorem fl_X3_225_136 : Fl RX3 225 136 0 (0, 0, 30) := ⟨10, 16, fs_136, RX9, TX9, rfl, rfl, by decide, rfl, by decide, rfl, cf_X9, (tbg sg3 171 rfl rfl)⟩
theorem fl_X3_48_133 : Fl RX3 48 133 12 (2, 104, 0) := ⟨4, 17, fs_133, RX3, TX3, rfl, rfl, by decide, rfl, by decide, rfl, cf_X3, (tbg sg6 59 rfl rfl)⟩
theorem al_104 : Al 104 4 4 (2, 99, 0) := ⟨rfl, by decide, by decide⟩
theorem fl_X3_160_137 : Fl RX3 160 137 2 (0, 0, 19) := ⟨3, 7, fs_137, RX2, TX2, rfl, rfl, by decide, rfl, by decide, rfl, cf_X2, (tbg sg4 208 rfl rfl)⟩
theorem co_X3_go : Co mX3_go 2 := ⟨(tbg sg6 181 rfl rfl), (tbg sg1 25 rfl rfl), by decide, by decide, by decide +kernel, by decide⟩
theorem cv_X3_252_133 : Cv RX3 252 mX3_go 133 2 := ⟨co_X3_go, (tbg sg6 178 rfl rfl), (tbg sg6 180 rfl rfl), 4, 17, fs_133, RX3, TX3, rfl, by decide, rfl, (tbm 69 (by decide +kernel) rfl)⟩
theorem fl_X3_227_136 : Fl RX3 227 136 12 (2, 126, 0) := ⟨10, 16, fs_136, RX9, TX9, rfl, rfl, by decide, rfl, by decide, rfl, cf_X9, (tbg sg3 222 rfl rfl)⟩
theorem fl_X3_231_136 : Fl RX3 231 136 3 (2, 120, 0) := ⟨10, 16, fs_136, RX9, TX9, rfl, rfl, by decide, rfl, by decide, rfl, cf_X9, (tbg sg3 185 rfl rfl)⟩
theorem co_X3_multiply : Co mX3_multiply 3 := ⟨(tbg sg6 169 rfl rfl), (tbg sg1 25 rfl rfl), by decide, by decide, by decide +kernel, by decide⟩
theorem cv_X3_234_133 : Cv RX3 234 mX3_multiply 133 3 := ⟨co_X3_multiply, (tbg sg6 166 rfl rfl), (tbg sg6 168 rfl rfl), 4, 17, fs_133, RX3, TX3, rfl, by decide, rfl, (tbm 67 (by decide +kernel) rfl)⟩
theorem cv_X3_241_136 : Cv RX3 241 mX9_isOneMore 136 2 := ⟨co_X9_isOneMore, (tbg sg6 173 rfl rfl), (tbg sg5 181 rfl rfl), 10, 16, fs_136, RX9, TX9, rfl, by decide, rfl, (tbg sg5 182 rfl rfl)⟩
theorem fl_X3_245_136 : Fl RX3 245 136 5 (2, 121, 0) := ⟨10, 16, fs_136, RX9, TX9, rfl, rfl, by decide, rfl, by decide, rfl, cf_X9, (tbg sg3 195 rfl rfl)⟩
theorem co_X3_come : Co mX3_come 2 := ⟨(tbg sg6 177 rfl rfl), (tbg sg1 25 rfl rfl), by decide, by decide, by decide +kernel, by decide⟩
theorem cv_X3_248_133 : Cv RX3 248 mX3_come 133 2 := ⟨co_X3_come, (tbg sg6 174 rfl rfl), (tbg sg6 176 rfl rfl), 4, 17, fs_133, RX3, TX3, rfl, by decide, rfl, (tbm 68 (by decide +kernel) rfl)⟩
theorem fl_X3_219_136 : Fl RX3 219 136 11 (2, 125, 0) := ⟨10, 16, fs_136, RX9, TX9, rfl, rfl, by decide, rfl, by decide, rfl, cf_X9, (tbg sg3 218 rfl rfl)⟩
theorem fl_X3_124_129 : Fl RX3 124 129 12 (2, 156, 0) := ⟨9, 20, fs_129, RX8, TX8, rfl, rfl, by decide, rfl, by decide, rfl, cf_X8, (tbg sg1 181 rfl rfl)⟩
theorem cv_X3_104_156 : Cv RX3 104 mJx4a65c_get_915e3 156 1 := ⟨co_Jx4a65c_get_915e3, (tbg sg6 104 rfl rfl), (tbg sg5 6 rfl rfl), 0, 3, fs_156, RJx4a65c, TJx4a65c, rfl, by decide, rfl, (tbg sg5 7 rfl rfl)⟩
theorem co_X3_addUpRows : Co mX3_addUpRows 0 := ⟨(tbg sg6 136 rfl rfl), (tbg sg1 25 rfl rfl), by decide, by decide, by decide +kernel, by decide⟩
theorem cv_X3_168_133 : Cv RX3 168 mX3_addUpRows 133 0 := ⟨co_X3_addUpRows, (tbg sg6 133 rfl rfl), (tbg sg6 135 rfl rfl), 4, 17, fs_133, RX3, TX3, rfl, by decide, rfl, (tbm 60 (by decide +kernel) rfl)⟩
theorem co_X3_cutBack : Co mX3_cutBack 1 := ⟨(tbg sg6 140 rfl rfl), (tbg sg1 25 rfl rfl), by decide, by decide, by decide +kernel, by decide⟩
theorem cv_X3_175_133 : Cv RX3 175 mX3_cutBack 133 1 := ⟨co_X3_cutBack, (tbg sg6 137 rfl rfl), (tbg sg6 139 rfl rfl), 4, 17, fs_133, RX3, TX3, rfl, by decide, rfl, (tbm 61 (by decide +kernel) rfl)⟩
theorem co_X3_serve : Co mX3_serve 2 := ⟨(tbg sg6 164 rfl rfl), (tbg sg1 25 rfl rfl), by decide, by decide, by decide +kernel, by decide⟩
theorem cv_X3_182_133 : Cv RX3 182 mX3_serve 133 2 := ⟨co_X3_serve, (tbg sg6 161 rfl rfl), (tbg sg6 163 rfl rfl), 4, 17, fs_133, RX3, TX3, rfl, by decide, rfl, (tbm 66 (by decide +kernel) rfl)⟩
theorem cv_X3_164_129 : Cv RX3 164 mX8_choiceOf 129 2 := ⟨co_X8_choiceOf, (tbg sg6 132 rfl rfl), (tbg sg5 121 rfl rfl), 9, 20, fs_129, RX8, TX8, rfl, by decide, rfl, (tbg sg5 122 rfl rfl)⟩
theorem fl_X3_84_129 : FlN RX3 84 129 16 (0, 0, 96) := ⟨9, 20, fs_129, RX8, TX8, "ShareLife", rfl, rfl, by decide, rfl, by decide, rfl, cf_X8, (List.mem_filter.mpr ⟨sg1 _ (List.mem_of_getElem? (i := 189) rfl), rfl⟩)⟩
theorem fl_X3_88_129 : FlN RX3 88 129 15 (0, 0, 96) := ⟨9, 20, fs_129, RX8, TX8, "ShareLife", rfl, rfl, by decide, rfl, by decide, rfl, cf_X8, (List.mem_filter.mpr ⟨sg1 _ (List.mem_of_getElem? (i := 187) rfl), rfl⟩)⟩
theorem fl_X3_91_129 : FlN RX3 91 129 14 (2, 118, 0) := ⟨9, 20, fs_129, RX8, TX8, "ShareLife", rfl, rfl, by decide, rfl, by decide, rfl, cf_X8, (List.mem_filter.mpr ⟨sg1 _ (List.mem_of_getElem? (i := 185) rfl), rfl⟩)⟩
theorem cv_X3_98_156 : Cv RX3 98 mJx4a65c_size_8abf5 156 0 := ⟨co_Jx4a65c_size_8abf5, (tbg sg6 103 rfl rfl), (tbg sg3 13 rfl rfl), 0, 3, fs_156, RJx4a65c, TJx4a65c, rfl, by decide, rfl, (tbg sg3 14 rfl rfl)⟩
theorem co_X3_happen : Co mX3_happen 2 := ⟨(tbg sg6 126 rfl rfl), (tbg sg1 25 rfl rfl), by decide, by decide, by decide +kernel, by decide⟩
theorem cv_X3_127_133 : Cv RX3 127 mX3_happen 133 2 := ⟨co_X3_happen, (tbg sg6 123 rfl rfl), (tbg sg6 125 rfl rfl), 4, 17, fs_133, RX3, TX3, rfl, by decide, rfl, (tbm 59 (by decide +kernel) rfl)⟩
theorem fl_X3_114_129 : Fl RX3 114 129 11 (2, 155, 0) := ⟨9, 20, fs_129, RX8, TX8, rfl, rfl, by decide, rfl, by decide, rfl, cf_X8, (tbg sg1 178 rfl rfl)⟩
theorem cv_X3_98_155 : Cv RX3 98 mJx4a65c_size_8abf5 155 0 := ⟨co_Jx4a65c_size_8abf5, (tbg sg6 103 rfl rfl), (tbg sg3 13 rfl rfl), 0, 3, fs_155, RJx4a65c, TJx4a65c, rfl, by decide, rfl, (tbg sg3 14 rfl rfl)⟩
theorem fl_X3_117_129 : Fl RX3 117 129 7 (2, 115, 0) := ⟨9, 20, fs_129, RX8, TX8, rfl, rfl, by decide, rfl, by decide, rfl, cf_X8, (tbg sg1 167 rfl rfl)⟩
theorem cv_X3_104_155 : Cv RX3 104 mJx4a65c_get_915e3 155 1 := ⟨co_Jx4a65c_get_915e3, (tbg sg6 104 rfl rfl), (tbg sg5 6 rfl rfl), 0, 3, fs_155, RJx4a65c, TJx4a65c, rfl, by decide, rfl, (tbg sg5 7 rfl rfl)⟩
theorem co_X3_settle : Co mX3_settle 1 := ⟨(tbg sg6 116 rfl rfl), (tbg sg1 25 rfl rfl), by decide, by decide, by decide +kernel, by decide⟩
theorem cv_X3_120_133 : Cv RX3 120 mX3_settle 133 1 := ⟨co_X3_settle, (tbg sg6 113 rfl rfl), (tbg sg6 115 rfl rfl), 4, 17, fs_133, RX3, TX3, rfl, by decide, rfl, (tbm 58 (by decide +kernel) rfl)⟩
theorem fl_X3_94_129 : Fl RX3 94 129 10 (2, 154, 0) := ⟨9, 20, fs_129, RX8, TX8, rfl, rfl, by decide, rfl, by decide, rfl, cf_X8, (tbg sg1 175 rfl rfl)⟩
theorem cv_X3_98_154 : Cv RX3 98 mJx4a65c_size_8abf5 154 0 := ⟨co_Jx4a65c_size_8abf5, (tbg sg6 103 rfl rfl), (tbg sg3 13 rfl rfl), 0, 3, fs_154, RJx4a65c, TJx4a65c, rfl, by decide, rfl, (tbg sg3 14 rfl rfl)⟩
theorem cv_X3_104_154 : Cv RX3 104 mJx4a65c_get_915e3 154 1 := ⟨co_Jx4a65c_get_915e3, (tbg sg6 104 rfl rfl), (tbg sg5 6 rfl rfl), 0, 3, fs_154, RJx4a65c, TJx4a65c, rfl, by decide, rfl, (tbg sg5 7 rfl rfl)⟩
theorem co_X3_receive : Co mX3_receive 1 := ⟨(tbg sg6 109 rfl rfl), (tbg sg1 25 rfl rfl), by decide, by decide, by decide +kernel, by decide⟩
theorem cv_X3_110_133 : Cv RX3 110 mX3_receive 133 1 := ⟨co_X3_receive, (tbg sg6 106 rfl rfl), (tbg sg6 108 rfl rfl), 4, 17, fs_133, RX3, TX3, rfl, by decide, rfl, (tbm 57 (by decide +kernel) rfl)⟩
theorem fl_X3_81_129 : Fl RX3 81 129 3 (2, 114, 0) := ⟨9, 20, fs_129, RX8, TX8, rfl, rfl, by decide, rfl, by decide, rfl, cf_X8, (tbg sg1 158 rfl rfl)⟩
set_option maxRecDepth 100000 in
set_option maxHeartbeats 4000000 in
theorem c_X3_receive (E : En) (S : Sg) (G : Gh) (this : Int) (issue : Int) (hS : S this = 133) (issue_s : S issue = 139) : Calls E mX3_receive [(2, this), (2, issue)] S G 1 0 0 (fun r S' G' => S = S' ∧ (∃ G1, hw [(99, -1)] G G1 = G') ∧ r = none ∧ True) := by
  refine calls_by [(0, (2, this)), (1, (2, issue))] rfl rfl (Nat.le_of_ble_eq_true rfl) (fun X hX => ?_)
  have hP := hPX3_receive
  refine r_ex hX hP 1 (pc' := 1) (st' := [(2, this)]) (lo' := [(0, (2, this)), (1, (2, issue))]) rfl ?_
  refine r_getR hX hP rfl fl_X3_51_133 hS (fun af1 af1e af1s => ?_)
  refine r_ex hX hP 1 (pc' := 5) (st' := [(2, issue), (2, af1)]) (lo' := [(0, (2, this)), (1, (2, issue))]) rfl ?_
  refine r_getI hX hP rfl fl_X3_131_139 issue_s (fun nf2 nf2e nf2a nf2b => ?_)
  refine r_i2l hX hP rfl (by first | decide | omega) (by first | decide | omega) ?_
  refine r_callS gd hX hP rfl cs_X3_67 (d' := 0) (mc' := 0) (ms' := 0) (as' := [(2, af1), (1, nf2)]) (st := []) (by first | decide | omega) (by first | decide | omega) (by first | decide | omega) rfl rfl (Nat.le_of_ble_eq_true rfl) (c_X3_put E S G af1 nf2 af1s (by first | decide | omega) (by first | decide | omega)) ?_
  rintro _ _ _ ⟨rfl, ⟨G3, rfl⟩, rfl, -⟩
  refine r_ex hX hP 1 (pc' := 13) (st' := [(2, this)]) (lo' := [(0, (2, this)), (1, (2, issue))]) rfl ?_
  refine r_getR hX hP rfl fl_X3_11_133 hS (fun hf4 hf4e hf4s => ?_)
  refine r_ex hX hP 1 (pc' := 17) (st' := [(2, issue), (2, hf4)]) (lo' := [(0, (2, this)), (1, (2, issue))]) rfl ?_
  refine r_getI hX hP rfl fl_X3_134_139 issue_s (fun pf5 pf5e pf5a pf5b => ?_)
  refine r_ex hX hP 3 (pc' := 24) (st' := [(2, issue), (0, (pf5 * 20)), (2, hf4)]) (lo' := [(0, (2, this)), (1, (2, issue))]) rfl ?_
  refine r_getI hX hP rfl fl_X3_137_139 issue_s (fun tf6 tf6e tf6a tf6b => ?_)
  refine r_ex hX hP 1 (pc' := 28) (st' := [(0, ((pf5 * 20) + tf6)), (2, hf4)]) (lo' := [(0, (2, this)), (1, (2, issue))]) rfl ?_
  refine r_aald hX hP rfl al_100 rfl hf4s (by first | decide | omega) (by first | decide | omega) (fun r7 r7e r7s => ?_)
  refine r_ex hX hP 1 (pc' := 30) (st' := [(2, this), (2, r7)]) (lo' := [(0, (2, this)), (1, (2, issue))]) rfl ?_
  refine r_getKR hX hP rfl fl_X3_51_133 hS (x := af1) af1e ?_
  refine r_ex hX hP 1 (pc' := 34) (st' := [(1, 1), (2, af1), (2, r7)]) (lo' := [(0, (2, this)), (1, (2, issue))]) rfl ?_
  refine r_callS gd hX hP rfl cs_X3_140 (d' := 0) (mc' := 0) (ms' := 0) (as' := [(2, r7), (2, af1), (1, 1)]) (st := []) (by first | decide | omega) (by first | decide | omega) (by first | decide | omega) rfl rfl (Nat.le_of_ble_eq_true rfl) (c_X3_addTimes E S (hw [(99, -1)] G G3) r7 af1 1 r7s af1s (by first | decide | omega) (by first | decide | omega)) ?_
  rintro _ _ _ ⟨rfl, ⟨G8, rfl⟩, rfl, -⟩
  exact r_retV hX hP rfl rfl (by first | decide | omega) (by first | decide | omega) ⟨rfl, ⟨_, (hw_sub (hw_sub (hw_refl _ _) rfl) rfl).symm⟩, rfl, trivial⟩
set_option maxRecDepth 100000 in
set_option maxHeartbeats 4000000 in
theorem c_X3_settle (E : En) (S : Sg) (G : Gh) (this : Int) (trade : Int) (hS : S this = 133) (trade_s : S trade = 140) : Calls E mX3_settle [(2, this), (2, trade)] S G 1 0 0 (fun r S' G' => S = S' ∧ (∃ G1, hw [(99, -1)] G G1 = G') ∧ ∃ z : Int, r = some (0, z) ∧ 0 ≤ z ∧ z ≤ 1) := by
  refine calls_by [(0, (2, this)), (1, (2, trade))] rfl rfl (Nat.le_of_ble_eq_true rfl) (fun X hX => ?_)
  have hP := hPX3_settle
  refine r_ex hX hP 1 (pc' := 1) (st' := [(2, this)]) (lo' := [(0, (2, this)), (1, (2, trade))]) rfl ?_
  refine r_getR hX hP rfl fl_X3_11_133 hS (fun hf1 hf1e hf1s => ?_)
  refine r_ex hX hP 1 (pc' := 5) (st' := [(2, trade), (2, hf1)]) (lo' := [(0, (2, this)), (1, (2, trade))]) rfl ?_
  refine r_getI hX hP rfl fl_X3_134_140 trade_s (fun pf2 pf2e pf2a pf2b => ?_)
  refine r_ex hX hP 3 (pc' := 12) (st' := [(2, trade), (0, (pf2 * 20)), (2, hf1)]) (lo' := [(0, (2, this)), (1, (2, trade))]) rfl ?_
  refine r_getI hX hP rfl fl_X3_144_140 trade_s (fun ff3 ff3e ff3a ff3b => ?_)
  refine r_ex hX hP 1 (pc' := 16) (st' := [(0, ((pf2 * 20) + ff3)), (2, hf1)]) (lo' := [(0, (2, this)), (1, (2, trade))]) rfl ?_
  refine r_aald hX hP rfl al_100 rfl hf1s (by first | decide | omega) (by first | decide | omega) (fun r4 r4e r4s => ?_)
  refine r_ex hX hP 2 (pc' := 19) (st' := [(2, this)]) (lo' := [(0, (2, this)), (1, (2, trade)), (2, (2, r4))]) rfl ?_
  refine r_getR hX hP rfl fl_X3_51_133 hS (fun af5 af5e af5s => ?_)
  refine r_ex hX hP 1 (pc' := 23) (st' := [(2, trade), (2, af5)]) (lo' := [(0, (2, this)), (1, (2, trade)), (2, (2, r4))]) rfl ?_
  refine r_getI hX hP rfl fl_X3_131_140 trade_s (fun nf6 nf6e nf6a nf6b => ?_)
  refine r_i2l hX hP rfl (by first | decide | omega) (by first | decide | omega) ?_
  refine r_callS gd hX hP rfl cs_X3_67 (d' := 0) (mc' := 0) (ms' := 0) (as' := [(2, af5), (1, nf6)]) (st := []) (by first | decide | omega) (by first | decide | omega) (by first | decide | omega) rfl rfl (Nat.le_of_ble_eq_true rfl) (c_X3_put E S G af5 nf6 af5s (by first | decide | omega) (by first | decide | omega)) ?_
  rintro _ _ _ ⟨rfl, ⟨G7, rfl⟩, rfl, -⟩
  refine r_ex hX hP 2 (pc' := 32) (st' := [(2, this), (2, r4)]) (lo' := [(0, (2, this)), (1, (2, trade)), (2, (2, r4))]) rfl ?_
  refine r_getKR hX hP rfl fl_X3_51_133 hS (x := af5) af5e ?_
  refine r_callS gd hX hP rfl cs_X3_147 (d' := 0) (mc' := 0) (ms' := 0) (as' := [(2, r4), (2, af5)]) (st := []) (by first | decide | omega) (by first | decide | omega) (by first | decide | omega) rfl rfl (Nat.le_of_ble_eq_true rfl) (c_X3_isLess E S (hw [(99, -1)] G G7) r4 af5 r4s af5s) ?_
  rintro _ _ _ ⟨rfl, rfl, z8, rfl, z8a, z8b⟩
  refine r_if_eq hX hP rfl (tgt := 43) rfl (by first | decide | omega) (by first | decide | omega) (fun c9 => ?_) (fun c9 => ?_)
  · skip
    refine r_ex hX hP 2 (pc' := 45) (st' := [(2, this), (2, r4)]) (lo' := [(0, (2, this)), (1, (2, trade)), (2, (2, r4))]) rfl ?_
    refine r_getKR hX hP rfl fl_X3_51_133 hS (x := af5) af5e ?_
    refine r_callS gd hX hP rfl cs_X3_151 (d' := 0) (mc' := 0) (ms' := 0) (as' := [(2, r4), (2, af5)]) (st := []) (by first | decide | omega) (by first | decide | omega) (by first | decide | omega) rfl rfl (Nat.le_of_ble_eq_true rfl) (c_X3_subtract E S (hw [(99, -1)] G G7) r4 af5 r4s af5s) ?_
    rintro _ _ _ ⟨rfl, ⟨G10, rfl⟩, rfl, -⟩
    refine r_ex hX hP 1 (pc' := 52) (st' := [(2, this)]) (lo' := [(0, (2, this)), (1, (2, trade)), (2, (2, r4))]) rfl ?_
    refine r_getKR hX hP rfl fl_X3_11_133 hS (x := hf1) hf1e ?_
    refine r_ex hX hP 1 (pc' := 56) (st' := [(2, trade), (2, hf1)]) (lo' := [(0, (2, this)), (1, (2, trade)), (2, (2, r4))]) rfl ?_
    refine r_getKI hX hP rfl fl_X3_134_140 trade_s (x := pf2) pf2e ?_
    refine r_ex hX hP 3 (pc' := 63) (st' := [(2, trade), (0, (pf2 * 20)), (2, hf1)]) (lo' := [(0, (2, this)), (1, (2, trade)), (2, (2, r4))]) rfl ?_
    refine r_getI hX hP rfl fl_X3_137_140 trade_s (fun tf11 tf11e tf11a tf11b => ?_)
    refine r_ex hX hP 1 (pc' := 67) (st' := [(0, ((pf2 * 20) + tf11)), (2, hf1)]) (lo' := [(0, (2, this)), (1, (2, trade)), (2, (2, r4))]) rfl ?_
    refine r_aald hX hP rfl al_100 rfl hf1s (by first | decide | omega) (by first | decide | omega) (fun r12 r12e r12s => ?_)
    refine r_ex hX hP 1 (pc' := 69) (st' := [(2, this), (2, r12)]) (lo' := [(0, (2, this)), (1, (2, trade)), (2, (2, r4))]) rfl ?_
    refine r_getKR hX hP rfl fl_X3_51_133 hS (x := af5) af5e ?_
    refine r_ex hX hP 1 (pc' := 73) (st' := [(1, 1), (2, af5), (2, r12)]) (lo' := [(0, (2, this)), (1, (2, trade)), (2, (2, r4))]) rfl ?_
    refine r_callS gd hX hP rfl cs_X3_140 (d' := 0) (mc' := 0) (ms' := 0) (as' := [(2, r12), (2, af5), (1, 1)]) (st := []) (by first | decide | omega) (by first | decide | omega) (by first | decide | omega) rfl rfl (Nat.le_of_ble_eq_true rfl) (c_X3_addTimes E S (hw [(99, -1)] (hw [(99, -1)] G G7) G10) r12 af5 1 r12s af5s (by first | decide | omega) (by first | decide | omega)) ?_
    rintro _ _ _ ⟨rfl, ⟨G13, rfl⟩, rfl, -⟩
    refine r_ex hX hP 1 (pc' := 77) (st' := [(0, 1)]) (lo' := [(0, (2, this)), (1, (2, trade)), (2, (2, r4))]) rfl ?_
    exact r_retI hX hP rfl rfl (by first | decide | omega) (by first | decide | omega) ⟨rfl, ⟨_, (hw_sub (hw_sub (hw_sub (hw_refl _ _) rfl) rfl) rfl).symm⟩, 1, rfl, (by first | decide | omega)⟩
  · skip
    refine r_ex hX hP 1 (pc' := 42) (st' := [(0, 0)]) (lo' := [(0, (2, this)), (1, (2, trade)), (2, (2, r4))]) rfl ?_
    exact r_retI hX hP rfl rfl (by first | decide | omega) (by first | decide | omega) ⟨rfl, ⟨_, (hw_sub (hw_refl _ _) rfl).symm⟩, 0, rfl, (by first | decide | omega)⟩
set_option maxRecDepth 100000 in
set_option maxHeartbeats 4000000 in
theorem c_X3_addUpRows (E : En) (S : Sg) (G : Gh) (this : Int) (hS : S this = 133) : Calls E mX3_addUpRows [(2, this)] S G 4 0 0 (fun r S' G' => S = S' ∧ (∃ G1, hw [(99, -1)] G G1 = G') ∧ r = none ∧ True) := by
  refine calls_by [(0, (2, this))] rfl rfl (Nat.le_of_ble_eq_true rfl) (fun X hX => ?_)
  have hP := hPX3_addUpRows
  refine r_ex hX hP 2 (pc' := 2) (st' := []) (lo' := [(0, (2, this)), (1, (0, 0))]) rfl ?_
  have loop2 : ∀ (nF : Nat) (l1_h2 : Int) (Gh2 : Gh), 0 ≤ l1_h2 → l1_h2 ≤ 4 → 4 - l1_h2 < (nF : Int) → X 0 0 2 [] [(0, (2, this)), (1, (0, l1_h2))] S (hw [(99, -1)] G Gh2) := by
    intro nF
    induction nF with
    | zero => intro l1_h2 Gh2 yh2_0 yh2_1 ym2; exfalso; omega
    | succ nF ih2 =>
      intro l1_h2 Gh2 yh2_0 yh2_1 ym2
      refine r_ex hX hP 2 (pc' := 4) (st' := [(0, 4), (0, l1_h2)]) (lo' := [(0, (2, this)), (1, (0, l1_h2))]) rfl ?_
      refine r_ic_ge hX hP rfl (tgt := 117) rfl (by first | decide | omega) (by first | decide | omega) (by first | decide | omega) (by first | decide | omega) (fun c1 => ?_) (fun c1 => ?_)
      · skip
        exact r_retV hX hP rfl rfl (by first | decide | omega) (by first | decide | omega) ⟨rfl, ⟨_, (hw_sub (hw_refl _ _) rfl).symm⟩, rfl, trivial⟩
      · skip
        refine r_ex hX hP 6 (pc' := 14) (st' := []) (lo' := [(0, (2, this)), (1, (0, l1_h2)), (2, (0, (l1_h2 * 20))), (3, (0, 0))]) rfl ?_
        have loop14 : ∀ (nF : Nat) (l3_h14 : Int) (Gh14 : Gh), 0 ≤ l3_h14 → l3_h14 ≤ 20 → 20 - l3_h14 < (nF : Int) → X 0 0 14 [] [(0, (2, this)), (1, (0, l1_h2)), (2, (0, (l1_h2 * 20))), (3, (0, l3_h14))] S (hw [(99, -1)] (hw [(99, -1)] G Gh2) Gh14) := by
          intro nF
          induction nF with
          | zero => intro l3_h14 Gh14 yh14_0 yh14_1 ym14; exfalso; omega
          | succ nF ih14 =>
            intro l3_h14 Gh14 yh14_0 yh14_1 ym14
            refine r_ex hX hP 2 (pc' := 16) (st' := [(2, this), (0, l3_h14)]) (lo' := [(0, (2, this)), (1, (0, l1_h2)), (2, (0, (l1_h2 * 20))), (3, (0, l3_h14))]) rfl ?_
            refine r_getR hX hP rfl fl_X3_63_133 hS (fun af2 af2e af2s => ?_)
            refine r_getI hX hP rfl fl_X3_157_130 af2s (fun cf3 cf3e cf3a cf3b => ?_)
            refine r_ic_ge hX hP rfl (tgt := 50) rfl (by first | decide | omega) (by first | decide | omega) (by first | decide | omega) (by first | decide | omega) (fun c4 => ?_) (fun c4 => ?_)
            · skip
              refine r_ex hX hP 1 (pc' := 51) (st' := [(2, this)]) (lo' := [(0, (2, this)), (1, (0, l1_h2)), (2, (0, (l1_h2 * 20))), (3, (0, l3_h14))]) rfl ?_
              refine r_getKR hX hP rfl fl_X3_63_133 hS (x := af2) af2e ?_
              refine r_getKI hX hP rfl fl_X3_157_130 af2s (x := cf3) cf3e ?_
              refine r_ex hX hP 3 (pc' := 60) (st' := []) (lo' := [(0, (2, this)), (1, (0, l1_h2)), (2, (0, (l1_h2 * 20))), (3, (0, (cf3 - 1)))]) rfl ?_
              have loop60 : ∀ (nF : Nat) (l3_h60 : Int) (Gh60 : Gh), (-1) ≤ l3_h60 → l3_h60 ≤ 19 → l3_h60 - (-1) < (nF : Int) → X 0 0 60 [] [(0, (2, this)), (1, (0, l1_h2)), (2, (0, (l1_h2 * 20))), (3, (0, l3_h60))] S (hw [(99, -1)] (hw [(99, -1)] (hw [(99, -1)] G Gh2) Gh14) Gh60) := by
                intro nF
                induction nF with
                | zero => intro l3_h60 Gh60 yh60_0 yh60_1 ym60; exfalso; omega
                | succ nF ih60 =>
                  intro l3_h60 Gh60 yh60_0 yh60_1 ym60
                  refine r_ex hX hP 1 (pc' := 61) (st' := [(0, l3_h60)]) (lo' := [(0, (2, this)), (1, (0, l1_h2)), (2, (0, (l1_h2 * 20))), (3, (0, l3_h60))]) rfl ?_
                  refine r_if_le hX hP rfl (tgt := 111) rfl (by first | decide | omega) (by first | decide | omega) (fun c5 => ?_) (fun c5 => ?_)
                  · skip
                    refine r_ex hX hP 2 (pc' := 2) (st' := []) (lo' := [(0, (2, this)), (1, (0, (l1_h2 + 1))), (2, (0, (l1_h2 * 20))), (3, (0, l3_h60))]) rfl ?_
                    refine r_pick hX [0, 1] (lo' := [(0, (2, this)), (1, (0, (l1_h2 + 1)))]) rfl ?_
                    refine r_eqG (X := X) (hw_sub (hw_sub (hw_base _ _ _) rfl) rfl) ?_
                    exact ih2 (l1_h2 + 1) _ (by first | decide | omega) (by first | decide | omega) (by first | decide | omega)
                  · skip
                    refine r_ex hX hP 1 (pc' := 65) (st' := [(2, this)]) (lo' := [(0, (2, this)), (1, (0, l1_h2)), (2, (0, (l1_h2 * 20))), (3, (0, l3_h60))]) rfl ?_
                    refine r_getKR hX hP rfl fl_X3_63_133 hS (x := af2) af2e ?_
                    refine r_getR hX hP rfl fl_X3_186_130 af2s (fun uf6 uf6e uf6s => ?_)
                    refine r_ex hX hP 1 (pc' := 72) (st' := [(0, l3_h60), (2, uf6)]) (lo' := [(0, (2, this)), (1, (0, l1_h2)), (2, (0, (l1_h2 * 20))), (3, (0, l3_h60))]) rfl ?_
                    refine r_iald hX hP rfl al_93 uf6s (by first | decide | omega) (by first | decide | omega) (fun x7 x7e x7a x7b => ?_)
                    refine r_ex hX hP 1 (pc' := 74) (st' := [(0, (-1)), (0, x7)]) (lo' := [(0, (2, this)), (1, (0, l1_h2)), (2, (0, (l1_h2 * 20))), (3, (0, l3_h60))]) rfl ?_
                    refine r_ic_eq hX hP rfl (tgt := 105) rfl (by first | decide | omega) (by first | decide | omega) (by first | decide | omega) (by first | decide | omega) (fun c8 => ?_) (fun c8 => ?_)
                    · skip
                      refine r_ex hX hP 2 (pc' := 60) (st' := []) (lo' := [(0, (2, this)), (1, (0, l1_h2)), (2, (0, (l1_h2 * 20))), (3, (0, (l3_h60 + (-1))))]) rfl ?_
                      refine r_eqG (X := X) (hw_base _ _ _) ?_
                      exact ih60 (l3_h60 + (-1)) _ (by first | decide | omega) (by first | decide | omega) (by first | decide | omega)
                    · skip
                      refine r_ex hX hP 1 (pc' := 78) (st' := [(2, this)]) (lo' := [(0, (2, this)), (1, (0, l1_h2)), (2, (0, (l1_h2 * 20))), (3, (0, l3_h60))]) rfl ?_
                      refine r_getR hX hP rfl fl_X3_19_133 hS (fun af9 af9e af9s => ?_)
                      refine r_ex hX hP 2 (pc' := 83) (st' := [(2, this), (0, (l1_h2 * 20)), (2, af9)]) (lo' := [(0, (2, this)), (1, (0, l1_h2)), (2, (0, (l1_h2 * 20))), (3, (0, l3_h60))]) rfl ?_
                      refine r_getKR hX hP rfl fl_X3_63_133 hS (x := af2) af2e ?_
                      refine r_getKR hX hP rfl fl_X3_186_130 af2s (x := uf6) uf6e ?_
                      refine r_ex hX hP 1 (pc' := 90) (st' := [(0, l3_h60), (2, uf6), (0, (l1_h2 * 20)), (2, af9)]) (lo' := [(0, (2, this)), (1, (0, l1_h2)), (2, (0, (l1_h2 * 20))), (3, (0, l3_h60))]) rfl ?_
                      refine r_ialdK hX hP rfl al_93 uf6s (by first | decide | omega) (by first | decide | omega) (x := x7) x7e ?_
                      refine r_ex hX hP 1 (pc' := 92) (st' := [(0, ((l1_h2 * 20) + x7)), (2, af9)]) (lo' := [(0, (2, this)), (1, (0, l1_h2)), (2, (0, (l1_h2 * 20))), (3, (0, l3_h60))]) rfl ?_
                      refine r_aald hX hP rfl al_101 rfl af9s (by first | decide | omega) (by first | decide | omega) (fun r10 r10e r10s => ?_)
                      refine r_ex hX hP 1 (pc' := 94) (st' := [(2, this), (2, r10)]) (lo' := [(0, (2, this)), (1, (0, l1_h2)), (2, (0, (l1_h2 * 20))), (3, (0, l3_h60))]) rfl ?_
                      refine r_getKR hX hP rfl fl_X3_19_133 hS (x := af9) af9e ?_
                      refine r_ex hX hP 3 (pc' := 100) (st' := [(0, ((l1_h2 * 20) + l3_h60)), (2, af9), (2, r10)]) (lo' := [(0, (2, this)), (1, (0, l1_h2)), (2, (0, (l1_h2 * 20))), (3, (0, l3_h60))]) rfl ?_
                      refine r_aald hX hP rfl al_101 rfl af9s (by first | decide | omega) (by first | decide | omega) (fun r11 r11e r11s => ?_)
                      refine r_ex hX hP 1 (pc' := 102) (st' := [(1, 1), (2, r11), (2, r10)]) (lo' := [(0, (2, this)), (1, (0, l1_h2)), (2, (0, (l1_h2 * 20))), (3, (0, l3_h60))]) rfl ?_
                      refine r_callS gd hX hP rfl cs_X3_140 (d' := 0) (mc' := 0) (ms' := 0) (as' := [(2, r10), (2, r11), (1, 1)]) (st := []) (by first | decide | omega) (by first | decide | omega) (by first | decide | omega) rfl rfl (Nat.le_of_ble_eq_true rfl) (c_X3_addTimes E S (hw [(99, -1)] (hw [(99, -1)] (hw [(99, -1)] G Gh2) Gh14) Gh60) r10 r11 1 r10s r11s (by first | decide | omega) (by first | decide | omega)) ?_
                      rintro _ _ _ ⟨rfl, ⟨G12, rfl⟩, rfl, -⟩
                      refine r_ex hX hP 2 (pc' := 60) (st' := []) (lo' := [(0, (2, this)), (1, (0, l1_h2)), (2, (0, (l1_h2 * 20))), (3, (0, (l3_h60 + (-1))))]) rfl ?_
                      refine r_eqG (X := X) (hw_sub (hw_base _ _ _) rfl) ?_
                      exact ih60 (l3_h60 + (-1)) _ (by first | decide | omega) (by first | decide | omega) (by first | decide | omega)
              refine r_eqG (X := X) (hw_refl [(99, -1)] _) ?_
              exact loop60 (((cf3 - 1) - (-1)) + 1 : Int).toNat (cf3 - 1) _ (by first | decide | omega) (by first | decide | omega) (by first | decide | omega)
            · skip
              refine r_ex hX hP 1 (pc' := 26) (st' := [(2, this)]) (lo' := [(0, (2, this)), (1, (0, l1_h2)), (2, (0, (l1_h2 * 20))), (3, (0, l3_h14))]) rfl ?_
              refine r_getR hX hP rfl fl_X3_16_133 hS (fun mf13 mf13e mf13s => ?_)
              refine r_ex hX hP 3 (pc' := 32) (st' := [(0, ((l1_h2 * 20) + l3_h14)), (2, mf13)]) (lo' := [(0, (2, this)), (1, (0, l1_h2)), (2, (0, (l1_h2 * 20))), (3, (0, l3_h14))]) rfl ?_
              refine r_aald hX hP rfl al_101 rfl mf13s (by first | decide | omega) (by first | decide | omega) (fun r14 r14e r14s => ?_)
              refine r_ex hX hP 1 (pc' := 34) (st' := [(2, this), (2, r14)]) (lo' := [(0, (2, this)), (1, (0, l1_h2)), (2, (0, (l1_h2 * 20))), (3, (0, l3_h14))]) rfl ?_
              refine r_getR hX hP rfl fl_X3_19_133 hS (fun af15 af15e af15s => ?_)
              refine r_ex hX hP 3 (pc' := 40) (st' := [(0, ((l1_h2 * 20) + l3_h14)), (2, af15), (2, r14)]) (lo' := [(0, (2, this)), (1, (0, l1_h2)), (2, (0, (l1_h2 * 20))), (3, (0, l3_h14))]) rfl ?_
              refine r_aald hX hP rfl al_101 rfl af15s (by first | decide | omega) (by first | decide | omega) (fun r16 r16e r16s => ?_)
              refine r_callS gd hX hP rfl cs_X3_161 (d' := 3) (mc' := 0) (ms' := 0) (as' := [(2, r14), (2, r16)]) (st := []) (by first | decide | omega) (by first | decide | omega) (by first | decide | omega) rfl rfl (Nat.le_of_ble_eq_true rfl) (c_X3_copy E S (hw [(99, -1)] (hw [(99, -1)] G Gh2) Gh14) r14 r16 r14s r16s) ?_
              rintro _ _ _ ⟨rfl, ⟨G17, rfl⟩, rfl, -⟩
              refine r_ex hX hP 2 (pc' := 14) (st' := []) (lo' := [(0, (2, this)), (1, (0, l1_h2)), (2, (0, (l1_h2 * 20))), (3, (0, (l3_h14 + 1)))]) rfl ?_
              refine r_eqG (X := X) (hw_sub (hw_base _ _ _) rfl) ?_
              exact ih14 (l3_h14 + 1) _ (by first | decide | omega) (by first | decide | omega) (by first | decide | omega)
        refine r_eqG (X := X) (hw_refl [(99, -1)] _) ?_
        exact loop14 ((20 - 0) + 1 : Int).toNat 0 _ (by first | decide | omega) (by first | decide | omega) (by first | decide | omega)
  refine r_eqG (X := X) (hw_refl [(99, -1)] _) ?_
  exact loop2 ((4 - 0) + 1 : Int).toNat 0 _ (by first | decide | omega) (by first | decide | omega) (by first | decide | omega)
set_option maxRecDepth 100000 in
set_option maxHeartbeats 4000000 in
theorem c_X3_portion (E : En) (S : Sg) (G : Gh) (this : Int) (comes : Int) (i : Int) (hS : S this = 133) (comes_s : S comes = 99) (i_a : 0 ≤ i) (i_b : i ≤ 20) : Calls E mX3_portion [(2, this), (2, comes), (0, i)] S G 1 0 0 (fun r S' G' => S = S' ∧ (∃ G1, hw [(99, -1)] G G1 = G') ∧ r = none ∧ True) := by
  refine calls_by [(0, (2, this)), (1, (2, comes)), (2, (0, i))] rfl rfl (Nat.le_of_ble_eq_true rfl) (fun X hX => ?_)
  have hP := hPX3_portion
  refine r_ex hX hP 1 (pc' := 1) (st' := [(2, this)]) (lo' := [(0, (2, this)), (1, (2, comes)), (2, (0, i))]) rfl ?_
  refine r_getR hX hP rfl fl_X3_42_133 hS (fun sf1 sf1e sf1s => ?_)
  refine r_ex hX hP 1 (pc' := 5) (st' := [(0, i), (2, sf1)]) (lo' := [(0, (2, this)), (1, (2, comes)), (2, (0, i))]) rfl ?_
  refine r_aald hX hP rfl al_103 rfl sf1s (by first | decide | omega) (by first | decide | omega) (fun r2 r2e r2s => ?_)
  refine r_ex hX hP 1 (pc' := 7) (st' := [(1, 0), (2, r2)]) (lo' := [(0, (2, this)), (1, (2, comes)), (2, (0, i))]) rfl ?_
  refine r_callS gd hX hP rfl cs_X3_67 (d' := 0) (mc' := 0) (ms' := 0) (as' := [(2, r2), (1, 0)]) (st := []) (by first | decide | omega) (by first | decide | omega) (by first | decide | omega) rfl rfl (Nat.le_of_ble_eq_true rfl) (c_X3_put E S G r2 0 r2s (by first | decide | omega) (by first | decide | omega)) ?_
  rintro _ _ _ ⟨rfl, ⟨G3, rfl⟩, rfl, -⟩
  refine r_ex hX hP 1 (pc' := 11) (st' := [(2, this)]) (lo' := [(0, (2, this)), (1, (2, comes)), (2, (0, i))]) rfl ?_
  refine r_getR hX hP rfl fl_X3_45_133 hS (fun rf4 rf4e rf4s => ?_)
  refine r_ex hX hP 1 (pc' := 15) (st' := [(0, i), (2, rf4)]) (lo' := [(0, (2, this)), (1, (2, comes)), (2, (0, i))]) rfl ?_
  refine r_aald hX hP rfl al_103 rfl rf4s (by first | decide | omega) (by first | decide | omega) (fun r5 r5e r5s => ?_)
  refine r_ex hX hP 1 (pc' := 17) (st' := [(1, 0), (2, r5)]) (lo' := [(0, (2, this)), (1, (2, comes)), (2, (0, i))]) rfl ?_
  refine r_callS gd hX hP rfl cs_X3_67 (d' := 0) (mc' := 0) (ms' := 0) (as' := [(2, r5), (1, 0)]) (st := []) (by first | decide | omega) (by first | decide | omega) (by first | decide | omega) rfl rfl (Nat.le_of_ble_eq_true rfl) (c_X3_put E S (hw [(99, -1)] G G3) r5 0 r5s (by first | decide | omega) (by first | decide | omega)) ?_
  rintro _ _ _ ⟨rfl, ⟨G6, rfl⟩, rfl, -⟩
  refine r_ex hX hP 1 (pc' := 21) (st' := [(2, this)]) (lo' := [(0, (2, this)), (1, (2, comes)), (2, (0, i))]) rfl ?_
  refine r_getR hX hP rfl fl_X3_39_133 hS (fun wf7 wf7e wf7s => ?_)
  refine r_ex hX hP 1 (pc' := 25) (st' := [(0, i), (2, wf7)]) (lo' := [(0, (2, this)), (1, (2, comes)), (2, (0, i))]) rfl ?_
  refine r_aald hX hP rfl al_103 rfl wf7s (by first | decide | omega) (by first | decide | omega) (fun r8 r8e r8s => ?_)
  refine r_callS gd hX hP rfl cs_X3_208 (d' := 0) (mc' := 0) (ms' := 0) (as' := [(2, r8)]) (st := []) (by first | decide | omega) (by first | decide | omega) (by first | decide | omega) rfl rfl (Nat.le_of_ble_eq_true rfl) (c_X3_cutToLong E S (hw [(99, -1)] (hw [(99, -1)] G G3) G6) r8 r8s) ?_
  rintro _ _ _ ⟨rfl, rfl, z9, rfl, z9a, z9b⟩
  refine r_ex hX hP 1 (pc' := 30) (st' := [(1, 0), (1, z9)]) (lo' := [(0, (2, this)), (1, (2, comes)), (2, (0, i))]) rfl ?_
  refine r_lc_ne hX hP rfl rfl (tgt := 35) rfl (by first | decide | omega) (by first | decide | omega) (by first | decide | omega) (by first | decide | omega) (fun c10 => ?_) (fun c10 => ?_)
  · skip
    refine r_ex hX hP 2 (pc' := 38) (st' := []) (lo' := [(0, (2, this)), (1, (2, comes)), (2, (0, i)), (3, (0, 9))]) rfl ?_
    have x58 : ∀ (l3_x58 : Int), 0 ≤ l3_x58 → l3_x58 ≤ 9 → X 0 0 58 [] [(0, (2, this)), (1, (2, comes)), (2, (0, i)), (3, (0, l3_x58))] S (hw [(99, -1)] (hw [(99, -1)] G G3) G6) := by
      intro l3_x58 yx58_0 yx58_1
      refine r_ex hX hP 6 (pc' := 66) (st' := []) (lo' := [(0, (2, this)), (1, (2, comes)), (2, (0, i)), (3, (0, l3_x58)), (4, (0, ((l3_x58 * 40) - 1)))]) rfl ?_
      have loop66 : ∀ (nF : Nat) (l4_h66 : Int) (Gh66 : Gh), (-1) ≤ l4_h66 → l4_h66 ≤ 359 → l4_h66 - (-1) < (nF : Int) → X 0 0 66 [] [(0, (2, this)), (1, (2, comes)), (2, (0, i)), (3, (0, l3_x58)), (4, (0, l4_h66))] S (hw [(99, -1)] (hw [(99, -1)] (hw [(99, -1)] G G3) G6) Gh66) := by
        intro nF
        induction nF with
        | zero => intro l4_h66 Gh66 yh66_0 yh66_1 ym66; exfalso; omega
        | succ nF ih66 =>
          intro l4_h66 Gh66 yh66_0 yh66_1 ym66
          refine r_ex hX hP 1 (pc' := 68) (st' := [(0, l4_h66)]) (lo' := [(0, (2, this)), (1, (2, comes)), (2, (0, i)), (3, (0, l3_x58)), (4, (0, l4_h66))]) rfl ?_
          refine r_if_lt hX hP rfl (tgt := 197) rfl (by first | decide | omega) (by first | decide | omega) (fun c11 => ?_) (fun c11 => ?_)
          · skip
            exact r_retV hX hP rfl rfl (by first | decide | omega) (by first | decide | omega) ⟨rfl, ⟨_, (hw_sub (hw_sub (hw_sub (hw_refl _ _) rfl) rfl) rfl).symm⟩, rfl, trivial⟩
          · skip
            refine r_ex hX hP 1 (pc' := 72) (st' := [(2, this)]) (lo' := [(0, (2, this)), (1, (2, comes)), (2, (0, i)), (3, (0, l3_x58)), (4, (0, l4_h66))]) rfl ?_
            refine r_getKR hX hP rfl fl_X3_42_133 hS (x := sf1) sf1e ?_
            refine r_ex hX hP 1 (pc' := 76) (st' := [(0, i), (2, sf1)]) (lo' := [(0, (2, this)), (1, (2, comes)), (2, (0, i)), (3, (0, l3_x58)), (4, (0, l4_h66))]) rfl ?_
            refine r_aaldK hX hP rfl al_103 rfl sf1s (by first | decide | omega) (by first | decide | omega) (x := r2) r2e ?_
            refine r_ex hX hP 1 (pc' := 78) (st' := [(2, this), (2, r2)]) (lo' := [(0, (2, this)), (1, (2, comes)), (2, (0, i)), (3, (0, l3_x58)), (4, (0, l4_h66))]) rfl ?_
            refine r_getKR hX hP rfl fl_X3_42_133 hS (x := sf1) sf1e ?_
            refine r_ex hX hP 1 (pc' := 82) (st' := [(0, i), (2, sf1), (2, r2)]) (lo' := [(0, (2, this)), (1, (2, comes)), (2, (0, i)), (3, (0, l3_x58)), (4, (0, l4_h66))]) rfl ?_
            refine r_aaldK hX hP rfl al_103 rfl sf1s (by first | decide | omega) (by first | decide | omega) (x := r2) r2e ?_
            refine r_ex hX hP 1 (pc' := 84) (st' := [(1, 1), (2, r2), (2, r2)]) (lo' := [(0, (2, this)), (1, (2, comes)), (2, (0, i)), (3, (0, l3_x58)), (4, (0, l4_h66))]) rfl ?_
            refine r_callS gd hX hP rfl cs_X3_140 (d' := 0) (mc' := 0) (ms' := 0) (as' := [(2, r2), (2, r2), (1, 1)]) (st := []) (by first | decide | omega) (by first | decide | omega) (by first | decide | omega) rfl rfl (Nat.le_of_ble_eq_true rfl) (c_X3_addTimes E S (hw [(99, -1)] (hw [(99, -1)] (hw [(99, -1)] G G3) G6) Gh66) r2 r2 1 r2s r2s (by first | decide | omega) (by first | decide | omega)) ?_
            rintro _ _ _ ⟨rfl, ⟨G12, rfl⟩, rfl, -⟩
            refine r_ex hX hP 1 (pc' := 88) (st' := [(2, this)]) (lo' := [(0, (2, this)), (1, (2, comes)), (2, (0, i)), (3, (0, l3_x58)), (4, (0, l4_h66))]) rfl ?_
            refine r_getKR hX hP rfl fl_X3_45_133 hS (x := rf4) rf4e ?_
            refine r_ex hX hP 1 (pc' := 92) (st' := [(0, i), (2, rf4)]) (lo' := [(0, (2, this)), (1, (2, comes)), (2, (0, i)), (3, (0, l3_x58)), (4, (0, l4_h66))]) rfl ?_
            refine r_aaldK hX hP rfl al_103 rfl rf4s (by first | decide | omega) (by first | decide | omega) (x := r5) r5e ?_
            refine r_ex hX hP 1 (pc' := 94) (st' := [(2, this), (2, r5)]) (lo' := [(0, (2, this)), (1, (2, comes)), (2, (0, i)), (3, (0, l3_x58)), (4, (0, l4_h66))]) rfl ?_
            refine r_getKR hX hP rfl fl_X3_45_133 hS (x := rf4) rf4e ?_
            refine r_ex hX hP 1 (pc' := 98) (st' := [(0, i), (2, rf4), (2, r5)]) (lo' := [(0, (2, this)), (1, (2, comes)), (2, (0, i)), (3, (0, l3_x58)), (4, (0, l4_h66))]) rfl ?_
            refine r_aaldK hX hP rfl al_103 rfl rf4s (by first | decide | omega) (by first | decide | omega) (x := r5) r5e ?_
            refine r_ex hX hP 1 (pc' := 100) (st' := [(1, 1), (2, r5), (2, r5)]) (lo' := [(0, (2, this)), (1, (2, comes)), (2, (0, i)), (3, (0, l3_x58)), (4, (0, l4_h66))]) rfl ?_
            refine r_callS gd hX hP rfl cs_X3_140 (d' := 0) (mc' := 0) (ms' := 0) (as' := [(2, r5), (2, r5), (1, 1)]) (st := []) (by first | decide | omega) (by first | decide | omega) (by first | decide | omega) rfl rfl (Nat.le_of_ble_eq_true rfl) (c_X3_addTimes E S (hw [(99, -1)] (hw [(99, -1)] (hw [(99, -1)] (hw [(99, -1)] G G3) G6) Gh66) G12) r5 r5 1 r5s r5s (by first | decide | omega) (by first | decide | omega)) ?_
            rintro _ _ _ ⟨rfl, ⟨G13, rfl⟩, rfl, -⟩
            refine r_ex hX hP 1 (pc' := 104) (st' := [(2, this)]) (lo' := [(0, (2, this)), (1, (2, comes)), (2, (0, i)), (3, (0, l3_x58)), (4, (0, l4_h66))]) rfl ?_
            refine r_getKR hX hP rfl fl_X3_45_133 hS (x := rf4) rf4e ?_
            refine r_ex hX hP 1 (pc' := 108) (st' := [(0, i), (2, rf4)]) (lo' := [(0, (2, this)), (1, (2, comes)), (2, (0, i)), (3, (0, l3_x58)), (4, (0, l4_h66))]) rfl ?_
            refine r_aaldK hX hP rfl al_103 rfl rf4s (by first | decide | omega) (by first | decide | omega) (x := r5) r5e ?_
            refine r_ex hX hP 1 (pc' := 110) (st' := [(2, this), (2, r5)]) (lo' := [(0, (2, this)), (1, (2, comes)), (2, (0, i)), (3, (0, l3_x58)), (4, (0, l4_h66))]) rfl ?_
            refine r_getKR hX hP rfl fl_X3_39_133 hS (x := wf7) wf7e ?_
            refine r_ex hX hP 1 (pc' := 114) (st' := [(0, i), (2, wf7), (2, r5)]) (lo' := [(0, (2, this)), (1, (2, comes)), (2, (0, i)), (3, (0, l3_x58)), (4, (0, l4_h66))]) rfl ?_
            refine r_aaldK hX hP rfl al_103 rfl wf7s (by first | decide | omega) (by first | decide | omega) (x := r8) r8e ?_
            refine r_ex hX hP 3 (pc' := 120) (st' := [(0, 40), (0, l4_h66), (2, comes), (2, r8), (2, r5)]) (lo' := [(0, (2, this)), (1, (2, comes)), (2, (0, i)), (3, (0, l3_x58)), (4, (0, l4_h66))]) rfl ?_
            refine r_idiv hX hP rfl (by first | decide | omega) (by first | decide | omega) (by first | decide | omega) (by first | decide | omega) (by first | decide | omega) ?_
            obtain ⟨q14, q14e⟩ : ∃ q : Int, q = (Int.tdiv l4_h66 40) := ⟨_, rfl⟩
            rw [← q14e]
            have q14b := td_pos q14e (by first | decide | omega) (by first | decide | omega)
            refine r_lald hX hP rfl al_99 comes_s (by first | decide | omega) (by first | decide | omega) (fun x15 x15e x15a x15b => ?_)
            refine r_ex hX hP 2 (pc' := 126) (st' := [(0, 40), (0, l4_h66), (1, x15), (2, r8), (2, r5)]) (lo' := [(0, (2, this)), (1, (2, comes)), (2, (0, i)), (3, (0, l3_x58)), (4, (0, l4_h66))]) rfl ?_
            refine r_irem hX hP rfl (by first | decide | omega) (by first | decide | omega) (by first | decide | omega) (by first | decide | omega) (by first | decide | omega) ?_
            obtain ⟨q16, q16e⟩ : ∃ q : Int, q = (Int.tmod l4_h66 40) := ⟨_, rfl⟩
            rw [← q16e]
            have q16b := tm_pos q16e (by first | decide | omega) (by first | decide | omega)
            refine r_lshr hX hP rfl (fun b17 b17a b17b b17e => ?_)
            refine r_ex hX hP 1 (pc' := 129) (st' := [(1, 1), (1, b17), (2, r8), (2, r5)]) (lo' := [(0, (2, this)), (1, (2, comes)), (2, (0, i)), (3, (0, l3_x58)), (4, (0, l4_h66))]) rfl ?_
            refine r_land hX hP rfl (fun b18 b18a b18b b18e => ?_)
            refine r_callS gd hX hP rfl cs_X3_140 (d' := 0) (mc' := 0) (ms' := 0) (as' := [(2, r5), (2, r8), (1, b18)]) (st := []) (by first | decide | omega) (by first | decide | omega) (by first | decide | omega) rfl rfl (Nat.le_of_ble_eq_true rfl) (c_X3_addTimes E S (hw [(99, -1)] (hw [(99, -1)] (hw [(99, -1)] (hw [(99, -1)] (hw [(99, -1)] G G3) G6) Gh66) G12) G13) r5 r8 b18 r5s r8s (by first | decide | omega) (by first | decide | omega)) ?_
            rintro _ _ _ ⟨rfl, ⟨G19, rfl⟩, rfl, -⟩
            refine r_ex hX hP 2 (pc' := 136) (st' := []) (lo' := [(0, (2, this)), (1, (2, comes)), (2, (0, i)), (3, (0, l3_x58)), (4, (0, l4_h66)), (5, (0, 0))]) rfl ?_
            have x191 : ∀ (l5_x191 : Int) (Gx191 : Gh), 0 ≤ l5_x191 → l5_x191 ≤ 2 → X 0 0 191 [] [(0, (2, this)), (1, (2, comes)), (2, (0, i)), (3, (0, l3_x58)), (4, (0, l4_h66)), (5, (0, l5_x191))] S (hw [(99, -1)] (hw [(99, -1)] (hw [(99, -1)] (hw [(99, -1)] (hw [(99, -1)] (hw [(99, -1)] (hw [(99, -1)] G G3) G6) Gh66) G12) G13) G19) Gx191) := by
              intro l5_x191 Gx191 yx191_0 yx191_1
              refine r_ex hX hP 2 (pc' := 66) (st' := []) (lo' := [(0, (2, this)), (1, (2, comes)), (2, (0, i)), (3, (0, l3_x58)), (4, (0, (l4_h66 + (-1)))), (5, (0, l5_x191))]) rfl ?_
              refine r_pick hX [0, 1, 2, 3, 4] (lo' := [(0, (2, this)), (1, (2, comes)), (2, (0, i)), (3, (0, l3_x58)), (4, (0, (l4_h66 + (-1))))]) rfl ?_
              refine r_eqG (X := X) (hw_sub (hw_sub (hw_sub (hw_sub (hw_base _ _ _) rfl) rfl) rfl) rfl) ?_
              exact ih66 (l4_h66 + (-1)) _ (by first | decide | omega) (by first | decide | omega) (by first | decide | omega)
            have loop136 : ∀ (nF : Nat) (l5_h136 : Int) (Gh136 : Gh), 0 ≤ l5_h136 → l5_h136 ≤ 2 → 2 - l5_h136 < (nF : Int) → X 0 0 136 [] [(0, (2, this)), (1, (2, comes)), (2, (0, i)), (3, (0, l3_x58)), (4, (0, l4_h66)), (5, (0, l5_h136))] S (hw [(99, -1)] (hw [(99, -1)] (hw [(99, -1)] (hw [(99, -1)] (hw [(99, -1)] (hw [(99, -1)] (hw [(99, -1)] G G3) G6) Gh66) G12) G13) G19) Gh136) := by
              intro nF
              induction nF with
              | zero => intro l5_h136 Gh136 yh136_0 yh136_1 ym136; exfalso; omega
              | succ nF ih136 =>
                intro l5_h136 Gh136 yh136_0 yh136_1 ym136
                refine r_ex hX hP 2 (pc' := 139) (st' := [(0, 2), (0, l5_h136)]) (lo' := [(0, (2, this)), (1, (2, comes)), (2, (0, i)), (3, (0, l3_x58)), (4, (0, l4_h66)), (5, (0, l5_h136))]) rfl ?_
                refine r_ic_ge hX hP rfl (tgt := 191) rfl (by first | decide | omega) (by first | decide | omega) (by first | decide | omega) (by first | decide | omega) (fun c20 => ?_) (fun c20 => ?_)
                · skip
                  refine r_eqG (X := X) (hw_sub (hw_refl [(99, -1)] _) rfl) ?_
                  exact x191 l5_h136 _ (by first | decide | omega) (by first | decide | omega)
                · skip
                  refine r_ex hX hP 1 (pc' := 143) (st' := [(2, this)]) (lo' := [(0, (2, this)), (1, (2, comes)), (2, (0, i)), (3, (0, l3_x58)), (4, (0, l4_h66)), (5, (0, l5_h136))]) rfl ?_
                  refine r_getKR hX hP rfl fl_X3_45_133 hS (x := rf4) rf4e ?_
                  refine r_ex hX hP 1 (pc' := 147) (st' := [(0, i), (2, rf4)]) (lo' := [(0, (2, this)), (1, (2, comes)), (2, (0, i)), (3, (0, l3_x58)), (4, (0, l4_h66)), (5, (0, l5_h136))]) rfl ?_
                  refine r_aaldK hX hP rfl al_103 rfl rf4s (by first | decide | omega) (by first | decide | omega) (x := r5) r5e ?_
                  refine r_ex hX hP 1 (pc' := 149) (st' := [(2, this), (2, r5)]) (lo' := [(0, (2, this)), (1, (2, comes)), (2, (0, i)), (3, (0, l3_x58)), (4, (0, l4_h66)), (5, (0, l5_h136))]) rfl ?_
                  refine r_getR hX hP rfl fl_X3_54_133 hS (fun sf21 sf21e sf21s => ?_)
                  refine r_callS gd hX hP rfl cs_X3_147 (d' := 0) (mc' := 0) (ms' := 0) (as' := [(2, r5), (2, sf21)]) (st := []) (by first | decide | omega) (by first | decide | omega) (by first | decide | omega) rfl rfl (Nat.le_of_ble_eq_true rfl) (c_X3_isLess E S (hw [(99, -1)] (hw [(99, -1)] (hw [(99, -1)] (hw [(99, -1)] (hw [(99, -1)] (hw [(99, -1)] (hw [(99, -1)] G G3) G6) Gh66) G12) G13) G19) Gh136) r5 sf21 r5s sf21s) ?_
                  rintro _ _ _ ⟨rfl, rfl, z22, rfl, z22a, z22b⟩
                  refine r_if_ne hX hP rfl (tgt := 191) rfl (by first | decide | omega) (by first | decide | omega) (fun c23 => ?_) (fun c23 => ?_)
                  · skip
                    refine r_eqG (X := X) (hw_sub (hw_refl [(99, -1)] _) rfl) ?_
                    exact x191 l5_h136 _ (by first | decide | omega) (by first | decide | omega)
                  · skip
                    refine r_ex hX hP 1 (pc' := 159) (st' := [(2, this)]) (lo' := [(0, (2, this)), (1, (2, comes)), (2, (0, i)), (3, (0, l3_x58)), (4, (0, l4_h66)), (5, (0, l5_h136))]) rfl ?_
                    refine r_getKR hX hP rfl fl_X3_45_133 hS (x := rf4) rf4e ?_
                    refine r_ex hX hP 1 (pc' := 163) (st' := [(0, i), (2, rf4)]) (lo' := [(0, (2, this)), (1, (2, comes)), (2, (0, i)), (3, (0, l3_x58)), (4, (0, l4_h66)), (5, (0, l5_h136))]) rfl ?_
                    refine r_aaldK hX hP rfl al_103 rfl rf4s (by first | decide | omega) (by first | decide | omega) (x := r5) r5e ?_
                    refine r_ex hX hP 1 (pc' := 165) (st' := [(2, this), (2, r5)]) (lo' := [(0, (2, this)), (1, (2, comes)), (2, (0, i)), (3, (0, l3_x58)), (4, (0, l4_h66)), (5, (0, l5_h136))]) rfl ?_
                    refine r_getKR hX hP rfl fl_X3_54_133 hS (x := sf21) sf21e ?_
                    refine r_callS gd hX hP rfl cs_X3_151 (d' := 0) (mc' := 0) (ms' := 0) (as' := [(2, r5), (2, sf21)]) (st := []) (by first | decide | omega) (by first | decide | omega) (by first | decide | omega) rfl rfl (Nat.le_of_ble_eq_true rfl) (c_X3_subtract E S (hw [(99, -1)] (hw [(99, -1)] (hw [(99, -1)] (hw [(99, -1)] (hw [(99, -1)] (hw [(99, -1)] (hw [(99, -1)] G G3) G6) Gh66) G12) G13) G19) Gh136) r5 sf21 r5s sf21s) ?_
                    rintro _ _ _ ⟨rfl, ⟨G24, rfl⟩, rfl, -⟩
                    refine r_ex hX hP 1 (pc' := 172) (st' := [(2, this)]) (lo' := [(0, (2, this)), (1, (2, comes)), (2, (0, i)), (3, (0, l3_x58)), (4, (0, l4_h66)), (5, (0, l5_h136))]) rfl ?_
                    refine r_getKR hX hP rfl fl_X3_42_133 hS (x := sf1) sf1e ?_
                    refine r_ex hX hP 1 (pc' := 176) (st' := [(0, i), (2, sf1)]) (lo' := [(0, (2, this)), (1, (2, comes)), (2, (0, i)), (3, (0, l3_x58)), (4, (0, l4_h66)), (5, (0, l5_h136))]) rfl ?_
                    refine r_aaldK hX hP rfl al_103 rfl sf1s (by first | decide | omega) (by first | decide | omega) (x := r2) r2e ?_
                    refine r_ex hX hP 1 (pc' := 178) (st' := [(2, this), (2, r2)]) (lo' := [(0, (2, this)), (1, (2, comes)), (2, (0, i)), (3, (0, l3_x58)), (4, (0, l4_h66)), (5, (0, l5_h136))]) rfl ?_
                    refine r_getR hX hP rfl fl_X3_60_133 hS (fun of25 of25e of25s => ?_)
                    refine r_ex hX hP 1 (pc' := 182) (st' := [(1, 1), (2, of25), (2, r2)]) (lo' := [(0, (2, this)), (1, (2, comes)), (2, (0, i)), (3, (0, l3_x58)), (4, (0, l4_h66)), (5, (0, l5_h136))]) rfl ?_
                    refine r_callS gd hX hP rfl cs_X3_140 (d' := 0) (mc' := 0) (ms' := 0) (as' := [(2, r2), (2, of25), (1, 1)]) (st := []) (by first | decide | omega) (by first | decide | omega) (by first | decide | omega) rfl rfl (Nat.le_of_ble_eq_true rfl) (c_X3_addTimes E S (hw [(99, -1)] (hw [(99, -1)] (hw [(99, -1)] (hw [(99, -1)] (hw [(99, -1)] (hw [(99, -1)] (hw [(99, -1)] (hw [(99, -1)] G G3) G6) Gh66) G12) G13) G19) Gh136) G24) r2 of25 1 r2s of25s (by first | decide | omega) (by first | decide | omega)) ?_
                    rintro _ _ _ ⟨rfl, ⟨G26, rfl⟩, rfl, -⟩
                    refine r_ex hX hP 2 (pc' := 136) (st' := []) (lo' := [(0, (2, this)), (1, (2, comes)), (2, (0, i)), (3, (0, l3_x58)), (4, (0, l4_h66)), (5, (0, (l5_h136 + 1)))]) rfl ?_
                    refine r_eqG (X := X) (hw_sub (hw_sub (hw_base _ _ _) rfl) rfl) ?_
                    exact ih136 (l5_h136 + 1) _ (by first | decide | omega) (by first | decide | omega) (by first | decide | omega)
            refine r_eqG (X := X) (hw_refl [(99, -1)] _) ?_
            exact loop136 ((2 - 0) + 1 : Int).toNat 0 _ (by first | decide | omega) (by first | decide | omega) (by first | decide | omega)
      refine r_eqG (X := X) (hw_refl [(99, -1)] _) ?_
      exact loop66 ((((l3_x58 * 40) - 1) - (-1)) + 1 : Int).toNat ((l3_x58 * 40) - 1) _ (by first | decide | omega) (by first | decide | omega) (by first | decide | omega)
    have loop38 : ∀ (nF : Nat) (l3_h38 : Int), 0 ≤ l3_h38 → l3_h38 ≤ 9 → l3_h38 - 0 < (nF : Int) → X 0 0 38 [] [(0, (2, this)), (1, (2, comes)), (2, (0, i)), (3, (0, l3_h38))] S (hw [(99, -1)] (hw [(99, -1)] G G3) G6) := by
      intro nF
      induction nF with
      | zero => intro l3_h38 yh38_0 yh38_1 ym38; exfalso; omega
      | succ nF ih38 =>
        intro l3_h38 yh38_0 yh38_1 ym38
        refine r_ex hX hP 1 (pc' := 39) (st' := [(0, l3_h38)]) (lo' := [(0, (2, this)), (1, (2, comes)), (2, (0, i)), (3, (0, l3_h38))]) rfl ?_
        refine r_if_le hX hP rfl (tgt := 58) rfl (by first | decide | omega) (by first | decide | omega) (fun c27 => ?_) (fun c27 => ?_)
        · skip
          exact x58 l3_h38 (by first | decide | omega) (by first | decide | omega)
        · skip
          refine r_ex hX hP 4 (pc' := 46) (st' := [(0, (l3_h38 - 1)), (2, comes)]) (lo' := [(0, (2, this)), (1, (2, comes)), (2, (0, i)), (3, (0, l3_h38))]) rfl ?_
          refine r_lald hX hP rfl al_99 comes_s (by first | decide | omega) (by first | decide | omega) (fun x28 x28e x28a x28b => ?_)
          refine r_ex hX hP 1 (pc' := 48) (st' := [(1, 0), (1, x28)]) (lo' := [(0, (2, this)), (1, (2, comes)), (2, (0, i)), (3, (0, l3_h38))]) rfl ?_
          refine r_lc_ne hX hP rfl rfl (tgt := 58) rfl (by first | decide | omega) (by first | decide | omega) (by first | decide | omega) (by first | decide | omega) (fun c29 => ?_) (fun c29 => ?_)
          · skip
            exact x58 l3_h38 (by first | decide | omega) (by first | decide | omega)
          · skip
            refine r_ex hX hP 2 (pc' := 38) (st' := []) (lo' := [(0, (2, this)), (1, (2, comes)), (2, (0, i)), (3, (0, (l3_h38 + (-1))))]) rfl ?_
            exact ih38 (l3_h38 + (-1)) (by first | decide | omega) (by first | decide | omega) (by first | decide | omega)
    exact loop38 ((9 - 0) + 1 : Int).toNat 9 (by first | decide | omega) (by first | decide | omega) (by first | decide | omega)
  · skip
    exact r_retV hX hP rfl rfl (by first | decide | omega) (by first | decide | omega) ⟨rfl, ⟨_, (hw_sub (hw_sub (hw_refl _ _) rfl) rfl).symm⟩, rfl, trivial⟩
set_option maxRecDepth 100000 in
set_option maxHeartbeats 4000000 in
theorem c_X3_apportion (E : En) (S : Sg) (G : Gh) (this : Int) (comes : Int) (parts : Int) (hS : S this = 133) (comes_s : S comes = 99) (parts_a : 0 ≤ parts) (parts_b : parts ≤ 21) : Calls E mX3_apportion [(2, this), (2, comes), (0, parts)] S G 4 0 0 (fun r S' G' => S = S' ∧ (∃ G1, hw [(99, -1)] G G1 = G') ∧ r = none ∧ True) := by
  refine calls_by [(0, (2, this)), (1, (2, comes)), (2, (0, parts))] rfl rfl (Nat.le_of_ble_eq_true rfl) (fun X hX => ?_)
  have hP := hPX3_apportion
  refine r_ex hX hP 1 (pc' := 1) (st' := [(2, this)]) (lo' := [(0, (2, this)), (1, (2, comes)), (2, (0, parts))]) rfl ?_
  refine r_getR hX hP rfl fl_X3_54_133 hS (fun sf1 sf1e sf1s => ?_)
  refine r_ex hX hP 1 (pc' := 5) (st' := [(1, 0), (2, sf1)]) (lo' := [(0, (2, this)), (1, (2, comes)), (2, (0, parts))]) rfl ?_
  refine r_callS gd hX hP rfl cs_X3_67 (d' := 0) (mc' := 0) (ms' := 0) (as' := [(2, sf1), (1, 0)]) (st := []) (by first | decide | omega) (by first | decide | omega) (by first | decide | omega) rfl rfl (Nat.le_of_ble_eq_true rfl) (c_X3_put E S G sf1 0 sf1s (by first | decide | omega) (by first | decide | omega)) ?_
  rintro _ _ _ ⟨rfl, ⟨G2, rfl⟩, rfl, -⟩
  refine r_ex hX hP 2 (pc' := 10) (st' := []) (lo' := [(0, (2, this)), (1, (2, comes)), (2, (0, parts)), (3, (0, 0))]) rfl ?_
  have loop10 : ∀ (nF : Nat) (l3_h10 : Int) (Gh10 : Gh), 0 ≤ l3_h10 → l3_h10 ≤ 21 → 21 - l3_h10 < (nF : Int) → X 0 0 10 [] [(0, (2, this)), (1, (2, comes)), (2, (0, parts)), (3, (0, l3_h10))] S (hw [(99, -1)] (hw [(99, -1)] G G2) Gh10) := by
    intro nF
    induction nF with
    | zero => intro l3_h10 Gh10 yh10_0 yh10_1 ym10; exfalso; omega
    | succ nF ih10 =>
      intro l3_h10 Gh10 yh10_0 yh10_1 ym10
      refine r_ex hX hP 2 (pc' := 12) (st' := [(0, parts), (0, l3_h10)]) (lo' := [(0, (2, this)), (1, (2, comes)), (2, (0, parts)), (3, (0, l3_h10))]) rfl ?_
      refine r_ic_ge hX hP rfl (tgt := 35) rfl (by first | decide | omega) (by first | decide | omega) (by first | decide | omega) (by first | decide | omega) (fun c3 => ?_) (fun c3 => ?_)
      · skip
        refine r_ex hX hP 2 (pc' := 37) (st' := [(2, this), (2, comes)]) (lo' := [(0, (2, this)), (1, (2, comes)), (2, (0, parts)), (3, (0, l3_h10))]) rfl ?_
        refine r_getR hX hP rfl fl_X3_57_133 hS (fun lf4 lf4e lf4s => ?_)
        refine r_callS gd hX hP rfl cs_X3_161 (d' := 3) (mc' := 0) (ms' := 0) (as' := [(2, comes), (2, lf4)]) (st := []) (by first | decide | omega) (by first | decide | omega) (by first | decide | omega) rfl rfl (Nat.le_of_ble_eq_true rfl) (c_X3_copy E S (hw [(99, -1)] (hw [(99, -1)] G G2) Gh10) comes lf4 comes_s lf4s) ?_
        rintro _ _ _ ⟨rfl, ⟨G5, rfl⟩, rfl, -⟩
        refine r_ex hX hP 2 (pc' := 45) (st' := []) (lo' := [(0, (2, this)), (1, (2, comes)), (2, (0, parts)), (3, (0, 0))]) rfl ?_
        have loop45 : ∀ (nF : Nat) (l3_h45 : Int) (Gh45 : Gh), 0 ≤ l3_h45 → l3_h45 ≤ 21 → 21 - l3_h45 < (nF : Int) → X 0 0 45 [] [(0, (2, this)), (1, (2, comes)), (2, (0, parts)), (3, (0, l3_h45))] S (hw [(99, -1)] (hw [(99, -1)] (hw [(99, -1)] (hw [(99, -1)] G G2) Gh10) G5) Gh45) := by
          intro nF
          induction nF with
          | zero => intro l3_h45 Gh45 yh45_0 yh45_1 ym45; exfalso; omega
          | succ nF ih45 =>
            intro l3_h45 Gh45 yh45_0 yh45_1 ym45
            refine r_ex hX hP 2 (pc' := 47) (st' := [(0, parts), (0, l3_h45)]) (lo' := [(0, (2, this)), (1, (2, comes)), (2, (0, parts)), (3, (0, l3_h45))]) rfl ?_
            refine r_ic_ge hX hP rfl (tgt := 75) rfl (by first | decide | omega) (by first | decide | omega) (by first | decide | omega) (by first | decide | omega) (fun c6 => ?_) (fun c6 => ?_)
            · skip
              refine r_ex hX hP 2 (pc' := 77) (st' := []) (lo' := [(0, (2, this)), (1, (2, comes)), (2, (0, parts)), (3, (0, 0))]) rfl ?_
              have x177 : ∀ (l3_x177 : Int) (Gx177 : Gh), 0 ≤ l3_x177 → l3_x177 ≤ 21 → X 0 0 177 [] [(0, (2, this)), (1, (2, comes)), (2, (0, parts)), (3, (0, l3_x177))] S (hw [(99, -1)] (hw [(99, -1)] (hw [(99, -1)] (hw [(99, -1)] (hw [(99, -1)] G G2) Gh10) G5) Gh45) Gx177) := by
                intro l3_x177 Gx177 yx177_0 yx177_1
                exact r_retV hX hP rfl rfl (by first | decide | omega) (by first | decide | omega) ⟨rfl, ⟨_, (hw_sub (hw_sub (hw_sub (hw_sub (hw_sub (hw_refl _ _) rfl) rfl) rfl) rfl) rfl).symm⟩, rfl, trivial⟩
              have loop77 : ∀ (nF : Nat) (l3_h77 : Int) (Gh77 : Gh), 0 ≤ l3_h77 → l3_h77 ≤ 21 → 21 - l3_h77 < (nF : Int) → X 0 0 77 [] [(0, (2, this)), (1, (2, comes)), (2, (0, parts)), (3, (0, l3_h77))] S (hw [(99, -1)] (hw [(99, -1)] (hw [(99, -1)] (hw [(99, -1)] (hw [(99, -1)] G G2) Gh10) G5) Gh45) Gh77) := by
                intro nF
                induction nF with
                | zero => intro l3_h77 Gh77 yh77_0 yh77_1 ym77; exfalso; omega
                | succ nF ih77 =>
                  intro l3_h77 Gh77 yh77_0 yh77_1 ym77
                  refine r_ex hX hP 2 (pc' := 79) (st' := [(0, parts), (0, l3_h77)]) (lo' := [(0, (2, this)), (1, (2, comes)), (2, (0, parts)), (3, (0, l3_h77))]) rfl ?_
                  refine r_ic_ge hX hP rfl (tgt := 177) rfl (by first | decide | omega) (by first | decide | omega) (by first | decide | omega) (by first | decide | omega) (fun c7 => ?_) (fun c7 => ?_)
                  · skip
                    refine r_eqG (X := X) (hw_sub (hw_refl [(99, -1)] _) rfl) ?_
                    exact x177 l3_h77 _ (by first | decide | omega) (by first | decide | omega)
                  · skip
                    refine r_ex hX hP 1 (pc' := 83) (st' := [(2, this)]) (lo' := [(0, (2, this)), (1, (2, comes)), (2, (0, parts)), (3, (0, l3_h77))]) rfl ?_
                    refine r_getKR hX hP rfl fl_X3_57_133 hS (x := lf4) lf4e ?_
                    refine r_ex hX hP 1 (pc' := 87) (st' := [(0, 0), (2, lf4)]) (lo' := [(0, (2, this)), (1, (2, comes)), (2, (0, parts)), (3, (0, l3_h77))]) rfl ?_
                    refine r_lald hX hP rfl al_99 lf4s (by first | decide | omega) (by first | decide | omega) (fun x8 x8e x8a x8b => ?_)
                    refine r_ex hX hP 1 (pc' := 89) (st' := [(1, 0), (1, x8)]) (lo' := [(0, (2, this)), (1, (2, comes)), (2, (0, parts)), (3, (0, l3_h77))]) rfl ?_
                    refine r_lc_le hX hP rfl rfl (tgt := 177) rfl (by first | decide | omega) (by first | decide | omega) (by first | decide | omega) (by first | decide | omega) (fun c9 => ?_) (fun c9 => ?_)
                    · skip
                      refine r_eqG (X := X) (hw_sub (hw_refl [(99, -1)] _) rfl) ?_
                      exact x177 l3_h77 _ (by first | decide | omega) (by first | decide | omega)
                    · skip
                      refine r_ex hX hP 4 (pc' := 99) (st' := []) (lo' := [(0, (2, this)), (1, (2, comes)), (2, (0, parts)), (3, (0, l3_h77)), (4, (0, 0)), (5, (0, 1))]) rfl ?_
                      have loop99 : ∀ (nF : Nat) (l4_h99 l5_h99 : Int), 0 ≤ l4_h99 → l4_h99 ≤ 20 → 1 ≤ l5_h99 → l5_h99 ≤ 21 → 21 - l5_h99 < (nF : Int) → X 0 0 99 [] [(0, (2, this)), (1, (2, comes)), (2, (0, parts)), (3, (0, l3_h77)), (4, (0, l4_h99)), (5, (0, l5_h99))] S (hw [(99, -1)] (hw [(99, -1)] (hw [(99, -1)] (hw [(99, -1)] (hw [(99, -1)] G G2) Gh10) G5) Gh45) Gh77) := by
                        intro nF
                        induction nF with
                        | zero => intro l4_h99 l5_h99 yh99_0 yh99_1 yh99_2 yh99_3 ym99; exfalso; omega
                        | succ nF ih99 =>
                          intro l4_h99 l5_h99 yh99_0 yh99_1 yh99_2 yh99_3 ym99
                          refine r_ex hX hP 2 (pc' := 102) (st' := [(0, parts), (0, l5_h99)]) (lo' := [(0, (2, this)), (1, (2, comes)), (2, (0, parts)), (3, (0, l3_h77)), (4, (0, l4_h99)), (5, (0, l5_h99))]) rfl ?_
                          refine r_ic_ge hX hP rfl (tgt := 135) rfl (by first | decide | omega) (by first | decide | omega) (by first | decide | omega) (by first | decide | omega) (fun c10 => ?_) (fun c10 => ?_)
                          · skip
                            refine r_ex hX hP 1 (pc' := 136) (st' := [(2, this)]) (lo' := [(0, (2, this)), (1, (2, comes)), (2, (0, parts)), (3, (0, l3_h77)), (4, (0, l4_h99)), (5, (0, l5_h99))]) rfl ?_
                            refine r_getR hX hP rfl fl_X3_42_133 hS (fun sf11 sf11e sf11s => ?_)
                            refine r_ex hX hP 1 (pc' := 141) (st' := [(0, l4_h99), (2, sf11)]) (lo' := [(0, (2, this)), (1, (2, comes)), (2, (0, parts)), (3, (0, l3_h77)), (4, (0, l4_h99)), (5, (0, l5_h99))]) rfl ?_
                            refine r_aald hX hP rfl al_103 rfl sf11s (by first | decide | omega) (by first | decide | omega) (fun r12 r12e r12s => ?_)
                            refine r_ex hX hP 1 (pc' := 143) (st' := [(2, this), (2, r12)]) (lo' := [(0, (2, this)), (1, (2, comes)), (2, (0, parts)), (3, (0, l3_h77)), (4, (0, l4_h99)), (5, (0, l5_h99))]) rfl ?_
                            refine r_getR hX hP rfl fl_X3_60_133 hS (fun of13 of13e of13s => ?_)
                            refine r_ex hX hP 1 (pc' := 147) (st' := [(1, 1), (2, of13), (2, r12)]) (lo' := [(0, (2, this)), (1, (2, comes)), (2, (0, parts)), (3, (0, l3_h77)), (4, (0, l4_h99)), (5, (0, l5_h99))]) rfl ?_
                            refine r_callS gd hX hP rfl cs_X3_140 (d' := 0) (mc' := 0) (ms' := 0) (as' := [(2, r12), (2, of13), (1, 1)]) (st := []) (by first | decide | omega) (by first | decide | omega) (by first | decide | omega) rfl rfl (Nat.le_of_ble_eq_true rfl) (c_X3_addTimes E S (hw [(99, -1)] (hw [(99, -1)] (hw [(99, -1)] (hw [(99, -1)] (hw [(99, -1)] G G2) Gh10) G5) Gh45) Gh77) r12 of13 1 r12s of13s (by first | decide | omega) (by first | decide | omega)) ?_
                            rintro _ _ _ ⟨rfl, ⟨G14, rfl⟩, rfl, -⟩
                            refine r_ex hX hP 1 (pc' := 151) (st' := [(2, this)]) (lo' := [(0, (2, this)), (1, (2, comes)), (2, (0, parts)), (3, (0, l3_h77)), (4, (0, l4_h99)), (5, (0, l5_h99))]) rfl ?_
                            refine r_getR hX hP rfl fl_X3_45_133 hS (fun rf15 rf15e rf15s => ?_)
                            refine r_ex hX hP 1 (pc' := 156) (st' := [(0, l4_h99), (2, rf15)]) (lo' := [(0, (2, this)), (1, (2, comes)), (2, (0, parts)), (3, (0, l3_h77)), (4, (0, l4_h99)), (5, (0, l5_h99))]) rfl ?_
                            refine r_aald hX hP rfl al_103 rfl rf15s (by first | decide | omega) (by first | decide | omega) (fun r16 r16e r16s => ?_)
                            refine r_ex hX hP 1 (pc' := 158) (st' := [(1, 0), (2, r16)]) (lo' := [(0, (2, this)), (1, (2, comes)), (2, (0, parts)), (3, (0, l3_h77)), (4, (0, l4_h99)), (5, (0, l5_h99))]) rfl ?_
                            refine r_callS gd hX hP rfl cs_X3_67 (d' := 0) (mc' := 0) (ms' := 0) (as' := [(2, r16), (1, 0)]) (st := []) (by first | decide | omega) (by first | decide | omega) (by first | decide | omega) rfl rfl (Nat.le_of_ble_eq_true rfl) (c_X3_put E S (hw [(99, -1)] (hw [(99, -1)] (hw [(99, -1)] (hw [(99, -1)] (hw [(99, -1)] (hw [(99, -1)] G G2) Gh10) G5) Gh45) Gh77) G14) r16 0 r16s (by first | decide | omega) (by first | decide | omega)) ?_
                            rintro _ _ _ ⟨rfl, ⟨G17, rfl⟩, rfl, -⟩
                            refine r_ex hX hP 1 (pc' := 162) (st' := [(2, this)]) (lo' := [(0, (2, this)), (1, (2, comes)), (2, (0, parts)), (3, (0, l3_h77)), (4, (0, l4_h99)), (5, (0, l5_h99))]) rfl ?_
                            refine r_getKR hX hP rfl fl_X3_57_133 hS (x := lf4) lf4e ?_
                            refine r_ex hX hP 2 (pc' := 167) (st' := [(0, 0), (2, lf4), (0, 0), (2, lf4)]) (lo' := [(0, (2, this)), (1, (2, comes)), (2, (0, parts)), (3, (0, l3_h77)), (4, (0, l4_h99)), (5, (0, l5_h99))]) rfl ?_
                            refine r_lald hX hP rfl al_99 lf4s (by first | decide | omega) (by first | decide | omega) (fun x18 x18e x18a x18b => ?_)
                            refine r_ex hX hP 2 (pc' := 170) (st' := [(1, (x18 - 1)), (0, 0), (2, lf4)]) (lo' := [(0, (2, this)), (1, (2, comes)), (2, (0, parts)), (3, (0, l3_h77)), (4, (0, l4_h99)), (5, (0, l5_h99))]) rfl ?_
                            refine r_hvL hX (fun w19 w19a w19b w19e => ?_)
                            refine r_lastK hX hP rfl al_99 lf4s (by first | decide | omega) (by first | decide | omega) (by first | decide | omega) (by first | decide | omega) (fun h20 => ?_)
                            refine r_ex hX hP 2 (pc' := 77) (st' := []) (lo' := [(0, (2, this)), (1, (2, comes)), (2, (0, parts)), (3, (0, (l3_h77 + 1))), (4, (0, l4_h99)), (5, (0, l5_h99))]) rfl ?_
                            refine r_pick hX [0, 1, 2, 3] (lo' := [(0, (2, this)), (1, (2, comes)), (2, (0, parts)), (3, (0, (l3_h77 + 1)))]) rfl ?_
                            refine r_eqG (X := X) (hw_up (hw_sub (hw_sub (hw_base _ _ _) rfl) rfl) rfl) ?_
                            exact ih77 (l3_h77 + 1) _ (by first | decide | omega) (by first | decide | omega) (by first | decide | omega)
                          · skip
                            refine r_ex hX hP 1 (pc' := 106) (st' := [(2, this)]) (lo' := [(0, (2, this)), (1, (2, comes)), (2, (0, parts)), (3, (0, l3_h77)), (4, (0, l4_h99)), (5, (0, l5_h99))]) rfl ?_
                            refine r_getR hX hP rfl fl_X3_45_133 hS (fun rf21 rf21e rf21s => ?_)
                            refine r_ex hX hP 1 (pc' := 111) (st' := [(0, l4_h99), (2, rf21)]) (lo' := [(0, (2, this)), (1, (2, comes)), (2, (0, parts)), (3, (0, l3_h77)), (4, (0, l4_h99)), (5, (0, l5_h99))]) rfl ?_
                            refine r_aald hX hP rfl al_103 rfl rf21s (by first | decide | omega) (by first | decide | omega) (fun r22 r22e r22s => ?_)
                            refine r_ex hX hP 1 (pc' := 113) (st' := [(2, this), (2, r22)]) (lo' := [(0, (2, this)), (1, (2, comes)), (2, (0, parts)), (3, (0, l3_h77)), (4, (0, l4_h99)), (5, (0, l5_h99))]) rfl ?_
                            refine r_getKR hX hP rfl fl_X3_45_133 hS (x := rf21) rf21e ?_
                            refine r_ex hX hP 1 (pc' := 118) (st' := [(0, l5_h99), (2, rf21), (2, r22)]) (lo' := [(0, (2, this)), (1, (2, comes)), (2, (0, parts)), (3, (0, l3_h77)), (4, (0, l4_h99)), (5, (0, l5_h99))]) rfl ?_
                            refine r_aald hX hP rfl al_103 rfl rf21s (by first | decide | omega) (by first | decide | omega) (fun r23 r23e r23s => ?_)
                            refine r_callS gd hX hP rfl cs_X3_147 (d' := 0) (mc' := 0) (ms' := 0) (as' := [(2, r22), (2, r23)]) (st := []) (by first | decide | omega) (by first | decide | omega) (by first | decide | omega) rfl rfl (Nat.le_of_ble_eq_true rfl) (c_X3_isLess E S (hw [(99, -1)] (hw [(99, -1)] (hw [(99, -1)] (hw [(99, -1)] (hw [(99, -1)] G G2) Gh10) G5) Gh45) Gh77) r22 r23 r22s r23s) ?_
                            rintro _ _ _ ⟨rfl, rfl, z24, rfl, z24a, z24b⟩
                            refine r_if_eq hX hP rfl (tgt := 129) rfl (by first | decide | omega) (by first | decide | omega) (fun c25 => ?_) (fun c25 => ?_)
                            · skip
                              refine r_ex hX hP 2 (pc' := 99) (st' := []) (lo' := [(0, (2, this)), (1, (2, comes)), (2, (0, parts)), (3, (0, l3_h77)), (4, (0, l4_h99)), (5, (0, (l5_h99 + 1)))]) rfl ?_
                              exact ih99 l4_h99 (l5_h99 + 1) (by first | decide | omega) (by first | decide | omega) (by first | decide | omega) (by first | decide | omega) (by first | decide | omega)
                            · skip
                              refine r_ex hX hP 4 (pc' := 99) (st' := []) (lo' := [(0, (2, this)), (1, (2, comes)), (2, (0, parts)), (3, (0, l3_h77)), (4, (0, l5_h99)), (5, (0, (l5_h99 + 1)))]) rfl ?_
                              exact ih99 l5_h99 (l5_h99 + 1) (by first | decide | omega) (by first | decide | omega) (by first | decide | omega) (by first | decide | omega) (by first | decide | omega)
                      exact loop99 ((21 - 1) + 1 : Int).toNat 0 1 (by first | decide | omega) (by first | decide | omega) (by first | decide | omega) (by first | decide | omega) (by first | decide | omega)
              refine r_eqG (X := X) (hw_refl [(99, -1)] _) ?_
              exact loop77 ((21 - 0) + 1 : Int).toNat 0 _ (by first | decide | omega) (by first | decide | omega) (by first | decide | omega)
            · skip
              refine r_ex hX hP 3 (pc' := 53) (st' := [(0, l3_h45), (2, comes), (2, this)]) (lo' := [(0, (2, this)), (1, (2, comes)), (2, (0, parts)), (3, (0, l3_h45))]) rfl ?_
              refine r_callV gd hX hP rfl cv_X3_271_133 hS (d' := 1) (mc' := 0) (ms' := 0) (as' := [(2, comes), (0, l3_h45)]) (st := []) (by first | decide | omega) (by first | decide | omega) (by first | decide | omega) rfl rfl (Nat.le_of_ble_eq_true rfl) (c_X3_portion E S (hw [(99, -1)] (hw [(99, -1)] (hw [(99, -1)] (hw [(99, -1)] G G2) Gh10) G5) Gh45) this comes l3_h45 hS comes_s (by first | decide | omega) (by first | decide | omega)) ?_
              rintro _ _ _ ⟨rfl, ⟨G26, rfl⟩, rfl, -⟩
              refine r_ex hX hP 1 (pc' := 57) (st' := [(2, this)]) (lo' := [(0, (2, this)), (1, (2, comes)), (2, (0, parts)), (3, (0, l3_h45))]) rfl ?_
              refine r_getKR hX hP rfl fl_X3_57_133 hS (x := lf4) lf4e ?_
              refine r_ex hX hP 1 (pc' := 61) (st' := [(2, this), (2, lf4)]) (lo' := [(0, (2, this)), (1, (2, comes)), (2, (0, parts)), (3, (0, l3_h45))]) rfl ?_
              refine r_getR hX hP rfl fl_X3_42_133 hS (fun sf27 sf27e sf27s => ?_)
              refine r_ex hX hP 1 (pc' := 65) (st' := [(0, l3_h45), (2, sf27), (2, lf4)]) (lo' := [(0, (2, this)), (1, (2, comes)), (2, (0, parts)), (3, (0, l3_h45))]) rfl ?_
              refine r_aald hX hP rfl al_103 rfl sf27s (by first | decide | omega) (by first | decide | omega) (fun r28 r28e r28s => ?_)
              refine r_callS gd hX hP rfl cs_X3_151 (d' := 0) (mc' := 0) (ms' := 0) (as' := [(2, lf4), (2, r28)]) (st := []) (by first | decide | omega) (by first | decide | omega) (by first | decide | omega) rfl rfl (Nat.le_of_ble_eq_true rfl) (c_X3_subtract E S (hw [(99, -1)] (hw [(99, -1)] (hw [(99, -1)] (hw [(99, -1)] (hw [(99, -1)] G G2) Gh10) G5) Gh45) G26) lf4 r28 lf4s r28s) ?_
              rintro _ _ _ ⟨rfl, ⟨G29, rfl⟩, rfl, -⟩
              refine r_ex hX hP 2 (pc' := 45) (st' := []) (lo' := [(0, (2, this)), (1, (2, comes)), (2, (0, parts)), (3, (0, (l3_h45 + 1)))]) rfl ?_
              refine r_eqG (X := X) (hw_sub (hw_sub (hw_base _ _ _) rfl) rfl) ?_
              exact ih45 (l3_h45 + 1) _ (by first | decide | omega) (by first | decide | omega) (by first | decide | omega)
        refine r_eqG (X := X) (hw_refl [(99, -1)] _) ?_
        exact loop45 ((21 - 0) + 1 : Int).toNat 0 _ (by first | decide | omega) (by first | decide | omega) (by first | decide | omega)
      · skip
        refine r_ex hX hP 1 (pc' := 16) (st' := [(2, this)]) (lo' := [(0, (2, this)), (1, (2, comes)), (2, (0, parts)), (3, (0, l3_h10))]) rfl ?_
        refine r_getKR hX hP rfl fl_X3_54_133 hS (x := sf1) sf1e ?_
        refine r_ex hX hP 1 (pc' := 20) (st' := [(2, this), (2, sf1)]) (lo' := [(0, (2, this)), (1, (2, comes)), (2, (0, parts)), (3, (0, l3_h10))]) rfl ?_
        refine r_getR hX hP rfl fl_X3_39_133 hS (fun wf30 wf30e wf30s => ?_)
        refine r_ex hX hP 1 (pc' := 24) (st' := [(0, l3_h10), (2, wf30), (2, sf1)]) (lo' := [(0, (2, this)), (1, (2, comes)), (2, (0, parts)), (3, (0, l3_h10))]) rfl ?_
        refine r_aald hX hP rfl al_103 rfl wf30s (by first | decide | omega) (by first | decide | omega) (fun r31 r31e r31s => ?_)
        refine r_ex hX hP 1 (pc' := 26) (st' := [(1, 1), (2, r31), (2, sf1)]) (lo' := [(0, (2, this)), (1, (2, comes)), (2, (0, parts)), (3, (0, l3_h10))]) rfl ?_
        refine r_callS gd hX hP rfl cs_X3_140 (d' := 0) (mc' := 0) (ms' := 0) (as' := [(2, sf1), (2, r31), (1, 1)]) (st := []) (by first | decide | omega) (by first | decide | omega) (by first | decide | omega) rfl rfl (Nat.le_of_ble_eq_true rfl) (c_X3_addTimes E S (hw [(99, -1)] (hw [(99, -1)] G G2) Gh10) sf1 r31 1 sf1s r31s (by first | decide | omega) (by first | decide | omega)) ?_
        rintro _ _ _ ⟨rfl, ⟨G32, rfl⟩, rfl, -⟩
        refine r_ex hX hP 2 (pc' := 10) (st' := []) (lo' := [(0, (2, this)), (1, (2, comes)), (2, (0, parts)), (3, (0, (l3_h10 + 1)))]) rfl ?_
        refine r_eqG (X := X) (hw_sub (hw_base _ _ _) rfl) ?_
        exact ih10 (l3_h10 + 1) _ (by first | decide | omega) (by first | decide | omega) (by first | decide | omega)
  refine r_eqG (X := X) (hw_refl [(99, -1)] _) ?_
  exact loop10 ((21 - 0) + 1 : Int).toNat 0 _ (by first | decide | omega) (by first | decide | omega) (by first | decide | omega)
set_option maxRecDepth 100000 in
set_option maxHeartbeats 4000000 in
theorem c_X3_deal (E : En) (S : Sg) (G : Gh) (this : Int) (comes : Int) (head : Int) (row : Int) (hS : S this = 133) (comes_s : S comes = 99) (head_a : 0 ≤ head) (head_b : head ≤ 19) (row_a : 0 ≤ row) (row_b : row ≤ 3) : Calls E mX3_deal [(2, this), (2, comes), (0, head), (0, row)] S G 5 0 0 (fun r S' G' => S = S' ∧ (∃ G1, hw [(97, -1), (99, -1)] G G1 = G') ∧ r = none ∧ True) := by
  refine calls_by [(0, (2, this)), (1, (2, comes)), (2, (0, head)), (3, (0, row))] rfl rfl (Nat.le_of_ble_eq_true rfl) (fun X hX => ?_)
  have hP := hPX3_deal
  refine r_ex hX hP 2 (pc' := 2) (st' := [(2, this), (2, comes)]) (lo' := [(0, (2, this)), (1, (2, comes)), (2, (0, head)), (3, (0, row))]) rfl ?_
  refine r_getR hX hP rfl fl_X3_22_133 hS (fun of1 of1e of1s => ?_)
  refine r_ex hX hP 1 (pc' := 6) (st' := [(0, head), (2, of1), (2, comes)]) (lo' := [(0, (2, this)), (1, (2, comes)), (2, (0, head)), (3, (0, row))]) rfl ?_
  refine r_aald hX hP rfl al_102 rfl of1s (by first | decide | omega) (by first | decide | omega) (fun r2 r2e r2s => ?_)
  refine r_callS gd hX hP rfl cs_X3_161 (d' := 3) (mc' := 0) (ms' := 0) (as' := [(2, comes), (2, r2)]) (st := []) (by first | decide | omega) (by first | decide | omega) (by first | decide | omega) rfl rfl (Nat.le_of_ble_eq_true rfl) (c_X3_copy E S G comes r2 comes_s r2s) ?_
  rintro _ _ _ ⟨rfl, ⟨G3, rfl⟩, rfl, -⟩
  refine r_ex hX hP 2 (pc' := 13) (st' := []) (lo' := [(0, (2, this)), (1, (2, comes)), (2, (0, head)), (3, (0, row)), (4, (0, head))]) rfl ?_
  have loop13 : ∀ (nF : Nat) (l4_h13 : Int) (Gh13 : Gh), 0 ≤ l4_h13 → l4_h13 ≤ 20 → 20 - l4_h13 < (nF : Int) → X 0 0 13 [] [(0, (2, this)), (1, (2, comes)), (2, (0, head)), (3, (0, row)), (4, (0, l4_h13))] S (hw [(97, -1), (99, -1)] (hw [(99, -1)] G G3) Gh13) := by
    intro nF
    induction nF with
    | zero => intro l4_h13 Gh13 yh13_0 yh13_1 ym13; exfalso; omega
    | succ nF ih13 =>
      intro l4_h13 Gh13 yh13_0 yh13_1 ym13
      refine r_ex hX hP 2 (pc' := 16) (st' := [(2, this), (0, l4_h13)]) (lo' := [(0, (2, this)), (1, (2, comes)), (2, (0, head)), (3, (0, row)), (4, (0, l4_h13))]) rfl ?_
      refine r_getR hX hP rfl fl_X3_63_133 hS (fun af4 af4e af4s => ?_)
      refine r_getI hX hP rfl fl_X3_157_130 af4s (fun cf5 cf5e cf5a cf5b => ?_)
      refine r_ic_ge hX hP rfl (tgt := 219) rfl (by first | decide | omega) (by first | decide | omega) (by first | decide | omega) (by first | decide | omega) (fun c6 => ?_) (fun c6 => ?_)
      · skip
        exact r_retV hX hP rfl rfl (by first | decide | omega) (by first | decide | omega) ⟨rfl, ⟨_, (hw_sub (hw_sub (hw_refl _ _) rfl) rfl).symm⟩, rfl, trivial⟩
      · skip
        refine r_ex hX hP 1 (pc' := 26) (st' := [(2, this)]) (lo' := [(0, (2, this)), (1, (2, comes)), (2, (0, head)), (3, (0, row)), (4, (0, l4_h13))]) rfl ?_
        refine r_getKR hX hP rfl fl_X3_63_133 hS (x := af4) af4e ?_
        refine r_getR hX hP rfl fl_X3_179_130 af4s (fun tf7 tf7e tf7s => ?_)
        refine r_ex hX hP 1 (pc' := 34) (st' := [(0, l4_h13), (2, tf7)]) (lo' := [(0, (2, this)), (1, (2, comes)), (2, (0, head)), (3, (0, row)), (4, (0, l4_h13))]) rfl ?_
        refine r_iald hX hP rfl al_94 tf7s (by first | decide | omega) (by first | decide | omega) (fun x8 x8e x8a x8b => ?_)
        refine r_ex hX hP 1 (pc' := 36) (st' := [(0, head), (0, x8)]) (lo' := [(0, (2, this)), (1, (2, comes)), (2, (0, head)), (3, (0, row)), (4, (0, l4_h13))]) rfl ?_
        refine r_ic_eq hX hP rfl (tgt := 42) rfl (by first | decide | omega) (by first | decide | omega) (by first | decide | omega) (by first | decide | omega) (fun c9 => ?_) (fun c9 => ?_)
        · skip
          refine r_ex hX hP 1 (pc' := 43) (st' := [(2, this)]) (lo' := [(0, (2, this)), (1, (2, comes)), (2, (0, head)), (3, (0, row)), (4, (0, l4_h13))]) rfl ?_
          refine r_getR hX hP rfl fl_X3_16_133 hS (fun mf10 mf10e mf10s => ?_)
          refine r_ex hX hP 5 (pc' := 53) (st' := [(0, ((row * 20) + l4_h13)), (2, mf10)]) (lo' := [(0, (2, this)), (1, (2, comes)), (2, (0, head)), (3, (0, row)), (4, (0, l4_h13))]) rfl ?_
          refine r_aald hX hP rfl al_101 rfl mf10s (by first | decide | omega) (by first | decide | omega) (fun r11 r11e r11s => ?_)
          refine r_ex hX hP 1 (pc' := 55) (st' := [(2, this), (2, r11)]) (lo' := [(0, (2, this)), (1, (2, comes)), (2, (0, head)), (3, (0, row)), (4, (0, l4_h13))]) rfl ?_
          refine r_getR hX hP rfl fl_X3_39_133 hS (fun wf12 wf12e wf12s => ?_)
          refine r_ex hX hP 1 (pc' := 59) (st' := [(0, 0), (2, wf12), (2, r11)]) (lo' := [(0, (2, this)), (1, (2, comes)), (2, (0, head)), (3, (0, row)), (4, (0, l4_h13))]) rfl ?_
          refine r_aald hX hP rfl al_103 rfl wf12s (by first | decide | omega) (by first | decide | omega) (fun r13 r13e r13s => ?_)
          refine r_callS gd hX hP rfl cs_X3_161 (d' := 3) (mc' := 0) (ms' := 0) (as' := [(2, r11), (2, r13)]) (st := []) (by first | decide | omega) (by first | decide | omega) (by first | decide | omega) rfl rfl (Nat.le_of_ble_eq_true rfl) (c_X3_copy E S (hw [(97, -1), (99, -1)] (hw [(99, -1)] G G3) Gh13) r11 r13 r11s r13s) ?_
          rintro _ _ _ ⟨rfl, ⟨G14, rfl⟩, rfl, -⟩
          refine r_ex hX hP 3 (pc' := 67) (st' := [(2, this)]) (lo' := [(0, (2, this)), (1, (2, comes)), (2, (0, head)), (3, (0, row)), (4, (0, l4_h13)), (5, (0, 1))]) rfl ?_
          refine r_getKR hX hP rfl fl_X3_63_133 hS (x := af4) af4e ?_
          refine r_getR hX hP rfl fl_X3_265_130 af4s (fun ff15 ff15e ff15s => ?_)
          refine r_ex hX hP 1 (pc' := 75) (st' := [(0, l4_h13), (2, ff15)]) (lo' := [(0, (2, this)), (1, (2, comes)), (2, (0, head)), (3, (0, row)), (4, (0, l4_h13)), (5, (0, 1))]) rfl ?_
          refine r_iald hX hP rfl al_93 ff15s (by first | decide | omega) (by first | decide | omega) (fun x16 x16e x16a x16b => ?_)
          refine r_ex hX hP 3 (pc' := 81) (st' := []) (lo' := [(0, (2, this)), (1, (2, comes)), (2, (0, head)), (3, (0, row)), (4, (0, l4_h13)), (5, (0, 1)), (6, (0, x16)), (7, (0, 0))]) rfl ?_
          have x146 : ∀ (l5_x146 l6_x146 l7_x146 : Int) (Gx146 : Gh), 1 ≤ l5_x146 → l5_x146 ≤ 21 → (-2147483648) ≤ l6_x146 → l6_x146 ≤ 2147483647 → 0 ≤ l7_x146 → l7_x146 ≤ 20 → X 0 0 146 [] [(0, (2, this)), (1, (2, comes)), (2, (0, head)), (3, (0, row)), (4, (0, l4_h13)), (5, (0, l5_x146)), (6, (0, l6_x146)), (7, (0, l7_x146))] S (hw [(97, -1), (99, -1)] (hw [(99, -1)] (hw [(97, -1), (99, -1)] (hw [(99, -1)] G G3) Gh13) G14) Gx146) := by
            intro l5_x146 l6_x146 l7_x146 Gx146 yx146_0 yx146_1 yx146_2 yx146_3 yx146_4 yx146_5
            refine r_ex hX hP 2 (pc' := 148) (st' := [(2, this), (2, this)]) (lo' := [(0, (2, this)), (1, (2, comes)), (2, (0, head)), (3, (0, row)), (4, (0, l4_h13)), (5, (0, l5_x146)), (6, (0, l6_x146)), (7, (0, l7_x146))]) rfl ?_
            refine r_getKR hX hP rfl fl_X3_22_133 hS (x := of1) of1e ?_
            refine r_ex hX hP 1 (pc' := 153) (st' := [(0, l4_h13), (2, of1), (2, this)]) (lo' := [(0, (2, this)), (1, (2, comes)), (2, (0, head)), (3, (0, row)), (4, (0, l4_h13)), (5, (0, l5_x146)), (6, (0, l6_x146)), (7, (0, l7_x146))]) rfl ?_
            refine r_aald hX hP rfl al_102 rfl of1s (by first | decide | omega) (by first | decide | omega) (fun r17 r17e r17s => ?_)
            refine r_ex hX hP 1 (pc' := 156) (st' := [(0, l5_x146), (2, r17), (2, this)]) (lo' := [(0, (2, this)), (1, (2, comes)), (2, (0, head)), (3, (0, row)), (4, (0, l4_h13)), (5, (0, l5_x146)), (6, (0, l6_x146)), (7, (0, l7_x146))]) rfl ?_
            refine r_callV gd hX hP rfl cv_X3_215_133 hS (d' := 4) (mc' := 0) (ms' := 0) (as' := [(2, r17), (0, l5_x146)]) (st := []) (by first | decide | omega) (by first | decide | omega) (by first | decide | omega) rfl rfl (Nat.le_of_ble_eq_true rfl) (c_X3_apportion E S (hw [(97, -1), (99, -1)] (hw [(99, -1)] (hw [(97, -1), (99, -1)] (hw [(99, -1)] G G3) Gh13) G14) Gx146) this r17 l5_x146 hS r17s (by first | decide | omega) (by first | decide | omega)) ?_
            rintro _ _ _ ⟨rfl, ⟨G18, rfl⟩, rfl, -⟩
            refine r_ex hX hP 1 (pc' := 160) (st' := [(2, this)]) (lo' := [(0, (2, this)), (1, (2, comes)), (2, (0, head)), (3, (0, row)), (4, (0, l4_h13)), (5, (0, l5_x146)), (6, (0, l6_x146)), (7, (0, l7_x146))]) rfl ?_
            refine r_getR hX hP rfl fl_X3_42_133 hS (fun sf19 sf19e sf19s => ?_)
            refine r_ex hX hP 1 (pc' := 164) (st' := [(0, 0), (2, sf19)]) (lo' := [(0, (2, this)), (1, (2, comes)), (2, (0, head)), (3, (0, row)), (4, (0, l4_h13)), (5, (0, l5_x146)), (6, (0, l6_x146)), (7, (0, l7_x146))]) rfl ?_
            refine r_aald hX hP rfl al_103 rfl sf19s (by first | decide | omega) (by first | decide | omega) (fun r20 r20e r20s => ?_)
            refine r_ex hX hP 1 (pc' := 166) (st' := [(2, this), (2, r20)]) (lo' := [(0, (2, this)), (1, (2, comes)), (2, (0, head)), (3, (0, row)), (4, (0, l4_h13)), (5, (0, l5_x146)), (6, (0, l6_x146)), (7, (0, l7_x146))]) rfl ?_
            refine r_getR hX hP rfl fl_X3_25_133 hS (fun gf21 gf21e gf21s => ?_)
            refine r_ex hX hP 1 (pc' := 171) (st' := [(0, l4_h13), (2, gf21), (2, r20)]) (lo' := [(0, (2, this)), (1, (2, comes)), (2, (0, head)), (3, (0, row)), (4, (0, l4_h13)), (5, (0, l5_x146)), (6, (0, l6_x146)), (7, (0, l7_x146))]) rfl ?_
            refine r_aald hX hP rfl al_102 rfl gf21s (by first | decide | omega) (by first | decide | omega) (fun r22 r22e r22s => ?_)
            refine r_callS gd hX hP rfl cs_X3_161 (d' := 3) (mc' := 0) (ms' := 0) (as' := [(2, r20), (2, r22)]) (st := []) (by first | decide | omega) (by first | decide | omega) (by first | decide | omega) rfl rfl (Nat.le_of_ble_eq_true rfl) (c_X3_copy E S (hw [(99, -1)] (hw [(97, -1), (99, -1)] (hw [(99, -1)] (hw [(97, -1), (99, -1)] (hw [(99, -1)] G G3) Gh13) G14) Gx146) G18) r20 r22 r20s r22s) ?_
            rintro _ _ _ ⟨rfl, ⟨G23, rfl⟩, rfl, -⟩
            refine r_ex hX hP 2 (pc' := 178) (st' := []) (lo' := [(0, (2, this)), (1, (2, comes)), (2, (0, head)), (3, (0, row)), (4, (0, l4_h13)), (5, (0, l5_x146)), (6, (0, l6_x146)), (7, (0, 1))]) rfl ?_
            have loop178 : ∀ (nF : Nat) (l7_h178 : Int) (Gh178 : Gh), 1 ≤ l7_h178 → l7_h178 ≤ 21 → 21 - l7_h178 < (nF : Int) → X 0 0 178 [] [(0, (2, this)), (1, (2, comes)), (2, (0, head)), (3, (0, row)), (4, (0, l4_h13)), (5, (0, l5_x146)), (6, (0, l6_x146)), (7, (0, l7_h178))] S (hw [(99, -1)] (hw [(99, -1)] (hw [(99, -1)] (hw [(97, -1), (99, -1)] (hw [(99, -1)] (hw [(97, -1), (99, -1)] (hw [(99, -1)] G G3) Gh13) G14) Gx146) G18) G23) Gh178) := by
              intro nF
              induction nF with
              | zero => intro l7_h178 Gh178 yh178_0 yh178_1 ym178; exfalso; omega
              | succ nF ih178 =>
                intro l7_h178 Gh178 yh178_0 yh178_1 ym178
                refine r_ex hX hP 2 (pc' := 182) (st' := [(0, l5_x146), (0, l7_h178)]) (lo' := [(0, (2, this)), (1, (2, comes)), (2, (0, head)), (3, (0, row)), (4, (0, l4_h13)), (5, (0, l5_x146)), (6, (0, l6_x146)), (7, (0, l7_h178))]) rfl ?_
                refine r_ic_ge hX hP rfl (tgt := 213) rfl (by first | decide | omega) (by first | decide | omega) (by first | decide | omega) (by first | decide | omega) (fun c24 => ?_) (fun c24 => ?_)
                · skip
                  refine r_ex hX hP 2 (pc' := 13) (st' := []) (lo' := [(0, (2, this)), (1, (2, comes)), (2, (0, head)), (3, (0, row)), (4, (0, (l4_h13 + 1))), (5, (0, l5_x146)), (6, (0, l6_x146)), (7, (0, l7_h178))]) rfl ?_
                  refine r_pick hX [0, 1, 2, 3, 4] (lo' := [(0, (2, this)), (1, (2, comes)), (2, (0, head)), (3, (0, row)), (4, (0, (l4_h13 + 1)))]) rfl ?_
                  refine r_eqG (X := X) (hw_sub (hw_sub (hw_sub (hw_sub (hw_sub (hw_base _ _ _) rfl) rfl) rfl) rfl) rfl) ?_
                  exact ih13 (l4_h13 + 1) _ (by first | decide | omega) (by first | decide | omega) (by first | decide | omega)
                · skip
                  refine r_ex hX hP 1 (pc' := 186) (st' := [(2, this)]) (lo' := [(0, (2, this)), (1, (2, comes)), (2, (0, head)), (3, (0, row)), (4, (0, l4_h13)), (5, (0, l5_x146)), (6, (0, l6_x146)), (7, (0, l7_h178))]) rfl ?_
                  refine r_getKR hX hP rfl fl_X3_42_133 hS (x := sf19) sf19e ?_
                  refine r_ex hX hP 1 (pc' := 191) (st' := [(0, l7_h178), (2, sf19)]) (lo' := [(0, (2, this)), (1, (2, comes)), (2, (0, head)), (3, (0, row)), (4, (0, l4_h13)), (5, (0, l5_x146)), (6, (0, l6_x146)), (7, (0, l7_h178))]) rfl ?_
                  refine r_aald hX hP rfl al_103 rfl sf19s (by first | decide | omega) (by first | decide | omega) (fun r25 r25e r25s => ?_)
                  refine r_ex hX hP 1 (pc' := 193) (st' := [(2, this), (2, r25)]) (lo' := [(0, (2, this)), (1, (2, comes)), (2, (0, head)), (3, (0, row)), (4, (0, l4_h13)), (5, (0, l5_x146)), (6, (0, l6_x146)), (7, (0, l7_h178))]) rfl ?_
                  refine r_getKR hX hP rfl fl_X3_22_133 hS (x := of1) of1e ?_
                  refine r_ex hX hP 1 (pc' := 197) (st' := [(2, this), (2, of1), (2, r25)]) (lo' := [(0, (2, this)), (1, (2, comes)), (2, (0, head)), (3, (0, row)), (4, (0, l4_h13)), (5, (0, l5_x146)), (6, (0, l6_x146)), (7, (0, l7_h178))]) rfl ?_
                  refine r_getR hX hP rfl fl_X3_35_133 hS (fun wf26 wf26e wf26s => ?_)
                  refine r_ex hX hP 1 (pc' := 202) (st' := [(0, l7_h178), (2, wf26), (2, of1), (2, r25)]) (lo' := [(0, (2, this)), (1, (2, comes)), (2, (0, head)), (3, (0, row)), (4, (0, l4_h13)), (5, (0, l5_x146)), (6, (0, l6_x146)), (7, (0, l7_h178))]) rfl ?_
                  refine r_iald hX hP rfl al_97 wf26s (by first | decide | omega) (by first | decide | omega) (fun x27 x27e x27a x27b => ?_)
                  refine r_aald hX hP rfl al_102 rfl of1s (by first | decide | omega) (by first | decide | omega) (fun r28 r28e r28s => ?_)
                  refine r_callS gd hX hP rfl cs_X3_161 (d' := 3) (mc' := 0) (ms' := 0) (as' := [(2, r25), (2, r28)]) (st := []) (by first | decide | omega) (by first | decide | omega) (by first | decide | omega) rfl rfl (Nat.le_of_ble_eq_true rfl) (c_X3_copy E S (hw [(99, -1)] (hw [(99, -1)] (hw [(99, -1)] (hw [(97, -1), (99, -1)] (hw [(99, -1)] (hw [(97, -1), (99, -1)] (hw [(99, -1)] G G3) Gh13) G14) Gx146) G18) G23) Gh178) r25 r28 r25s r28s) ?_
                  rintro _ _ _ ⟨rfl, ⟨G29, rfl⟩, rfl, -⟩
                  refine r_ex hX hP 2 (pc' := 178) (st' := []) (lo' := [(0, (2, this)), (1, (2, comes)), (2, (0, head)), (3, (0, row)), (4, (0, l4_h13)), (5, (0, l5_x146)), (6, (0, l6_x146)), (7, (0, (l7_h178 + 1)))]) rfl ?_
                  refine r_eqG (X := X) (hw_sub (hw_base _ _ _) rfl) ?_
                  exact ih178 (l7_h178 + 1) _ (by first | decide | omega) (by first | decide | omega) (by first | decide | omega)
            refine r_eqG (X := X) (hw_refl [(99, -1)] _) ?_
            exact loop178 ((21 - 1) + 1 : Int).toNat 1 _ (by first | decide | omega) (by first | decide | omega) (by first | decide | omega)
          have loop81 : ∀ (nF : Nat) (l5_h81 l6_h81 l7_h81 : Int) (Gh81 : Gh), 1 ≤ l5_h81 → l5_h81 ≤ 21 → (-1) ≤ l6_h81 → l6_h81 ≤ 19 → 0 ≤ l7_h81 → l7_h81 ≤ 20 → l5_h81 = l7_h81 + 1 → 20 - l7_h81 < (nF : Int) → X 0 0 81 [] [(0, (2, this)), (1, (2, comes)), (2, (0, head)), (3, (0, row)), (4, (0, l4_h13)), (5, (0, l5_h81)), (6, (0, l6_h81)), (7, (0, l7_h81))] S (hw [(97, -1), (99, -1)] (hw [(99, -1)] (hw [(97, -1), (99, -1)] (hw [(99, -1)] G G3) Gh13) G14) Gh81) := by
            intro nF
            induction nF with
            | zero => intro l5_h81 l6_h81 l7_h81 Gh81 yh81_0 yh81_1 yh81_2 yh81_3 yh81_4 yh81_5 yh81_6 ym81; exfalso; omega
            | succ nF ih81 =>
              intro l5_h81 l6_h81 l7_h81 Gh81 yh81_0 yh81_1 yh81_2 yh81_3 yh81_4 yh81_5 yh81_6 ym81
              refine r_ex hX hP 2 (pc' := 85) (st' := [(0, 20), (0, l7_h81)]) (lo' := [(0, (2, this)), (1, (2, comes)), (2, (0, head)), (3, (0, row)), (4, (0, l4_h13)), (5, (0, l5_h81)), (6, (0, l6_h81)), (7, (0, l7_h81))]) rfl ?_
              refine r_ic_ge hX hP rfl (tgt := 146) rfl (by first | decide | omega) (by first | decide | omega) (by first | decide | omega) (by first | decide | omega) (fun c30 => ?_) (fun c30 => ?_)
              · skip
                refine r_eqG (X := X) (hw_sub (hw_refl [(97, -1), (99, -1)] _) rfl) ?_
                exact x146 l5_h81 l6_h81 l7_h81 _ (by first | decide | omega) (by first | decide | omega) (by first | decide | omega) (by first | decide | omega) (by first | decide | omega) (by first | decide | omega)
              · skip
                refine r_ex hX hP 2 (pc' := 91) (st' := [(0, (-1)), (0, l6_h81)]) (lo' := [(0, (2, this)), (1, (2, comes)), (2, (0, head)), (3, (0, row)), (4, (0, l4_h13)), (5, (0, l5_h81)), (6, (0, l6_h81)), (7, (0, l7_h81))]) rfl ?_
                refine r_ic_eq hX hP rfl (tgt := 146) rfl (by first | decide | omega) (by first | decide | omega) (by first | decide | omega) (by first | decide | omega) (fun c31 => ?_) (fun c31 => ?_)
                · skip
                  refine r_eqG (X := X) (hw_sub (hw_refl [(97, -1), (99, -1)] _) rfl) ?_
                  exact x146 l5_h81 l6_h81 l7_h81 _ (by first | decide | omega) (by first | decide | omega) (by first | decide | omega) (by first | decide | omega) (by first | decide | omega) (by first | decide | omega)
                · skip
                  refine r_ex hX hP 1 (pc' := 95) (st' := [(2, this)]) (lo' := [(0, (2, this)), (1, (2, comes)), (2, (0, head)), (3, (0, row)), (4, (0, l4_h13)), (5, (0, l5_h81)), (6, (0, l6_h81)), (7, (0, l7_h81))]) rfl ?_
                  refine r_getR hX hP rfl fl_X3_35_133 hS (fun wf32 wf32e wf32s => ?_)
                  refine r_ex hX hP 2 (pc' := 102) (st' := [(0, l6_h81), (0, l5_h81), (2, wf32)]) (lo' := [(0, (2, this)), (1, (2, comes)), (2, (0, head)), (3, (0, row)), (4, (0, l4_h13)), (5, (0, l5_h81)), (6, (0, l6_h81)), (7, (0, l7_h81))]) rfl ?_
                  refine r_iastK hX hP rfl al_97 wf32s (by first | decide | omega) (by first | decide | omega) (by first | decide | omega) (by first | decide | omega) (fun h33 => ?_)
                  refine r_ex hX hP 1 (pc' := 104) (st' := [(2, this)]) (lo' := [(0, (2, this)), (1, (2, comes)), (2, (0, head)), (3, (0, row)), (4, (0, l4_h13)), (5, (0, l5_h81)), (6, (0, l6_h81)), (7, (0, l7_h81))]) rfl ?_
                  refine r_getR hX hP rfl fl_X3_19_133 hS (fun af34 af34e af34s => ?_)
                  refine r_ex hX hP 5 (pc' := 114) (st' := [(0, ((row * 20) + l6_h81)), (2, af34)]) (lo' := [(0, (2, this)), (1, (2, comes)), (2, (0, head)), (3, (0, row)), (4, (0, l4_h13)), (5, (0, l5_h81)), (6, (0, l6_h81)), (7, (0, l7_h81))]) rfl ?_
                  refine r_aald hX hP rfl al_101 rfl af34s (by first | decide | omega) (by first | decide | omega) (fun r35 r35e r35s => ?_)
                  refine r_ex hX hP 1 (pc' := 116) (st' := [(2, this), (2, r35)]) (lo' := [(0, (2, this)), (1, (2, comes)), (2, (0, head)), (3, (0, row)), (4, (0, l4_h13)), (5, (0, l5_h81)), (6, (0, l6_h81)), (7, (0, l7_h81))]) rfl ?_
                  refine r_getKR hX hP rfl fl_X3_39_133 hS (x := wf12) wf12e ?_
                  refine r_ex hX hP 1 (pc' := 121) (st' := [(0, l5_h81), (2, wf12), (2, r35)]) (lo' := [(0, (2, this)), (1, (2, comes)), (2, (0, head)), (3, (0, row)), (4, (0, l4_h13)), (5, (0, l5_h81)), (6, (0, l6_h81)), (7, (0, l7_h81))]) rfl ?_
                  refine r_aald hX hP rfl al_103 rfl wf12s (by first | decide | omega) (by first | decide | omega) (fun r36 r36e r36s => ?_)
                  refine r_callS gd hX hP rfl cs_X3_161 (d' := 3) (mc' := 0) (ms' := 0) (as' := [(2, r35), (2, r36)]) (st := []) (by first | decide | omega) (by first | decide | omega) (by first | decide | omega) rfl rfl (Nat.le_of_ble_eq_true rfl) (c_X3_copy E S (up (hw [(97, -1), (99, -1)] (hw [(99, -1)] (hw [(97, -1), (99, -1)] (hw [(99, -1)] G G3) Gh13) G14) Gh81) 97 wf32 l5_h81 l6_h81) r35 r36 r35s r36s) ?_
                  rintro _ _ _ ⟨rfl, ⟨G37, rfl⟩, rfl, -⟩
                  refine r_ex hX hP 2 (pc' := 129) (st' := [(2, this)]) (lo' := [(0, (2, this)), (1, (2, comes)), (2, (0, head)), (3, (0, row)), (4, (0, l4_h13)), (5, (0, (l5_h81 + 1))), (6, (0, l6_h81)), (7, (0, l7_h81))]) rfl ?_
                  refine r_getKR hX hP rfl fl_X3_63_133 hS (x := af4) af4e ?_
                  refine r_getR hX hP rfl fl_X3_268_130 af4s (fun nf38 nf38e nf38s => ?_)
                  refine r_ex hX hP 1 (pc' := 137) (st' := [(0, l6_h81), (2, nf38)]) (lo' := [(0, (2, this)), (1, (2, comes)), (2, (0, head)), (3, (0, row)), (4, (0, l4_h13)), (5, (0, (l5_h81 + 1))), (6, (0, l6_h81)), (7, (0, l7_h81))]) rfl ?_
                  refine r_iald hX hP rfl al_93 nf38s (by first | decide | omega) (by first | decide | omega) (fun x39 x39e x39a x39b => ?_)
                  refine r_ex hX hP 3 (pc' := 81) (st' := []) (lo' := [(0, (2, this)), (1, (2, comes)), (2, (0, head)), (3, (0, row)), (4, (0, l4_h13)), (5, (0, (l5_h81 + 1))), (6, (0, x39)), (7, (0, (l7_h81 + 1)))]) rfl ?_
                  refine r_eqG (X := X) (hw_sub (hw_up (hw_base _ _ _) rfl) rfl) ?_
                  exact ih81 (l5_h81 + 1) x39 (l7_h81 + 1) _ (by first | decide | omega) (by first | decide | omega) (by first | decide | omega) (by first | decide | omega) (by first | decide | omega) (by first | decide | omega) (by first | decide | omega) (by first | decide | omega)
          refine r_eqG (X := X) (hw_refl [(97, -1), (99, -1)] _) ?_
          exact loop81 ((20 - 0) + 1 : Int).toNat 1 x16 0 _ (by first | decide | omega) (by first | decide | omega) (by first | decide | omega) (by first | decide | omega) (by first | decide | omega) (by first | decide | omega) (by first | decide | omega) (by first | decide | omega)
        · skip
          refine r_ex hX hP 3 (pc' := 13) (st' := []) (lo' := [(0, (2, this)), (1, (2, comes)), (2, (0, head)), (3, (0, row)), (4, (0, (l4_h13 + 1)))]) rfl ?_
          refine r_eqG (X := X) (hw_base _ _ _) ?_
          exact ih13 (l4_h13 + 1) _ (by first | decide | omega) (by first | decide | omega) (by first | decide | omega)
  refine r_eqG (X := X) (hw_refl [(97, -1), (99, -1)] _) ?_
  exact loop13 ((20 - head) + 1 : Int).toNat head _ (by first | decide | omega) (by first | decide | omega) (by first | decide | omega)
set_option maxRecDepth 100000 in
set_option maxHeartbeats 4000000 in
theorem c_X3_multiply (E : En) (S : Sg) (G : Gh) (this : Int) (text : Int) (i : Int) (head : Int) (hS : S this = 133) (text_s : S text = 136) (i_a : 0 ≤ i) (i_b : i ≤ 29) (head_a : 0 ≤ head) (head_b : head ≤ 19) : Calls E mX3_multiply [(2, this), (2, text), (0, i), (0, head)] S G 1 0 0 (fun r S' G' => S = S' ∧ (∃ G1, hw [(99, -1)] G G1 = G') ∧ ∃ z : Int, r = some (1, z) ∧ (-9223372036854775808) ≤ z ∧ z ≤ 9223372036854775807) := by
  refine calls_by [(0, (2, this)), (1, (2, text)), (2, (0, i)), (3, (0, head))] rfl rfl (Nat.le_of_ble_eq_true rfl) (fun X hX => ?_)
  have hP := hPX3_multiply
  refine r_ex hX hP 1 (pc' := 1) (st' := [(2, this)]) (lo' := [(0, (2, this)), (1, (2, text)), (2, (0, i)), (3, (0, head))]) rfl ?_
  refine r_getR hX hP rfl fl_X3_51_133 hS (fun af1 af1e af1s => ?_)
  refine r_ex hX hP 1 (pc' := 5) (st' := [(1, 0), (2, af1)]) (lo' := [(0, (2, this)), (1, (2, text)), (2, (0, i)), (3, (0, head))]) rfl ?_
  refine r_callS gd hX hP rfl cs_X3_67 (d' := 0) (mc' := 0) (ms' := 0) (as' := [(2, af1), (1, 0)]) (st := []) (by first | decide | omega) (by first | decide | omega) (by first | decide | omega) rfl rfl (Nat.le_of_ble_eq_true rfl) (c_X3_put E S G af1 0 af1s (by first | decide | omega) (by first | decide | omega)) ?_
  rintro _ _ _ ⟨rfl, ⟨G2, rfl⟩, rfl, -⟩
  refine r_ex hX hP 1 (pc' := 9) (st' := [(2, this)]) (lo' := [(0, (2, this)), (1, (2, text)), (2, (0, i)), (3, (0, head))]) rfl ?_
  refine r_getKR hX hP rfl fl_X3_51_133 hS (x := af1) af1e ?_
  refine r_ex hX hP 1 (pc' := 13) (st' := [(2, this), (2, af1)]) (lo' := [(0, (2, this)), (1, (2, text)), (2, (0, i)), (3, (0, head))]) rfl ?_
  refine r_getR hX hP rfl fl_X3_19_133 hS (fun af3 af3e af3s => ?_)
  refine r_ex hX hP 1 (pc' := 17) (st' := [(2, text), (2, af3), (2, af1)]) (lo' := [(0, (2, this)), (1, (2, text)), (2, (0, i)), (3, (0, head))]) rfl ?_
  refine r_getR hX hP rfl fl_X3_238_136 text_s (fun rf4 rf4e rf4s => ?_)
  refine r_ex hX hP 1 (pc' := 21) (st' := [(0, i), (2, rf4), (2, af3), (2, af1)]) (lo' := [(0, (2, this)), (1, (2, text)), (2, (0, i)), (3, (0, head))]) rfl ?_
  refine r_iald hX hP rfl al_122 rf4s (by first | decide | omega) (by first | decide | omega) (fun x5 x5e x5a x5b => ?_)
  refine r_ex hX hP 4 (pc' := 27) (st' := [(0, ((x5 * 20) + head)), (2, af3), (2, af1)]) (lo' := [(0, (2, this)), (1, (2, text)), (2, (0, i)), (3, (0, head))]) rfl ?_
  refine r_aald hX hP rfl al_101 rfl af3s (by first | decide | omega) (by first | decide | omega) (fun r6 r6e r6s => ?_)
  refine r_ex hX hP 1 (pc' := 29) (st' := [(2, text), (2, r6), (2, af1)]) (lo' := [(0, (2, this)), (1, (2, text)), (2, (0, i)), (3, (0, head))]) rfl ?_
  refine r_getR hX hP rfl fl_X3_255_136 text_s (fun mf7 mf7e mf7s => ?_)
  refine r_ex hX hP 1 (pc' := 33) (st' := [(0, i), (2, mf7), (2, r6), (2, af1)]) (lo' := [(0, (2, this)), (1, (2, text)), (2, (0, i)), (3, (0, head))]) rfl ?_
  refine r_iald hX hP rfl al_119 mf7s (by first | decide | omega) (by first | decide | omega) (fun x8 x8e x8a x8b => ?_)
  refine r_i2l hX hP rfl (by first | decide | omega) (by first | decide | omega) ?_
  refine r_callS gd hX hP rfl cs_X3_140 (d' := 0) (mc' := 0) (ms' := 0) (as' := [(2, af1), (2, r6), (1, x8)]) (st := []) (by first | decide | omega) (by first | decide | omega) (by first | decide | omega) rfl rfl (Nat.le_of_ble_eq_true rfl) (c_X3_addTimes E S (hw [(99, -1)] G G2) af1 r6 x8 af1s r6s (by first | decide | omega) (by first | decide | omega)) ?_
  rintro _ _ _ ⟨rfl, ⟨G9, rfl⟩, rfl, -⟩
  refine r_ex hX hP 1 (pc' := 39) (st' := [(2, this)]) (lo' := [(0, (2, this)), (1, (2, text)), (2, (0, i)), (3, (0, head))]) rfl ?_
  refine r_getKR hX hP rfl fl_X3_51_133 hS (x := af1) af1e ?_
  refine r_ex hX hP 1 (pc' := 43) (st' := [(2, text), (2, af1)]) (lo' := [(0, (2, this)), (1, (2, text)), (2, (0, i)), (3, (0, head))]) rfl ?_
  refine r_getR hX hP rfl fl_X3_258_136 text_s (fun nf10 nf10e nf10s => ?_)
  refine r_ex hX hP 1 (pc' := 47) (st' := [(0, i), (2, nf10), (2, af1)]) (lo' := [(0, (2, this)), (1, (2, text)), (2, (0, i)), (3, (0, head))]) rfl ?_
  refine r_iald hX hP rfl al_119 nf10s (by first | decide | omega) (by first | decide | omega) (fun x11 x11e x11a x11b => ?_)
  refine r_i2l hX hP rfl (by first | decide | omega) (by first | decide | omega) ?_
  refine r_callS gd hX hP rfl cs_X3_261 (d' := 0) (mc' := 0) (ms' := 0) (as' := [(2, af1), (1, x11)]) (st := []) (by first | decide | omega) (by first | decide | omega) (by first | decide | omega) rfl rfl (Nat.le_of_ble_eq_true rfl) (c_X3_divide E S (hw [(99, -1)] (hw [(99, -1)] G G2) G9) af1 x11 af1s (by first | decide | omega) (by first | decide | omega)) ?_
  rintro _ _ _ ⟨rfl, ⟨G12, rfl⟩, z13, rfl, z13a, z13b⟩
  exact r_retL hX hP rfl rfl (by first | decide | omega) (by first | decide | omega) ⟨rfl, ⟨_, (hw_sub (hw_sub (hw_sub (hw_refl _ _) rfl) rfl) rfl).symm⟩, z13, rfl, (by first | decide | omega)⟩
set_option maxRecDepth 100000 in
set_option maxHeartbeats 4000000 in
theorem c_X3_come (E : En) (S : Sg) (G : Gh) (this : Int) (paper : Int) (head : Int) (hS : S this = 133) (paper_a : 0 ≤ paper) (paper_b : paper ≤ 19) (head_a : 0 ≤ head) (head_b : head ≤ 19) : Calls E mX3_come [(2, this), (0, paper), (0, head)] S G 1 0 0 (fun r S' G' => S = S' ∧ (∃ G1, hw [(99, -1)] G G1 = G') ∧ r = none ∧ True) := by
  refine calls_by [(0, (2, this)), (1, (0, paper)), (2, (0, head))] rfl rfl (Nat.le_of_ble_eq_true rfl) (fun X hX => ?_)
  have hP := hPX3_come
  refine r_ex hX hP 2 (pc' := 2) (st' := []) (lo' := [(0, (2, this)), (1, (0, paper)), (2, (0, head)), (3, (0, head))]) rfl ?_
  have loop2 : ∀ (nF : Nat) (l3_h2 : Int) (Gh2 : Gh), 0 ≤ l3_h2 → l3_h2 ≤ 20 → 20 - l3_h2 < (nF : Int) → X 0 0 2 [] [(0, (2, this)), (1, (0, paper)), (2, (0, head)), (3, (0, l3_h2))] S (hw [(99, -1)] G Gh2) := by
    intro nF
    induction nF with
    | zero => intro l3_h2 Gh2 yh2_0 yh2_1 ym2; exfalso; omega
    | succ nF ih2 =>
      intro l3_h2 Gh2 yh2_0 yh2_1 ym2
      refine r_ex hX hP 2 (pc' := 4) (st' := [(2, this), (0, l3_h2)]) (lo' := [(0, (2, this)), (1, (0, paper)), (2, (0, head)), (3, (0, l3_h2))]) rfl ?_
      refine r_getR hX hP rfl fl_X3_63_133 hS (fun af1 af1e af1s => ?_)
      refine r_getI hX hP rfl fl_X3_157_130 af1s (fun cf2 cf2e cf2a cf2b => ?_)
      refine r_ic_ge hX hP rfl (tgt := 53) rfl (by first | decide | omega) (by first | decide | omega) (by first | decide | omega) (by first | decide | omega) (fun c3 => ?_) (fun c3 => ?_)
      · skip
        exact r_retV hX hP rfl rfl (by first | decide | omega) (by first | decide | omega) ⟨rfl, ⟨_, (hw_sub (hw_refl _ _) rfl).symm⟩, rfl, trivial⟩
      · skip
        refine r_ex hX hP 1 (pc' := 14) (st' := [(2, this)]) (lo' := [(0, (2, this)), (1, (0, paper)), (2, (0, head)), (3, (0, l3_h2))]) rfl ?_
        refine r_getKR hX hP rfl fl_X3_63_133 hS (x := af1) af1e ?_
        refine r_getR hX hP rfl fl_X3_179_130 af1s (fun tf4 tf4e tf4s => ?_)
        refine r_ex hX hP 1 (pc' := 21) (st' := [(0, l3_h2), (2, tf4)]) (lo' := [(0, (2, this)), (1, (0, paper)), (2, (0, head)), (3, (0, l3_h2))]) rfl ?_
        refine r_iald hX hP rfl al_94 tf4s (by first | decide | omega) (by first | decide | omega) (fun x5 x5e x5a x5b => ?_)
        refine r_ex hX hP 1 (pc' := 23) (st' := [(0, head), (0, x5)]) (lo' := [(0, (2, this)), (1, (0, paper)), (2, (0, head)), (3, (0, l3_h2))]) rfl ?_
        refine r_ic_ne hX hP rfl (tgt := 47) rfl (by first | decide | omega) (by first | decide | omega) (by first | decide | omega) (by first | decide | omega) (fun c6 => ?_) (fun c6 => ?_)
        · skip
          refine r_ex hX hP 2 (pc' := 2) (st' := []) (lo' := [(0, (2, this)), (1, (0, paper)), (2, (0, head)), (3, (0, (l3_h2 + 1)))]) rfl ?_
          refine r_eqG (X := X) (hw_base _ _ _) ?_
          exact ih2 (l3_h2 + 1) _ (by first | decide | omega) (by first | decide | omega) (by first | decide | omega)
        · skip
          refine r_ex hX hP 1 (pc' := 27) (st' := [(2, this)]) (lo' := [(0, (2, this)), (1, (0, paper)), (2, (0, head)), (3, (0, l3_h2))]) rfl ?_
          refine r_getR hX hP rfl fl_X3_11_133 hS (fun hf7 hf7e hf7s => ?_)
          refine r_ex hX hP 5 (pc' := 36) (st' := [(0, ((paper * 20) + l3_h2)), (2, hf7)]) (lo' := [(0, (2, this)), (1, (0, paper)), (2, (0, head)), (3, (0, l3_h2))]) rfl ?_
          refine r_aald hX hP rfl al_100 rfl hf7s (by first | decide | omega) (by first | decide | omega) (fun r8 r8e r8s => ?_)
          refine r_ex hX hP 1 (pc' := 38) (st' := [(2, this), (2, r8)]) (lo' := [(0, (2, this)), (1, (0, paper)), (2, (0, head)), (3, (0, l3_h2))]) rfl ?_
          refine r_getR hX hP rfl fl_X3_25_133 hS (fun gf9 gf9e gf9s => ?_)
          refine r_ex hX hP 1 (pc' := 42) (st' := [(0, l3_h2), (2, gf9), (2, r8)]) (lo' := [(0, (2, this)), (1, (0, paper)), (2, (0, head)), (3, (0, l3_h2))]) rfl ?_
          refine r_aald hX hP rfl al_102 rfl gf9s (by first | decide | omega) (by first | decide | omega) (fun r10 r10e r10s => ?_)
          refine r_ex hX hP 1 (pc' := 44) (st' := [(1, 1), (2, r10), (2, r8)]) (lo' := [(0, (2, this)), (1, (0, paper)), (2, (0, head)), (3, (0, l3_h2))]) rfl ?_
          refine r_callS gd hX hP rfl cs_X3_140 (d' := 0) (mc' := 0) (ms' := 0) (as' := [(2, r8), (2, r10), (1, 1)]) (st := []) (by first | decide | omega) (by first | decide | omega) (by first | decide | omega) rfl rfl (Nat.le_of_ble_eq_true rfl) (c_X3_addTimes E S (hw [(99, -1)] G Gh2) r8 r10 1 r8s r10s (by first | decide | omega) (by first | decide | omega)) ?_
          rintro _ _ _ ⟨rfl, ⟨G11, rfl⟩, rfl, -⟩
          refine r_ex hX hP 2 (pc' := 2) (st' := []) (lo' := [(0, (2, this)), (1, (0, paper)), (2, (0, head)), (3, (0, (l3_h2 + 1)))]) rfl ?_
          refine r_eqG (X := X) (hw_sub (hw_base _ _ _) rfl) ?_
          exact ih2 (l3_h2 + 1) _ (by first | decide | omega) (by first | decide | omega) (by first | decide | omega)
  refine r_eqG (X := X) (hw_refl [(99, -1)] _) ?_
  exact loop2 ((20 - head) + 1 : Int).toNat head _ (by first | decide | omega) (by first | decide | omega) (by first | decide | omega)
set_option maxRecDepth 100000 in
set_option maxHeartbeats 4000000 in
theorem c_X3_go (E : En) (S : Sg) (G : Gh) (this : Int) (paper : Int) (head : Int) (hS : S this = 133) (paper_a : 0 ≤ paper) (paper_b : paper ≤ 19) (head_a : 0 ≤ head) (head_b : head ≤ 19) : Calls E mX3_go [(2, this), (0, paper), (0, head)] S G 1 0 0 (fun r S' G' => S = S' ∧ (∃ G1, hw [(99, -1)] G G1 = G') ∧ r = none ∧ True) := by
  refine calls_by [(0, (2, this)), (1, (0, paper)), (2, (0, head))] rfl rfl (Nat.le_of_ble_eq_true rfl) (fun X hX => ?_)
  have hP := hPX3_go
  refine r_ex hX hP 2 (pc' := 2) (st' := []) (lo' := [(0, (2, this)), (1, (0, paper)), (2, (0, head)), (3, (0, head))]) rfl ?_
  have loop2 : ∀ (nF : Nat) (l3_h2 : Int) (Gh2 : Gh), 0 ≤ l3_h2 → l3_h2 ≤ 20 → 20 - l3_h2 < (nF : Int) → X 0 0 2 [] [(0, (2, this)), (1, (0, paper)), (2, (0, head)), (3, (0, l3_h2))] S (hw [(99, -1)] G Gh2) := by
    intro nF
    induction nF with
    | zero => intro l3_h2 Gh2 yh2_0 yh2_1 ym2; exfalso; omega
    | succ nF ih2 =>
      intro l3_h2 Gh2 yh2_0 yh2_1 ym2
      refine r_ex hX hP 2 (pc' := 4) (st' := [(2, this), (0, l3_h2)]) (lo' := [(0, (2, this)), (1, (0, paper)), (2, (0, head)), (3, (0, l3_h2))]) rfl ?_
      refine r_getR hX hP rfl fl_X3_63_133 hS (fun af1 af1e af1s => ?_)
      refine r_getI hX hP rfl fl_X3_157_130 af1s (fun cf2 cf2e cf2a cf2b => ?_)
      refine r_ic_ge hX hP rfl (tgt := 52) rfl (by first | decide | omega) (by first | decide | omega) (by first | decide | omega) (by first | decide | omega) (fun c3 => ?_) (fun c3 => ?_)
      · skip
        exact r_retV hX hP rfl rfl (by first | decide | omega) (by first | decide | omega) ⟨rfl, ⟨_, (hw_sub (hw_refl _ _) rfl).symm⟩, rfl, trivial⟩
      · skip
        refine r_ex hX hP 1 (pc' := 14) (st' := [(2, this)]) (lo' := [(0, (2, this)), (1, (0, paper)), (2, (0, head)), (3, (0, l3_h2))]) rfl ?_
        refine r_getKR hX hP rfl fl_X3_63_133 hS (x := af1) af1e ?_
        refine r_getR hX hP rfl fl_X3_179_130 af1s (fun tf4 tf4e tf4s => ?_)
        refine r_ex hX hP 1 (pc' := 21) (st' := [(0, l3_h2), (2, tf4)]) (lo' := [(0, (2, this)), (1, (0, paper)), (2, (0, head)), (3, (0, l3_h2))]) rfl ?_
        refine r_iald hX hP rfl al_94 tf4s (by first | decide | omega) (by first | decide | omega) (fun x5 x5e x5a x5b => ?_)
        refine r_ex hX hP 1 (pc' := 23) (st' := [(0, head), (0, x5)]) (lo' := [(0, (2, this)), (1, (0, paper)), (2, (0, head)), (3, (0, l3_h2))]) rfl ?_
        refine r_ic_ne hX hP rfl (tgt := 46) rfl (by first | decide | omega) (by first | decide | omega) (by first | decide | omega) (by first | decide | omega) (fun c6 => ?_) (fun c6 => ?_)
        · skip
          refine r_ex hX hP 2 (pc' := 2) (st' := []) (lo' := [(0, (2, this)), (1, (0, paper)), (2, (0, head)), (3, (0, (l3_h2 + 1)))]) rfl ?_
          refine r_eqG (X := X) (hw_base _ _ _) ?_
          exact ih2 (l3_h2 + 1) _ (by first | decide | omega) (by first | decide | omega) (by first | decide | omega)
        · skip
          refine r_ex hX hP 1 (pc' := 27) (st' := [(2, this)]) (lo' := [(0, (2, this)), (1, (0, paper)), (2, (0, head)), (3, (0, l3_h2))]) rfl ?_
          refine r_getR hX hP rfl fl_X3_11_133 hS (fun hf7 hf7e hf7s => ?_)
          refine r_ex hX hP 5 (pc' := 36) (st' := [(0, ((paper * 20) + l3_h2)), (2, hf7)]) (lo' := [(0, (2, this)), (1, (0, paper)), (2, (0, head)), (3, (0, l3_h2))]) rfl ?_
          refine r_aald hX hP rfl al_100 rfl hf7s (by first | decide | omega) (by first | decide | omega) (fun r8 r8e r8s => ?_)
          refine r_ex hX hP 1 (pc' := 38) (st' := [(2, this), (2, r8)]) (lo' := [(0, (2, this)), (1, (0, paper)), (2, (0, head)), (3, (0, l3_h2))]) rfl ?_
          refine r_getR hX hP rfl fl_X3_25_133 hS (fun gf9 gf9e gf9s => ?_)
          refine r_ex hX hP 1 (pc' := 42) (st' := [(0, l3_h2), (2, gf9), (2, r8)]) (lo' := [(0, (2, this)), (1, (0, paper)), (2, (0, head)), (3, (0, l3_h2))]) rfl ?_
          refine r_aald hX hP rfl al_102 rfl gf9s (by first | decide | omega) (by first | decide | omega) (fun r10 r10e r10s => ?_)
          refine r_callS gd hX hP rfl cs_X3_151 (d' := 0) (mc' := 0) (ms' := 0) (as' := [(2, r8), (2, r10)]) (st := []) (by first | decide | omega) (by first | decide | omega) (by first | decide | omega) rfl rfl (Nat.le_of_ble_eq_true rfl) (c_X3_subtract E S (hw [(99, -1)] G Gh2) r8 r10 r8s r10s) ?_
          rintro _ _ _ ⟨rfl, ⟨G11, rfl⟩, rfl, -⟩
          refine r_ex hX hP 2 (pc' := 2) (st' := []) (lo' := [(0, (2, this)), (1, (0, paper)), (2, (0, head)), (3, (0, (l3_h2 + 1)))]) rfl ?_
          refine r_eqG (X := X) (hw_sub (hw_base _ _ _) rfl) ?_
          exact ih2 (l3_h2 + 1) _ (by first | decide | omega) (by first | decide | omega) (by first | decide | omega)
  refine r_eqG (X := X) (hw_refl [(99, -1)] _) ?_
  exact loop2 ((20 - head) + 1 : Int).toNat head _ (by first | decide | omega) (by first | decide | omega) (by first | decide | omega)
set_option maxRecDepth 100000 in
set_option maxHeartbeats 4000000 in
theorem c_X3_allotTops (E : En) (S : Sg) (G : Gh) (this : Int) (text : Int) (row : Int) (hS : S this = 133) (text_s : S text = 136) (row_a : 0 ≤ row) (row_b : row ≤ 2) : Calls E mX3_allotTops [(2, this), (2, text), (0, row)] S G 5 0 0 (fun r S' G' => S = S' ∧ (∃ G1, hw [(95, -1), (99, -1)] G G1 = G') ∧ ∃ z : Int, r = some (0, z) ∧ 0 ≤ z ∧ z ≤ 1) := by
  refine calls_by [(0, (2, this)), (1, (2, text)), (2, (0, row))] rfl rfl (Nat.le_of_ble_eq_true rfl) (fun X hX => ?_)
  have hP := hPX3_allotTops
  refine r_ex hX hP 1 (pc' := 1) (st' := [(2, text)]) (lo' := [(0, (2, this)), (1, (2, text)), (2, (0, row))]) rfl ?_
  refine r_getR hX hP rfl fl_X3_194_136 text_s (fun mf1 mf1e mf1s => ?_)
  refine r_ex hX hP 1 (pc' := 5) (st' := [(0, row), (2, mf1)]) (lo' := [(0, (2, this)), (1, (2, text)), (2, (0, row))]) rfl ?_
  refine r_iald hX hP rfl al_124 mf1s (by first | decide | omega) (by first | decide | omega) (fun x2 x2e x2a x2b => ?_)
  refine r_i2l hX hP rfl (by first | decide | omega) (by first | decide | omega) ?_
  refine r_ex hX hP 2 (pc' := 9) (st' := [(2, this)]) (lo' := [(0, (2, this)), (1, (2, text)), (2, (0, row)), (3, (1, x2))]) rfl ?_
  refine r_getR hX hP rfl fl_X3_54_133 hS (fun sf3 sf3e sf3s => ?_)
  refine r_ex hX hP 1 (pc' := 13) (st' := [(1, 0), (2, sf3)]) (lo' := [(0, (2, this)), (1, (2, text)), (2, (0, row)), (3, (1, x2))]) rfl ?_
  refine r_callS gd hX hP rfl cs_X3_67 (d' := 0) (mc' := 0) (ms' := 0) (as' := [(2, sf3), (1, 0)]) (st := []) (by first | decide | omega) (by first | decide | omega) (by first | decide | omega) rfl rfl (Nat.le_of_ble_eq_true rfl) (c_X3_put E S G sf3 0 sf3s (by first | decide | omega) (by first | decide | omega)) ?_
  rintro _ _ _ ⟨rfl, ⟨G4, rfl⟩, rfl, -⟩
  refine r_ex hX hP 2 (pc' := 19) (st' := []) (lo' := [(0, (2, this)), (1, (2, text)), (2, (0, row)), (3, (1, x2)), (5, (0, 0))]) rfl ?_
  have loop19 : ∀ (nF : Nat) (l5_h19 : Int) (Gh19 : Gh), 0 ≤ l5_h19 → l5_h19 ≤ 20 → 20 - l5_h19 < (nF : Int) → X 0 0 19 [] [(0, (2, this)), (1, (2, text)), (2, (0, row)), (3, (1, x2)), (5, (0, l5_h19))] S (hw [(95, -1), (99, -1)] (hw [(99, -1)] G G4) Gh19) := by
    intro nF
    induction nF with
    | zero => intro l5_h19 Gh19 yh19_0 yh19_1 ym19; exfalso; omega
    | succ nF ih19 =>
      intro l5_h19 Gh19 yh19_0 yh19_1 ym19
      refine r_ex hX hP 2 (pc' := 22) (st' := [(2, this), (0, l5_h19)]) (lo' := [(0, (2, this)), (1, (2, text)), (2, (0, row)), (3, (1, x2)), (5, (0, l5_h19))]) rfl ?_
      refine r_getR hX hP rfl fl_X3_63_133 hS (fun af5 af5e af5s => ?_)
      refine r_getI hX hP rfl fl_X3_157_130 af5s (fun cf6 cf6e cf6a cf6b => ?_)
      refine r_ic_ge hX hP rfl (tgt := 108) rfl (by first | decide | omega) (by first | decide | omega) (by first | decide | omega) (by first | decide | omega) (fun c7 => ?_) (fun c7 => ?_)
      · skip
        refine r_ex hX hP 1 (pc' := 109) (st' := [(2, this)]) (lo' := [(0, (2, this)), (1, (2, text)), (2, (0, row)), (3, (1, x2)), (5, (0, l5_h19))]) rfl ?_
        refine r_getKR hX hP rfl fl_X3_54_133 hS (x := sf3) sf3e ?_
        refine r_callS gd hX hP rfl cs_X3_208 (d' := 0) (mc' := 0) (ms' := 0) (as' := [(2, sf3)]) (st := []) (by first | decide | omega) (by first | decide | omega) (by first | decide | omega) rfl rfl (Nat.le_of_ble_eq_true rfl) (c_X3_cutToLong E S (hw [(95, -1), (99, -1)] (hw [(99, -1)] G G4) Gh19) sf3 sf3s) ?_
        rintro _ _ _ ⟨rfl, rfl, z8, rfl, z8a, z8b⟩
        refine r_ex hX hP 1 (pc' := 116) (st' := [(1, x2), (1, z8)]) (lo' := [(0, (2, this)), (1, (2, text)), (2, (0, row)), (3, (1, x2)), (5, (0, l5_h19))]) rfl ?_
        refine r_lc_gt hX hP rfl rfl (tgt := 122) rfl (by first | decide | omega) (by first | decide | omega) (by first | decide | omega) (by first | decide | omega) (fun c9 => ?_) (fun c9 => ?_)
        · skip
          refine r_ex hX hP 2 (pc' := 125) (st' := []) (lo' := [(0, (2, this)), (1, (2, text)), (2, (0, row)), (3, (1, x2)), (5, (0, 0))]) rfl ?_
          have loop125 : ∀ (nF : Nat) (l3_h125 l5_h125 : Int) (Gh125 : Gh), (-9223372036854775808) ≤ l3_h125 → l3_h125 ≤ 9223372036854775807 → 0 ≤ l5_h125 → l5_h125 ≤ 20 → 20 - l5_h125 < (nF : Int) → X 0 0 125 [] [(0, (2, this)), (1, (2, text)), (2, (0, row)), (3, (1, l3_h125)), (5, (0, l5_h125))] S (hw [(95, -1), (99, -1)] (hw [(95, -1), (99, -1)] (hw [(99, -1)] G G4) Gh19) Gh125) := by
            intro nF
            induction nF with
            | zero => intro l3_h125 l5_h125 Gh125 yh125_0 yh125_1 yh125_2 yh125_3 ym125; exfalso; omega
            | succ nF ih125 =>
              intro l3_h125 l5_h125 Gh125 yh125_0 yh125_1 yh125_2 yh125_3 ym125
              refine r_ex hX hP 2 (pc' := 128) (st' := [(2, this), (0, l5_h125)]) (lo' := [(0, (2, this)), (1, (2, text)), (2, (0, row)), (3, (1, l3_h125)), (5, (0, l5_h125))]) rfl ?_
              refine r_getKR hX hP rfl fl_X3_63_133 hS (x := af5) af5e ?_
              refine r_getKI hX hP rfl fl_X3_157_130 af5s (x := cf6) cf6e ?_
              refine r_ic_ge hX hP rfl (tgt := 200) rfl (by first | decide | omega) (by first | decide | omega) (by first | decide | omega) (by first | decide | omega) (fun c10 => ?_) (fun c10 => ?_)
              · skip
                refine r_ex hX hP 1 (pc' := 201) (st' := [(2, this)]) (lo' := [(0, (2, this)), (1, (2, text)), (2, (0, row)), (3, (1, l3_h125)), (5, (0, l5_h125))]) rfl ?_
                refine r_getR hX hP rfl fl_X3_51_133 hS (fun af11 af11e af11s => ?_)
                refine r_ex hX hP 1 (pc' := 205) (st' := [(1, l3_h125), (2, af11)]) (lo' := [(0, (2, this)), (1, (2, text)), (2, (0, row)), (3, (1, l3_h125)), (5, (0, l5_h125))]) rfl ?_
                refine r_callS gd hX hP rfl cs_X3_67 (d' := 0) (mc' := 0) (ms' := 0) (as' := [(2, af11), (1, l3_h125)]) (st := []) (by first | decide | omega) (by first | decide | omega) (by first | decide | omega) rfl rfl (Nat.le_of_ble_eq_true rfl) (c_X3_put E S (hw [(95, -1), (99, -1)] (hw [(95, -1), (99, -1)] (hw [(99, -1)] G G4) Gh19) Gh125) af11 l3_h125 af11s (by first | decide | omega) (by first | decide | omega)) ?_
                rintro _ _ _ ⟨rfl, ⟨G12, rfl⟩, rfl, -⟩
                refine r_ex hX hP 2 (pc' := 210) (st' := [(2, this), (2, this)]) (lo' := [(0, (2, this)), (1, (2, text)), (2, (0, row)), (3, (1, l3_h125)), (5, (0, l5_h125))]) rfl ?_
                refine r_getKR hX hP rfl fl_X3_51_133 hS (x := af11) af11e ?_
                refine r_ex hX hP 1 (pc' := 214) (st' := [(2, this), (2, af11), (2, this)]) (lo' := [(0, (2, this)), (1, (2, text)), (2, (0, row)), (3, (1, l3_h125)), (5, (0, l5_h125))]) rfl ?_
                refine r_getKR hX hP rfl fl_X3_63_133 hS (x := af5) af5e ?_
                refine r_getKI hX hP rfl fl_X3_157_130 af5s (x := cf6) cf6e ?_
                refine r_callV gd hX hP rfl cv_X3_215_133 hS (d' := 4) (mc' := 0) (ms' := 0) (as' := [(2, af11), (0, cf6)]) (st := []) (by first | decide | omega) (by first | decide | omega) (by first | decide | omega) rfl rfl (Nat.le_of_ble_eq_true rfl) (c_X3_apportion E S (hw [(99, -1)] (hw [(95, -1), (99, -1)] (hw [(95, -1), (99, -1)] (hw [(99, -1)] G G4) Gh19) Gh125) G12) this af11 cf6 hS af11s (by first | decide | omega) (by first | decide | omega)) ?_
                rintro _ _ _ ⟨rfl, ⟨G13, rfl⟩, rfl, -⟩
                refine r_ex hX hP 2 (pc' := 226) (st' := []) (lo' := [(0, (2, this)), (1, (2, text)), (2, (0, row)), (3, (1, l3_h125)), (5, (0, 0))]) rfl ?_
                have loop226 : ∀ (nF : Nat) (l5_h226 : Int) (Gh226 : Gh), 0 ≤ l5_h226 → l5_h226 ≤ 20 → 20 - l5_h226 < (nF : Int) → X 0 0 226 [] [(0, (2, this)), (1, (2, text)), (2, (0, row)), (3, (1, l3_h125)), (5, (0, l5_h226))] S (hw [(95, -1)] (hw [(99, -1)] (hw [(99, -1)] (hw [(95, -1), (99, -1)] (hw [(95, -1), (99, -1)] (hw [(99, -1)] G G4) Gh19) Gh125) G12) G13) Gh226) := by
                  intro nF
                  induction nF with
                  | zero => intro l5_h226 Gh226 yh226_0 yh226_1 ym226; exfalso; omega
                  | succ nF ih226 =>
                    intro l5_h226 Gh226 yh226_0 yh226_1 ym226
                    refine r_ex hX hP 2 (pc' := 229) (st' := [(2, this), (0, l5_h226)]) (lo' := [(0, (2, this)), (1, (2, text)), (2, (0, row)), (3, (1, l3_h125)), (5, (0, l5_h226))]) rfl ?_
                    refine r_getKR hX hP rfl fl_X3_63_133 hS (x := af5) af5e ?_
                    refine r_getKI hX hP rfl fl_X3_157_130 af5s (x := cf6) cf6e ?_
                    refine r_ic_ge hX hP rfl (tgt := 264) rfl (by first | decide | omega) (by first | decide | omega) (by first | decide | omega) (by first | decide | omega) (fun c14 => ?_) (fun c14 => ?_)
                    · skip
                      refine r_ex hX hP 1 (pc' := 265) (st' := [(0, 1)]) (lo' := [(0, (2, this)), (1, (2, text)), (2, (0, row)), (3, (1, l3_h125)), (5, (0, l5_h226))]) rfl ?_
                      exact r_retZ hX hP rfl rfl (by first | decide | omega) (by first | decide | omega) (by first | decide | omega) (by first | decide | omega) ⟨rfl, ⟨_, (hw_sub (hw_sub (hw_sub (hw_sub (hw_sub (hw_sub (hw_refl _ _) rfl) rfl) rfl) rfl) rfl) rfl).symm⟩, 1, rfl, (by first | decide | omega)⟩
                    · skip
                      refine r_ex hX hP 1 (pc' := 239) (st' := [(2, this)]) (lo' := [(0, (2, this)), (1, (2, text)), (2, (0, row)), (3, (1, l3_h125)), (5, (0, l5_h226))]) rfl ?_
                      refine r_getR hX hP rfl fl_X3_31_133 hS (fun qf15 qf15e qf15s => ?_)
                      refine r_ex hX hP 2 (pc' := 245) (st' := [(0, l5_h226), (2, qf15), (0, l5_h226), (2, qf15)]) (lo' := [(0, (2, this)), (1, (2, text)), (2, (0, row)), (3, (1, l3_h125)), (5, (0, l5_h226))]) rfl ?_
                      refine r_lald hX hP rfl al_95 qf15s (by first | decide | omega) (by first | decide | omega) (fun x16 x16e x16a x16b => ?_)
                      refine r_ex hX hP 1 (pc' := 247) (st' := [(2, this), (1, x16), (0, l5_h226), (2, qf15)]) (lo' := [(0, (2, this)), (1, (2, text)), (2, (0, row)), (3, (1, l3_h125)), (5, (0, l5_h226))]) rfl ?_
                      refine r_getR hX hP rfl fl_X3_42_133 hS (fun sf17 sf17e sf17s => ?_)
                      refine r_ex hX hP 1 (pc' := 252) (st' := [(0, l5_h226), (2, sf17), (1, x16), (0, l5_h226), (2, qf15)]) (lo' := [(0, (2, this)), (1, (2, text)), (2, (0, row)), (3, (1, l3_h125)), (5, (0, l5_h226))]) rfl ?_
                      refine r_aald hX hP rfl al_103 rfl sf17s (by first | decide | omega) (by first | decide | omega) (fun r18 r18e r18s => ?_)
                      refine r_callS gd hX hP rfl cs_X3_208 (d' := 0) (mc' := 0) (ms' := 0) (as' := [(2, r18)]) (st := [(1, x16), (0, l5_h226), (2, qf15)]) (by first | decide | omega) (by first | decide | omega) (by first | decide | omega) rfl rfl (Nat.le_of_ble_eq_true rfl) (c_X3_cutToLong E S (hw [(95, -1)] (hw [(99, -1)] (hw [(99, -1)] (hw [(95, -1), (99, -1)] (hw [(95, -1), (99, -1)] (hw [(99, -1)] G G4) Gh19) Gh125) G12) G13) Gh226) r18 r18s) ?_
                      rintro _ _ _ ⟨rfl, rfl, z19, rfl, z19a, z19b⟩
                      refine r_ex hX hP 1 (pc' := 257) (st' := [(1, (x16 + z19)), (0, l5_h226), (2, qf15)]) (lo' := [(0, (2, this)), (1, (2, text)), (2, (0, row)), (3, (1, l3_h125)), (5, (0, l5_h226))]) rfl ?_
                      refine r_hvL hX (fun w20 w20a w20b w20e => ?_)
                      refine r_lastK hX hP rfl al_95 qf15s (by first | decide | omega) (by first | decide | omega) (by first | decide | omega) (by first | decide | omega) (fun h21 => ?_)
                      refine r_ex hX hP 2 (pc' := 226) (st' := []) (lo' := [(0, (2, this)), (1, (2, text)), (2, (0, row)), (3, (1, l3_h125)), (5, (0, (l5_h226 + 1)))]) rfl ?_
                      refine r_eqG (X := X) (hw_up (hw_base _ _ _) rfl) ?_
                      exact ih226 (l5_h226 + 1) _ (by first | decide | omega) (by first | decide | omega) (by first | decide | omega)
                refine r_eqG (X := X) (hw_refl [(95, -1)] _) ?_
                exact loop226 ((20 - 0) + 1 : Int).toNat 0 _ (by first | decide | omega) (by first | decide | omega) (by first | decide | omega)
              · skip
                refine r_ex hX hP 1 (pc' := 138) (st' := [(2, this)]) (lo' := [(0, (2, this)), (1, (2, text)), (2, (0, row)), (3, (1, l3_h125)), (5, (0, l5_h125))]) rfl ?_
                refine r_getR hX hP rfl fl_X3_39_133 hS (fun wf22 wf22e wf22s => ?_)
                refine r_ex hX hP 1 (pc' := 143) (st' := [(0, l5_h125), (2, wf22)]) (lo' := [(0, (2, this)), (1, (2, text)), (2, (0, row)), (3, (1, l3_h125)), (5, (0, l5_h125))]) rfl ?_
                refine r_aald hX hP rfl al_103 rfl wf22s (by first | decide | omega) (by first | decide | omega) (fun r23 r23e r23s => ?_)
                refine r_callS gd hX hP rfl cs_X3_208 (d' := 0) (mc' := 0) (ms' := 0) (as' := [(2, r23)]) (st := []) (by first | decide | omega) (by first | decide | omega) (by first | decide | omega) rfl rfl (Nat.le_of_ble_eq_true rfl) (c_X3_cutToLong E S (hw [(95, -1), (99, -1)] (hw [(95, -1), (99, -1)] (hw [(99, -1)] G G4) Gh19) Gh125) r23 r23s) ?_
                rintro _ _ _ ⟨rfl, rfl, z24, rfl, z24a, z24b⟩
                refine r_ex hX hP 3 (pc' := 152) (st' := [(2, text), (1, z24)]) (lo' := [(0, (2, this)), (1, (2, text)), (2, (0, row)), (3, (1, l3_h125)), (5, (0, l5_h125)), (6, (1, z24))]) rfl ?_
                refine r_getR hX hP rfl fl_X3_212_136 text_s (fun sf25 sf25e sf25s => ?_)
                refine r_ex hX hP 1 (pc' := 156) (st' := [(0, row), (2, sf25), (1, z24)]) (lo' := [(0, (2, this)), (1, (2, text)), (2, (0, row)), (3, (1, l3_h125)), (5, (0, l5_h125)), (6, (1, z24))]) rfl ?_
                refine r_iald hX hP rfl al_124 sf25s (by first | decide | omega) (by first | decide | omega) (fun x26 x26e x26a x26b => ?_)
                refine r_i2l hX hP rfl (by first | decide | omega) (by first | decide | omega) ?_
                refine r_lc_gt hX hP rfl rfl (tgt := 194) rfl (by first | decide | omega) (by first | decide | omega) (by first | decide | omega) (by first | decide | omega) (fun c27 => ?_) (fun c27 => ?_)
                · skip
                  refine r_ex hX hP 2 (pc' := 125) (st' := []) (lo' := [(0, (2, this)), (1, (2, text)), (2, (0, row)), (3, (1, l3_h125)), (5, (0, (l5_h125 + 1))), (6, (1, z24))]) rfl ?_
                  refine r_pick hX [0, 1, 2, 3, 4] (lo' := [(0, (2, this)), (1, (2, text)), (2, (0, row)), (3, (1, l3_h125)), (5, (0, (l5_h125 + 1)))]) rfl ?_
                  refine r_eqG (X := X) (hw_base _ _ _) ?_
                  exact ih125 l3_h125 (l5_h125 + 1) _ (by first | decide | omega) (by first | decide | omega) (by first | decide | omega) (by first | decide | omega) (by first | decide | omega)
                · skip
                  refine r_ex hX hP 2 (pc' := 165) (st' := [(1, l3_h125), (1, z24)]) (lo' := [(0, (2, this)), (1, (2, text)), (2, (0, row)), (3, (1, l3_h125)), (5, (0, l5_h125)), (6, (1, z24))]) rfl ?_
                  refine r_lc_gt hX hP rfl rfl (tgt := 194) rfl (by first | decide | omega) (by first | decide | omega) (by first | decide | omega) (by first | decide | omega) (fun c28 => ?_) (fun c28 => ?_)
                  · skip
                    refine r_ex hX hP 2 (pc' := 125) (st' := []) (lo' := [(0, (2, this)), (1, (2, text)), (2, (0, row)), (3, (1, l3_h125)), (5, (0, (l5_h125 + 1))), (6, (1, z24))]) rfl ?_
                    refine r_pick hX [0, 1, 2, 3, 4] (lo' := [(0, (2, this)), (1, (2, text)), (2, (0, row)), (3, (1, l3_h125)), (5, (0, (l5_h125 + 1)))]) rfl ?_
                    refine r_eqG (X := X) (hw_base _ _ _) ?_
                    exact ih125 l3_h125 (l5_h125 + 1) _ (by first | decide | omega) (by first | decide | omega) (by first | decide | omega) (by first | decide | omega) (by first | decide | omega)
                  · skip
                    refine r_ex hX hP 1 (pc' := 170) (st' := [(2, this)]) (lo' := [(0, (2, this)), (1, (2, text)), (2, (0, row)), (3, (1, l3_h125)), (5, (0, l5_h125)), (6, (1, z24))]) rfl ?_
                    refine r_getKR hX hP rfl fl_X3_39_133 hS (x := wf22) wf22e ?_
                    refine r_ex hX hP 1 (pc' := 175) (st' := [(0, l5_h125), (2, wf22)]) (lo' := [(0, (2, this)), (1, (2, text)), (2, (0, row)), (3, (1, l3_h125)), (5, (0, l5_h125)), (6, (1, z24))]) rfl ?_
                    refine r_aaldK hX hP rfl al_103 rfl wf22s (by first | decide | omega) (by first | decide | omega) (x := r23) r23e ?_
                    refine r_ex hX hP 1 (pc' := 177) (st' := [(1, 0), (2, r23)]) (lo' := [(0, (2, this)), (1, (2, text)), (2, (0, row)), (3, (1, l3_h125)), (5, (0, l5_h125)), (6, (1, z24))]) rfl ?_
                    refine r_callS gd hX hP rfl cs_X3_67 (d' := 0) (mc' := 0) (ms' := 0) (as' := [(2, r23), (1, 0)]) (st := []) (by first | decide | omega) (by first | decide | omega) (by first | decide | omega) rfl rfl (Nat.le_of_ble_eq_true rfl) (c_X3_put E S (hw [(95, -1), (99, -1)] (hw [(95, -1), (99, -1)] (hw [(99, -1)] G G4) Gh19) Gh125) r23 0 r23s (by first | decide | omega) (by first | decide | omega)) ?_
                    rintro _ _ _ ⟨rfl, ⟨G29, rfl⟩, rfl, -⟩
                    refine r_ex hX hP 1 (pc' := 181) (st' := [(2, this)]) (lo' := [(0, (2, this)), (1, (2, text)), (2, (0, row)), (3, (1, l3_h125)), (5, (0, l5_h125)), (6, (1, z24))]) rfl ?_
                    refine r_getR hX hP rfl fl_X3_31_133 hS (fun qf30 qf30e qf30s => ?_)
                    refine r_ex hX hP 2 (pc' := 188) (st' := [(1, z24), (0, l5_h125), (2, qf30)]) (lo' := [(0, (2, this)), (1, (2, text)), (2, (0, row)), (3, (1, l3_h125)), (5, (0, l5_h125)), (6, (1, z24))]) rfl ?_
                    refine r_lastK hX hP rfl al_95 qf30s (by first | decide | omega) (by first | decide | omega) (by first | decide | omega) (by first | decide | omega) (fun h31 => ?_)
                    refine r_ex hX hP 3 (pc' := 193) (st' := [(1, (l3_h125 - z24))]) (lo' := [(0, (2, this)), (1, (2, text)), (2, (0, row)), (3, (1, l3_h125)), (5, (0, l5_h125)), (6, (1, z24))]) rfl ?_
                    refine r_hvL hX (fun w32 w32a w32b w32e => ?_)
                    refine r_ex hX hP 3 (pc' := 125) (st' := []) (lo' := [(0, (2, this)), (1, (2, text)), (2, (0, row)), (3, (1, w32)), (5, (0, (l5_h125 + 1))), (6, (1, z24))]) rfl ?_
                    refine r_pick hX [0, 1, 2, 3, 4] (lo' := [(0, (2, this)), (1, (2, text)), (2, (0, row)), (3, (1, w32)), (5, (0, (l5_h125 + 1)))]) rfl ?_
                    refine r_eqG (X := X) (hw_up (hw_sub (hw_base _ _ _) rfl) rfl) ?_
                    exact ih125 w32 (l5_h125 + 1) _ (by first | decide | omega) (by first | decide | omega) (by first | decide | omega) (by first | decide | omega) (by first | decide | omega)
          refine r_eqG (X := X) (hw_refl [(95, -1), (99, -1)] _) ?_
          exact loop125 ((20 - 0) + 1 : Int).toNat x2 0 _ (by first | decide | omega) (by first | decide | omega) (by first | decide | omega) (by first | decide | omega) (by first | decide | omega)
        · skip
          refine r_ex hX hP 1 (pc' := 121) (st' := [(0, 0)]) (lo' := [(0, (2, this)), (1, (2, text)), (2, (0, row)), (3, (1, x2)), (5, (0, l5_h19))]) rfl ?_
          exact r_retZ hX hP rfl rfl (by first | decide | omega) (by first | decide | omega) (by first | decide | omega) (by first | decide | omega) ⟨rfl, ⟨_, (hw_sub (hw_sub (hw_refl _ _) rfl) rfl).symm⟩, 0, rfl, (by first | decide | omega)⟩
      · skip
        refine r_ex hX hP 1 (pc' := 32) (st' := [(2, this)]) (lo' := [(0, (2, this)), (1, (2, text)), (2, (0, row)), (3, (1, x2)), (5, (0, l5_h19))]) rfl ?_
        refine r_getR hX hP rfl fl_X3_39_133 hS (fun wf33 wf33e wf33s => ?_)
        refine r_ex hX hP 1 (pc' := 37) (st' := [(0, l5_h19), (2, wf33)]) (lo' := [(0, (2, this)), (1, (2, text)), (2, (0, row)), (3, (1, x2)), (5, (0, l5_h19))]) rfl ?_
        refine r_aald hX hP rfl al_103 rfl wf33s (by first | decide | omega) (by first | decide | omega) (fun r34 r34e r34s => ?_)
        refine r_ex hX hP 1 (pc' := 39) (st' := [(1, 0), (2, r34)]) (lo' := [(0, (2, this)), (1, (2, text)), (2, (0, row)), (3, (1, x2)), (5, (0, l5_h19))]) rfl ?_
        refine r_callS gd hX hP rfl cs_X3_67 (d' := 0) (mc' := 0) (ms' := 0) (as' := [(2, r34), (1, 0)]) (st := []) (by first | decide | omega) (by first | decide | omega) (by first | decide | omega) rfl rfl (Nat.le_of_ble_eq_true rfl) (c_X3_put E S (hw [(95, -1), (99, -1)] (hw [(99, -1)] G G4) Gh19) r34 0 r34s (by first | decide | omega) (by first | decide | omega)) ?_
        rintro _ _ _ ⟨rfl, ⟨G35, rfl⟩, rfl, -⟩
        refine r_ex hX hP 1 (pc' := 43) (st' := [(2, this)]) (lo' := [(0, (2, this)), (1, (2, text)), (2, (0, row)), (3, (1, x2)), (5, (0, l5_h19))]) rfl ?_
        refine r_getR hX hP rfl fl_X3_31_133 hS (fun qf36 qf36e qf36s => ?_)
        refine r_ex hX hP 2 (pc' := 49) (st' := [(1, 0), (0, l5_h19), (2, qf36)]) (lo' := [(0, (2, this)), (1, (2, text)), (2, (0, row)), (3, (1, x2)), (5, (0, l5_h19))]) rfl ?_
        refine r_lastK hX hP rfl al_95 qf36s (by first | decide | omega) (by first | decide | omega) (by first | decide | omega) (by first | decide | omega) (fun h37 => ?_)
        refine r_ex hX hP 1 (pc' := 51) (st' := [(2, this)]) (lo' := [(0, (2, this)), (1, (2, text)), (2, (0, row)), (3, (1, x2)), (5, (0, l5_h19))]) rfl ?_
        refine r_getKR hX hP rfl fl_X3_63_133 hS (x := af5) af5e ?_
        refine r_getR hX hP rfl fl_X3_179_130 af5s (fun tf38 tf38e tf38s => ?_)
        refine r_ex hX hP 1 (pc' := 59) (st' := [(0, l5_h19), (2, tf38)]) (lo' := [(0, (2, this)), (1, (2, text)), (2, (0, row)), (3, (1, x2)), (5, (0, l5_h19))]) rfl ?_
        refine r_iald hX hP rfl al_94 tf38s (by first | decide | omega) (by first | decide | omega) (fun x39 x39e x39a x39b => ?_)
        refine r_ex hX hP 1 (pc' := 62) (st' := [(0, l5_h19), (0, x39)]) (lo' := [(0, (2, this)), (1, (2, text)), (2, (0, row)), (3, (1, x2)), (5, (0, l5_h19))]) rfl ?_
        refine r_ic_ne hX hP rfl (tgt := 102) rfl (by first | decide | omega) (by first | decide | omega) (by first | decide | omega) (by first | decide | omega) (fun c40 => ?_) (fun c40 => ?_)
        · skip
          refine r_ex hX hP 2 (pc' := 19) (st' := []) (lo' := [(0, (2, this)), (1, (2, text)), (2, (0, row)), (3, (1, x2)), (5, (0, (l5_h19 + 1)))]) rfl ?_
          refine r_eqG (X := X) (hw_up (hw_sub (hw_base _ _ _) rfl) rfl) ?_
          exact ih19 (l5_h19 + 1) _ (by first | decide | omega) (by first | decide | omega) (by first | decide | omega)
        · skip
          refine r_ex hX hP 1 (pc' := 66) (st' := [(2, this)]) (lo' := [(0, (2, this)), (1, (2, text)), (2, (0, row)), (3, (1, x2)), (5, (0, l5_h19))]) rfl ?_
          refine r_getR hX hP rfl fl_X3_19_133 hS (fun af41 af41e af41s => ?_)
          refine r_ex hX hP 5 (pc' := 76) (st' := [(0, ((row * 20) + l5_h19)), (2, af41)]) (lo' := [(0, (2, this)), (1, (2, text)), (2, (0, row)), (3, (1, x2)), (5, (0, l5_h19))]) rfl ?_
          refine r_aald hX hP rfl al_101 rfl af41s (by first | decide | omega) (by first | decide | omega) (fun r42 r42e r42s => ?_)
          refine r_ex hX hP 1 (pc' := 78) (st' := [(2, this), (2, r42)]) (lo' := [(0, (2, this)), (1, (2, text)), (2, (0, row)), (3, (1, x2)), (5, (0, l5_h19))]) rfl ?_
          refine r_getKR hX hP rfl fl_X3_39_133 hS (x := wf33) wf33e ?_
          refine r_ex hX hP 1 (pc' := 83) (st' := [(0, l5_h19), (2, wf33), (2, r42)]) (lo' := [(0, (2, this)), (1, (2, text)), (2, (0, row)), (3, (1, x2)), (5, (0, l5_h19))]) rfl ?_
          refine r_aaldK hX hP rfl al_103 rfl wf33s (by first | decide | omega) (by first | decide | omega) (x := r34) r34e ?_
          refine r_callS gd hX hP rfl cs_X3_161 (d' := 3) (mc' := 0) (ms' := 0) (as' := [(2, r42), (2, r34)]) (st := []) (by first | decide | omega) (by first | decide | omega) (by first | decide | omega) rfl rfl (Nat.le_of_ble_eq_true rfl) (c_X3_copy E S (up (hw [(99, -1)] (hw [(95, -1), (99, -1)] (hw [(99, -1)] G G4) Gh19) G35) 95 qf36 l5_h19 0) r42 r34 r42s r34s) ?_
          rintro _ _ _ ⟨rfl, ⟨G43, rfl⟩, rfl, -⟩
          refine r_ex hX hP 1 (pc' := 88) (st' := [(2, this)]) (lo' := [(0, (2, this)), (1, (2, text)), (2, (0, row)), (3, (1, x2)), (5, (0, l5_h19))]) rfl ?_
          refine r_getKR hX hP rfl fl_X3_54_133 hS (x := sf3) sf3e ?_
          refine r_ex hX hP 1 (pc' := 92) (st' := [(2, this), (2, sf3)]) (lo' := [(0, (2, this)), (1, (2, text)), (2, (0, row)), (3, (1, x2)), (5, (0, l5_h19))]) rfl ?_
          refine r_getKR hX hP rfl fl_X3_39_133 hS (x := wf33) wf33e ?_
          refine r_ex hX hP 1 (pc' := 97) (st' := [(0, l5_h19), (2, wf33), (2, sf3)]) (lo' := [(0, (2, this)), (1, (2, text)), (2, (0, row)), (3, (1, x2)), (5, (0, l5_h19))]) rfl ?_
          refine r_aaldK hX hP rfl al_103 rfl wf33s (by first | decide | omega) (by first | decide | omega) (x := r34) r34e ?_
          refine r_ex hX hP 1 (pc' := 99) (st' := [(1, 1), (2, r34), (2, sf3)]) (lo' := [(0, (2, this)), (1, (2, text)), (2, (0, row)), (3, (1, x2)), (5, (0, l5_h19))]) rfl ?_
          refine r_callS gd hX hP rfl cs_X3_140 (d' := 0) (mc' := 0) (ms' := 0) (as' := [(2, sf3), (2, r34), (1, 1)]) (st := []) (by first | decide | omega) (by first | decide | omega) (by first | decide | omega) rfl rfl (Nat.le_of_ble_eq_true rfl) (c_X3_addTimes E S (hw [(99, -1)] (up (hw [(99, -1)] (hw [(95, -1), (99, -1)] (hw [(99, -1)] G G4) Gh19) G35) 95 qf36 l5_h19 0) G43) sf3 r34 1 sf3s r34s (by first | decide | omega) (by first | decide | omega)) ?_
          rintro _ _ _ ⟨rfl, ⟨G44, rfl⟩, rfl, -⟩
          refine r_ex hX hP 2 (pc' := 19) (st' := []) (lo' := [(0, (2, this)), (1, (2, text)), (2, (0, row)), (3, (1, x2)), (5, (0, (l5_h19 + 1)))]) rfl ?_
          refine r_eqG (X := X) (hw_sub (hw_sub (hw_up (hw_sub (hw_base _ _ _) rfl) rfl) rfl) rfl) ?_
          exact ih19 (l5_h19 + 1) _ (by first | decide | omega) (by first | decide | omega) (by first | decide | omega)
  refine r_eqG (X := X) (hw_refl [(95, -1), (99, -1)] _) ?_
  exact loop19 ((20 - 0) + 1 : Int).toNat 0 _ (by first | decide | omega) (by first | decide | omega) (by first | decide | omega)
set_option maxRecDepth 100000 in
set_option maxHeartbeats 4000000 in
theorem c_X3_cutBack (E : En) (S : Sg) (G : Gh) (this : Int) (text : Int) (hS : S this = 133) (text_s : S text = 136) : Calls E mX3_cutBack [(2, this), (2, text)] S G 6 0 0 (fun r S' G' => S = S' ∧ (∃ G1, hw [(95, -1), (97, -1), (99, -1)] G G1 = G') ∧ r = none ∧ True) := by
  refine calls_by [(0, (2, this)), (1, (2, text))] rfl rfl (Nat.le_of_ble_eq_true rfl) (fun X hX => ?_)
  have hP := hPX3_cutBack
  refine r_ex hX hP 2 (pc' := 2) (st' := []) (lo' := [(0, (2, this)), (1, (2, text)), (2, (0, 0))]) rfl ?_
  have loop2 : ∀ (nF : Nat) (l2_h2 : Int) (Gh2 : Gh), 0 ≤ l2_h2 → l2_h2 ≤ 20 → 20 - l2_h2 < (nF : Int) → X 0 0 2 [] [(0, (2, this)), (1, (2, text)), (2, (0, l2_h2))] S (hw [(99, -1)] G Gh2) := by
    intro nF
    induction nF with
    | zero => intro l2_h2 Gh2 yh2_0 yh2_1 ym2; exfalso; omega
    | succ nF ih2 =>
      intro l2_h2 Gh2 yh2_0 yh2_1 ym2
      refine r_ex hX hP 2 (pc' := 4) (st' := [(2, this), (0, l2_h2)]) (lo' := [(0, (2, this)), (1, (2, text)), (2, (0, l2_h2))]) rfl ?_
      refine r_getR hX hP rfl fl_X3_63_133 hS (fun af1 af1e af1s => ?_)
      refine r_getI hX hP rfl fl_X3_157_130 af1s (fun cf2 cf2e cf2a cf2b => ?_)
      refine r_ic_ge hX hP rfl (tgt := 29) rfl (by first | decide | omega) (by first | decide | omega) (by first | decide | omega) (by first | decide | omega) (fun c3 => ?_) (fun c3 => ?_)
      · skip
        refine r_ex hX hP 2 (pc' := 31) (st' := []) (lo' := [(0, (2, this)), (1, (2, text)), (2, (0, 0))]) rfl ?_
        have loop31 : ∀ (nF : Nat) (l2_h31 : Int) (Gh31 : Gh), 0 ≤ l2_h31 → l2_h31 ≤ 3 → 3 - l2_h31 < (nF : Int) → X 0 0 31 [] [(0, (2, this)), (1, (2, text)), (2, (0, l2_h31))] S (hw [(95, -1), (97, -1), (99, -1)] (hw [(99, -1)] G Gh2) Gh31) := by
          intro nF
          induction nF with
          | zero => intro l2_h31 Gh31 yh31_0 yh31_1 ym31; exfalso; omega
          | succ nF ih31 =>
            intro l2_h31 Gh31 yh31_0 yh31_1 ym31
            refine r_ex hX hP 2 (pc' := 33) (st' := [(2, text), (0, l2_h31)]) (lo' := [(0, (2, this)), (1, (2, text)), (2, (0, l2_h31))]) rfl ?_
            refine r_getI hX hP rfl fl_X3_189_136 text_s (fun cf4 cf4e cf4a cf4b => ?_)
            refine r_ic_ge hX hP rfl (tgt := 200) rfl (by first | decide | omega) (by first | decide | omega) (by first | decide | omega) (by first | decide | omega) (fun c5 => ?_) (fun c5 => ?_)
            · skip
              refine r_ex hX hP 2 (pc' := 202) (st' := []) (lo' := [(0, (2, this)), (1, (2, text)), (2, (0, 0))]) rfl ?_
              have x251 : ∀ (l2_x251 : Int) (Gx251 : Gh), 0 ≤ l2_x251 → l2_x251 ≤ 20 → X 0 0 251 [] [(0, (2, this)), (1, (2, text)), (2, (0, l2_x251))] S (hw [(99, -1)] (hw [(95, -1), (97, -1), (99, -1)] (hw [(99, -1)] G Gh2) Gh31) Gx251) := by
                intro l2_x251 Gx251 yx251_0 yx251_1
                exact r_retV hX hP rfl rfl (by first | decide | omega) (by first | decide | omega) ⟨rfl, ⟨_, (hw_sub (hw_sub (hw_sub (hw_refl _ _) rfl) rfl) rfl).symm⟩, rfl, trivial⟩
              have loop202 : ∀ (nF : Nat) (l2_h202 : Int) (Gh202 : Gh), 0 ≤ l2_h202 → l2_h202 ≤ 20 → 20 - l2_h202 < (nF : Int) → X 0 0 202 [] [(0, (2, this)), (1, (2, text)), (2, (0, l2_h202))] S (hw [(99, -1)] (hw [(95, -1), (97, -1), (99, -1)] (hw [(99, -1)] G Gh2) Gh31) Gh202) := by
                intro nF
                induction nF with
                | zero => intro l2_h202 Gh202 yh202_0 yh202_1 ym202; exfalso; omega
                | succ nF ih202 =>
                  intro l2_h202 Gh202 yh202_0 yh202_1 ym202
                  refine r_ex hX hP 2 (pc' := 204) (st' := [(2, this), (0, l2_h202)]) (lo' := [(0, (2, this)), (1, (2, text)), (2, (0, l2_h202))]) rfl ?_
                  refine r_getKR hX hP rfl fl_X3_63_133 hS (x := af1) af1e ?_
                  refine r_getKI hX hP rfl fl_X3_157_130 af1s (x := cf2) cf2e ?_
                  refine r_ic_ge hX hP rfl (tgt := 251) rfl (by first | decide | omega) (by first | decide | omega) (by first | decide | omega) (by first | decide | omega) (fun c6 => ?_) (fun c6 => ?_)
                  · skip
                    refine r_eqG (X := X) (hw_sub (hw_refl [(99, -1)] _) rfl) ?_
                    exact x251 l2_h202 _ (by first | decide | omega) (by first | decide | omega)
                  · skip
                    refine r_ex hX hP 1 (pc' := 214) (st' := [(2, text)]) (lo' := [(0, (2, this)), (1, (2, text)), (2, (0, l2_h202))]) rfl ?_
                    refine r_getI hX hP rfl fl_X3_205_136 text_s (fun ff7 ff7e ff7a ff7b => ?_)
                    refine r_ex hX hP 1 (pc' := 218) (st' := [(0, (-1)), (0, ff7)]) (lo' := [(0, (2, this)), (1, (2, text)), (2, (0, l2_h202))]) rfl ?_
                    refine r_ic_eq hX hP rfl (tgt := 251) rfl (by first | decide | omega) (by first | decide | omega) (by first | decide | omega) (by first | decide | omega) (fun c8 => ?_) (fun c8 => ?_)
                    · skip
                      refine r_eqG (X := X) (hw_sub (hw_refl [(99, -1)] _) rfl) ?_
                      exact x251 l2_h202 _ (by first | decide | omega) (by first | decide | omega)
                    · skip
                      refine r_ex hX hP 1 (pc' := 222) (st' := [(2, this)]) (lo' := [(0, (2, this)), (1, (2, text)), (2, (0, l2_h202))]) rfl ?_
                      refine r_getR hX hP rfl fl_X3_16_133 hS (fun mf9 mf9e mf9s => ?_)
                      refine r_ex hX hP 1 (pc' := 226) (st' := [(2, text), (2, mf9)]) (lo' := [(0, (2, this)), (1, (2, text)), (2, (0, l2_h202))]) rfl ?_
                      refine r_getKI hX hP rfl fl_X3_205_136 text_s (x := ff7) ff7e ?_
                      refine r_ex hX hP 4 (pc' := 234) (st' := [(0, ((ff7 * 20) + l2_h202)), (2, mf9)]) (lo' := [(0, (2, this)), (1, (2, text)), (2, (0, l2_h202))]) rfl ?_
                      refine r_aald hX hP rfl al_101 rfl mf9s (by first | decide | omega) (by first | decide | omega) (fun r10 r10e r10s => ?_)
                      refine r_ex hX hP 1 (pc' := 236) (st' := [(2, this), (2, r10)]) (lo' := [(0, (2, this)), (1, (2, text)), (2, (0, l2_h202))]) rfl ?_
                      refine r_getR hX hP rfl fl_X3_28_133 hS (fun cf11 cf11e cf11s => ?_)
                      refine r_ex hX hP 1 (pc' := 240) (st' := [(0, l2_h202), (2, cf11), (2, r10)]) (lo' := [(0, (2, this)), (1, (2, text)), (2, (0, l2_h202))]) rfl ?_
                      refine r_aald hX hP rfl al_102 rfl cf11s (by first | decide | omega) (by first | decide | omega) (fun r12 r12e r12s => ?_)
                      refine r_ex hX hP 1 (pc' := 242) (st' := [(1, 1), (2, r12), (2, r10)]) (lo' := [(0, (2, this)), (1, (2, text)), (2, (0, l2_h202))]) rfl ?_
                      refine r_callS gd hX hP rfl cs_X3_140 (d' := 0) (mc' := 0) (ms' := 0) (as' := [(2, r10), (2, r12), (1, 1)]) (st := []) (by first | decide | omega) (by first | decide | omega) (by first | decide | omega) rfl rfl (Nat.le_of_ble_eq_true rfl) (c_X3_addTimes E S (hw [(99, -1)] (hw [(95, -1), (97, -1), (99, -1)] (hw [(99, -1)] G Gh2) Gh31) Gh202) r10 r12 1 r10s r12s (by first | decide | omega) (by first | decide | omega)) ?_
                      rintro _ _ _ ⟨rfl, ⟨G13, rfl⟩, rfl, -⟩
                      refine r_ex hX hP 2 (pc' := 202) (st' := []) (lo' := [(0, (2, this)), (1, (2, text)), (2, (0, (l2_h202 + 1)))]) rfl ?_
                      refine r_eqG (X := X) (hw_sub (hw_base _ _ _) rfl) ?_
                      exact ih202 (l2_h202 + 1) _ (by first | decide | omega) (by first | decide | omega) (by first | decide | omega)
              refine r_eqG (X := X) (hw_refl [(99, -1)] _) ?_
              exact loop202 ((20 - 0) + 1 : Int).toNat 0 _ (by first | decide | omega) (by first | decide | omega) (by first | decide | omega)
            · skip
              refine r_ex hX hP 1 (pc' := 40) (st' := [(2, text)]) (lo' := [(0, (2, this)), (1, (2, text)), (2, (0, l2_h31))]) rfl ?_
              refine r_getR hX hP rfl fl_X3_194_136 text_s (fun mf14 mf14e mf14s => ?_)
              refine r_ex hX hP 1 (pc' := 44) (st' := [(0, l2_h31), (2, mf14)]) (lo' := [(0, (2, this)), (1, (2, text)), (2, (0, l2_h31))]) rfl ?_
              refine r_iald hX hP rfl al_124 mf14s (by first | decide | omega) (by first | decide | omega) (fun x15 x15e x15a x15b => ?_)
              refine r_ex hX hP 1 (pc' := 46) (st' := [(0, (-1)), (0, x15)]) (lo' := [(0, (2, this)), (1, (2, text)), (2, (0, l2_h31))]) rfl ?_
              refine r_ic_eq hX hP rfl (tgt := 194) rfl (by first | decide | omega) (by first | decide | omega) (by first | decide | omega) (by first | decide | omega) (fun c16 => ?_) (fun c16 => ?_)
              · skip
                refine r_ex hX hP 2 (pc' := 31) (st' := []) (lo' := [(0, (2, this)), (1, (2, text)), (2, (0, (l2_h31 + 1)))]) rfl ?_
                refine r_eqG (X := X) (hw_base _ _ _) ?_
                exact ih31 (l2_h31 + 1) _ (by first | decide | omega) (by first | decide | omega) (by first | decide | omega)
              · skip
                refine r_ex hX hP 3 (pc' := 52) (st' := [(0, l2_h31), (2, text), (2, this)]) (lo' := [(0, (2, this)), (1, (2, text)), (2, (0, l2_h31))]) rfl ?_
                refine r_callV gd hX hP rfl cv_X3_197_133 hS (d' := 5) (mc' := 0) (ms' := 0) (as' := [(2, text), (0, l2_h31)]) (st := []) (by first | decide | omega) (by first | decide | omega) (by first | decide | omega) rfl rfl (Nat.le_of_ble_eq_true rfl) (c_X3_allotTops E S (hw [(95, -1), (97, -1), (99, -1)] (hw [(99, -1)] G Gh2) Gh31) this text l2_h31 hS text_s (by first | decide | omega) (by first | decide | omega)) ?_
                rintro _ _ _ ⟨rfl, ⟨G17, rfl⟩, z18, rfl, z18a, z18b⟩
                refine r_if_ne hX hP rfl (tgt := 61) rfl (by first | decide | omega) (by first | decide | omega) (fun c19 => ?_) (fun c19 => ?_)
                · skip
                  refine r_ex hX hP 2 (pc' := 63) (st' := []) (lo' := [(0, (2, this)), (1, (2, text)), (2, (0, l2_h31)), (3, (0, 0))]) rfl ?_
                  have loop63 : ∀ (nF : Nat) (l3_h63 : Int) (Gh63 : Gh), 0 ≤ l3_h63 → l3_h63 ≤ 20 → 20 - l3_h63 < (nF : Int) → X 0 0 63 [] [(0, (2, this)), (1, (2, text)), (2, (0, l2_h31)), (3, (0, l3_h63))] S (hw [(97, -1), (99, -1)] (hw [(95, -1), (99, -1)] (hw [(95, -1), (97, -1), (99, -1)] (hw [(99, -1)] G Gh2) Gh31) G17) Gh63) := by
                    intro nF
                    induction nF with
                    | zero => intro l3_h63 Gh63 yh63_0 yh63_1 ym63; exfalso; omega
                    | succ nF ih63 =>
                      intro l3_h63 Gh63 yh63_0 yh63_1 ym63
                      refine r_ex hX hP 2 (pc' := 65) (st' := [(2, this), (0, l3_h63)]) (lo' := [(0, (2, this)), (1, (2, text)), (2, (0, l2_h31)), (3, (0, l3_h63))]) rfl ?_
                      refine r_getKR hX hP rfl fl_X3_63_133 hS (x := af1) af1e ?_
                      refine r_getKI hX hP rfl fl_X3_157_130 af1s (x := cf2) cf2e ?_
                      refine r_ic_ge hX hP rfl (tgt := 116) rfl (by first | decide | omega) (by first | decide | omega) (by first | decide | omega) (by first | decide | omega) (fun c20 => ?_) (fun c20 => ?_)
                      · skip
                        refine r_ex hX hP 2 (pc' := 118) (st' := []) (lo' := [(0, (2, this)), (1, (2, text)), (2, (0, l2_h31)), (3, (0, 0))]) rfl ?_
                        have loop118 : ∀ (nF : Nat) (l3_h118 : Int) (Gh118 : Gh), 0 ≤ l3_h118 → l3_h118 ≤ 20 → 20 - l3_h118 < (nF : Int) → X 0 0 118 [] [(0, (2, this)), (1, (2, text)), (2, (0, l2_h31)), (3, (0, l3_h118))] S (hw [(99, -1)] (hw [(97, -1), (99, -1)] (hw [(95, -1), (99, -1)] (hw [(95, -1), (97, -1), (99, -1)] (hw [(99, -1)] G Gh2) Gh31) G17) Gh63) Gh118) := by
                          intro nF
                          induction nF with
                          | zero => intro l3_h118 Gh118 yh118_0 yh118_1 ym118; exfalso; omega
                          | succ nF ih118 =>
                            intro l3_h118 Gh118 yh118_0 yh118_1 ym118
                            refine r_ex hX hP 2 (pc' := 120) (st' := [(2, this), (0, l3_h118)]) (lo' := [(0, (2, this)), (1, (2, text)), (2, (0, l2_h31)), (3, (0, l3_h118))]) rfl ?_
                            refine r_getKR hX hP rfl fl_X3_63_133 hS (x := af1) af1e ?_
                            refine r_getKI hX hP rfl fl_X3_157_130 af1s (x := cf2) cf2e ?_
                            refine r_ic_ge hX hP rfl (tgt := 194) rfl (by first | decide | omega) (by first | decide | omega) (by first | decide | omega) (by first | decide | omega) (fun c21 => ?_) (fun c21 => ?_)
                            · skip
                              refine r_ex hX hP 2 (pc' := 31) (st' := []) (lo' := [(0, (2, this)), (1, (2, text)), (2, (0, (l2_h31 + 1))), (3, (0, l3_h118))]) rfl ?_
                              refine r_pick hX [0, 1, 2] (lo' := [(0, (2, this)), (1, (2, text)), (2, (0, (l2_h31 + 1)))]) rfl ?_
                              refine r_eqG (X := X) (hw_sub (hw_sub (hw_sub (hw_base _ _ _) rfl) rfl) rfl) ?_
                              exact ih31 (l2_h31 + 1) _ (by first | decide | omega) (by first | decide | omega) (by first | decide | omega)
                            · skip
                              refine r_ex hX hP 1 (pc' := 130) (st' := [(2, this)]) (lo' := [(0, (2, this)), (1, (2, text)), (2, (0, l2_h31)), (3, (0, l3_h118))]) rfl ?_
                              refine r_getR hX hP rfl fl_X3_16_133 hS (fun mf22 mf22e mf22s => ?_)
                              refine r_ex hX hP 5 (pc' := 139) (st' := [(0, ((l2_h31 * 20) + l3_h118)), (2, mf22)]) (lo' := [(0, (2, this)), (1, (2, text)), (2, (0, l2_h31)), (3, (0, l3_h118))]) rfl ?_
                              refine r_aald hX hP rfl al_101 rfl mf22s (by first | decide | omega) (by first | decide | omega) (fun r23 r23e r23s => ?_)
                              refine r_ex hX hP 3 (pc' := 144) (st' := [(2, text), (0, l2_h31)]) (lo' := [(0, (2, this)), (1, (2, text)), (2, (0, l2_h31)), (3, (0, l3_h118)), (4, (2, r23))]) rfl ?_
                              refine r_getI hX hP rfl fl_X3_205_136 text_s (fun ff24 ff24e ff24a ff24b => ?_)
                              refine r_ic_eq hX hP rfl (tgt := 177) rfl (by first | decide | omega) (by first | decide | omega) (by first | decide | omega) (by first | decide | omega) (fun c25 => ?_) (fun c25 => ?_)
                              · skip
                                refine r_ex hX hP 1 (pc' := 178) (st' := [(2, this)]) (lo' := [(0, (2, this)), (1, (2, text)), (2, (0, l2_h31)), (3, (0, l3_h118)), (4, (2, r23))]) rfl ?_
                                refine r_getR hX hP rfl fl_X3_25_133 hS (fun gf26 gf26e gf26s => ?_)
                                refine r_ex hX hP 1 (pc' := 182) (st' := [(0, l3_h118), (2, gf26)]) (lo' := [(0, (2, this)), (1, (2, text)), (2, (0, l2_h31)), (3, (0, l3_h118)), (4, (2, r23))]) rfl ?_
                                refine r_aald hX hP rfl al_102 rfl gf26s (by first | decide | omega) (by first | decide | omega) (fun r27 r27e r27s => ?_)
                                refine r_ex hX hP 1 (pc' := 185) (st' := [(2, r23), (2, r27)]) (lo' := [(0, (2, this)), (1, (2, text)), (2, (0, l2_h31)), (3, (0, l3_h118)), (4, (2, r23))]) rfl ?_
                                refine r_callS gd hX hP rfl cs_X3_161 (d' := 3) (mc' := 0) (ms' := 0) (as' := [(2, r27), (2, r23)]) (st := []) (by first | decide | omega) (by first | decide | omega) (by first | decide | omega) rfl rfl (Nat.le_of_ble_eq_true rfl) (c_X3_copy E S (hw [(99, -1)] (hw [(97, -1), (99, -1)] (hw [(95, -1), (99, -1)] (hw [(95, -1), (97, -1), (99, -1)] (hw [(99, -1)] G Gh2) Gh31) G17) Gh63) Gh118) r27 r23 r27s r23s) ?_
                                rintro _ _ _ ⟨rfl, ⟨G28, rfl⟩, rfl, -⟩
                                refine r_ex hX hP 2 (pc' := 118) (st' := []) (lo' := [(0, (2, this)), (1, (2, text)), (2, (0, l2_h31)), (3, (0, (l3_h118 + 1))), (4, (2, r23))]) rfl ?_
                                refine r_pick hX [0, 1, 2, 3] (lo' := [(0, (2, this)), (1, (2, text)), (2, (0, l2_h31)), (3, (0, (l3_h118 + 1)))]) rfl ?_
                                refine r_eqG (X := X) (hw_sub (hw_base _ _ _) rfl) ?_
                                exact ih118 (l3_h118 + 1) _ (by first | decide | omega) (by first | decide | omega) (by first | decide | omega)
                              · skip
                                refine r_ex hX hP 1 (pc' := 151) (st' := [(2, this)]) (lo' := [(0, (2, this)), (1, (2, text)), (2, (0, l2_h31)), (3, (0, l3_h118)), (4, (2, r23))]) rfl ?_
                                refine r_getR hX hP rfl fl_X3_28_133 hS (fun cf29 cf29e cf29s => ?_)
                                refine r_ex hX hP 1 (pc' := 155) (st' := [(0, l3_h118), (2, cf29)]) (lo' := [(0, (2, this)), (1, (2, text)), (2, (0, l2_h31)), (3, (0, l3_h118)), (4, (2, r23))]) rfl ?_
                                refine r_aald hX hP rfl al_102 rfl cf29s (by first | decide | omega) (by first | decide | omega) (fun r30 r30e r30s => ?_)
                                refine r_ex hX hP 2 (pc' := 159) (st' := [(1, 1), (2, r23), (2, r30)]) (lo' := [(0, (2, this)), (1, (2, text)), (2, (0, l2_h31)), (3, (0, l3_h118)), (4, (2, r23))]) rfl ?_
                                refine r_callS gd hX hP rfl cs_X3_140 (d' := 0) (mc' := 0) (ms' := 0) (as' := [(2, r30), (2, r23), (1, 1)]) (st := []) (by first | decide | omega) (by first | decide | omega) (by first | decide | omega) rfl rfl (Nat.le_of_ble_eq_true rfl) (c_X3_addTimes E S (hw [(99, -1)] (hw [(97, -1), (99, -1)] (hw [(95, -1), (99, -1)] (hw [(95, -1), (97, -1), (99, -1)] (hw [(99, -1)] G Gh2) Gh31) G17) Gh63) Gh118) r30 r23 1 r30s r23s (by first | decide | omega) (by first | decide | omega)) ?_
                                rintro _ _ _ ⟨rfl, ⟨G31, rfl⟩, rfl, -⟩
                                refine r_ex hX hP 1 (pc' := 163) (st' := [(2, this)]) (lo' := [(0, (2, this)), (1, (2, text)), (2, (0, l2_h31)), (3, (0, l3_h118)), (4, (2, r23))]) rfl ?_
                                refine r_getKR hX hP rfl fl_X3_28_133 hS (x := cf29) cf29e ?_
                                refine r_ex hX hP 1 (pc' := 167) (st' := [(0, l3_h118), (2, cf29)]) (lo' := [(0, (2, this)), (1, (2, text)), (2, (0, l2_h31)), (3, (0, l3_h118)), (4, (2, r23))]) rfl ?_
                                refine r_aaldK hX hP rfl al_102 rfl cf29s (by first | decide | omega) (by first | decide | omega) (x := r30) r30e ?_
                                refine r_ex hX hP 1 (pc' := 169) (st' := [(2, this), (2, r30)]) (lo' := [(0, (2, this)), (1, (2, text)), (2, (0, l2_h31)), (3, (0, l3_h118)), (4, (2, r23))]) rfl ?_
                                refine r_getR hX hP rfl fl_X3_25_133 hS (fun gf32 gf32e gf32s => ?_)
                                refine r_ex hX hP 1 (pc' := 173) (st' := [(0, l3_h118), (2, gf32), (2, r30)]) (lo' := [(0, (2, this)), (1, (2, text)), (2, (0, l2_h31)), (3, (0, l3_h118)), (4, (2, r23))]) rfl ?_
                                refine r_aald hX hP rfl al_102 rfl gf32s (by first | decide | omega) (by first | decide | omega) (fun r33 r33e r33s => ?_)
                                refine r_callS gd hX hP rfl cs_X3_151 (d' := 0) (mc' := 0) (ms' := 0) (as' := [(2, r30), (2, r33)]) (st := []) (by first | decide | omega) (by first | decide | omega) (by first | decide | omega) rfl rfl (Nat.le_of_ble_eq_true rfl) (c_X3_subtract E S (hw [(99, -1)] (hw [(99, -1)] (hw [(97, -1), (99, -1)] (hw [(95, -1), (99, -1)] (hw [(95, -1), (97, -1), (99, -1)] (hw [(99, -1)] G Gh2) Gh31) G17) Gh63) Gh118) G31) r30 r33 r30s r33s) ?_
                                rintro _ _ _ ⟨rfl, ⟨G34, rfl⟩, rfl, -⟩
                                refine r_ex hX hP 1 (pc' := 178) (st' := [(2, this)]) (lo' := [(0, (2, this)), (1, (2, text)), (2, (0, l2_h31)), (3, (0, l3_h118)), (4, (2, r23))]) rfl ?_
                                refine r_getKR hX hP rfl fl_X3_25_133 hS (x := gf32) gf32e ?_
                                refine r_ex hX hP 1 (pc' := 182) (st' := [(0, l3_h118), (2, gf32)]) (lo' := [(0, (2, this)), (1, (2, text)), (2, (0, l2_h31)), (3, (0, l3_h118)), (4, (2, r23))]) rfl ?_
                                refine r_aaldK hX hP rfl al_102 rfl gf32s (by first | decide | omega) (by first | decide | omega) (x := r33) r33e ?_
                                refine r_ex hX hP 1 (pc' := 185) (st' := [(2, r23), (2, r33)]) (lo' := [(0, (2, this)), (1, (2, text)), (2, (0, l2_h31)), (3, (0, l3_h118)), (4, (2, r23))]) rfl ?_
                                refine r_callS gd hX hP rfl cs_X3_161 (d' := 3) (mc' := 0) (ms' := 0) (as' := [(2, r33), (2, r23)]) (st := []) (by first | decide | omega) (by first | decide | omega) (by first | decide | omega) rfl rfl (Nat.le_of_ble_eq_true rfl) (c_X3_copy E S (hw [(99, -1)] (hw [(99, -1)] (hw [(99, -1)] (hw [(97, -1), (99, -1)] (hw [(95, -1), (99, -1)] (hw [(95, -1), (97, -1), (99, -1)] (hw [(99, -1)] G Gh2) Gh31) G17) Gh63) Gh118) G31) G34) r33 r23 r33s r23s) ?_
                                rintro _ _ _ ⟨rfl, ⟨G35, rfl⟩, rfl, -⟩
                                refine r_ex hX hP 2 (pc' := 118) (st' := []) (lo' := [(0, (2, this)), (1, (2, text)), (2, (0, l2_h31)), (3, (0, (l3_h118 + 1))), (4, (2, r23))]) rfl ?_
                                refine r_pick hX [0, 1, 2, 3] (lo' := [(0, (2, this)), (1, (2, text)), (2, (0, l2_h31)), (3, (0, (l3_h118 + 1)))]) rfl ?_
                                refine r_eqG (X := X) (hw_sub (hw_sub (hw_sub (hw_base _ _ _) rfl) rfl) rfl) ?_
                                exact ih118 (l3_h118 + 1) _ (by first | decide | omega) (by first | decide | omega) (by first | decide | omega)
                        refine r_eqG (X := X) (hw_refl [(99, -1)] _) ?_
                        exact loop118 ((20 - 0) + 1 : Int).toNat 0 _ (by first | decide | omega) (by first | decide | omega) (by first | decide | omega)
                      · skip
                        refine r_ex hX hP 1 (pc' := 75) (st' := [(2, this)]) (lo' := [(0, (2, this)), (1, (2, text)), (2, (0, l2_h31)), (3, (0, l3_h63))]) rfl ?_
                        refine r_getKR hX hP rfl fl_X3_63_133 hS (x := af1) af1e ?_
                        refine r_getR hX hP rfl fl_X3_179_130 af1s (fun tf36 tf36e tf36s => ?_)
                        refine r_ex hX hP 1 (pc' := 82) (st' := [(0, l3_h63), (2, tf36)]) (lo' := [(0, (2, this)), (1, (2, text)), (2, (0, l2_h31)), (3, (0, l3_h63))]) rfl ?_
                        refine r_iald hX hP rfl al_94 tf36s (by first | decide | omega) (by first | decide | omega) (fun x37 x37e x37a x37b => ?_)
                        refine r_ex hX hP 1 (pc' := 84) (st' := [(0, l3_h63), (0, x37)]) (lo' := [(0, (2, this)), (1, (2, text)), (2, (0, l2_h31)), (3, (0, l3_h63))]) rfl ?_
                        refine r_ic_ne hX hP rfl (tgt := 110) rfl (by first | decide | omega) (by first | decide | omega) (by first | decide | omega) (by first | decide | omega) (fun c38 => ?_) (fun c38 => ?_)
                        · skip
                          refine r_ex hX hP 2 (pc' := 63) (st' := []) (lo' := [(0, (2, this)), (1, (2, text)), (2, (0, l2_h31)), (3, (0, (l3_h63 + 1)))]) rfl ?_
                          refine r_eqG (X := X) (hw_base _ _ _) ?_
                          exact ih63 (l3_h63 + 1) _ (by first | decide | omega) (by first | decide | omega) (by first | decide | omega)
                        · skip
                          refine r_ex hX hP 1 (pc' := 88) (st' := [(2, this)]) (lo' := [(0, (2, this)), (1, (2, text)), (2, (0, l2_h31)), (3, (0, l3_h63))]) rfl ?_
                          refine r_getR hX hP rfl fl_X3_51_133 hS (fun af39 af39e af39s => ?_)
                          refine r_ex hX hP 1 (pc' := 92) (st' := [(2, this), (2, af39)]) (lo' := [(0, (2, this)), (1, (2, text)), (2, (0, l2_h31)), (3, (0, l3_h63))]) rfl ?_
                          refine r_getR hX hP rfl fl_X3_31_133 hS (fun qf40 qf40e qf40s => ?_)
                          refine r_ex hX hP 1 (pc' := 96) (st' := [(0, l3_h63), (2, qf40), (2, af39)]) (lo' := [(0, (2, this)), (1, (2, text)), (2, (0, l2_h31)), (3, (0, l3_h63))]) rfl ?_
                          refine r_lald hX hP rfl al_95 qf40s (by first | decide | omega) (by first | decide | omega) (fun x41 x41e x41a x41b => ?_)
                          refine r_callS gd hX hP rfl cs_X3_67 (d' := 0) (mc' := 0) (ms' := 0) (as' := [(2, af39), (1, x41)]) (st := []) (by first | decide | omega) (by first | decide | omega) (by first | decide | omega) rfl rfl (Nat.le_of_ble_eq_true rfl) (c_X3_put E S (hw [(97, -1), (99, -1)] (hw [(95, -1), (99, -1)] (hw [(95, -1), (97, -1), (99, -1)] (hw [(99, -1)] G Gh2) Gh31) G17) Gh63) af39 x41 af39s (by first | decide | omega) (by first | decide | omega)) ?_
                          rintro _ _ _ ⟨rfl, ⟨G42, rfl⟩, rfl, -⟩
                          refine r_ex hX hP 2 (pc' := 102) (st' := [(2, this), (2, this)]) (lo' := [(0, (2, this)), (1, (2, text)), (2, (0, l2_h31)), (3, (0, l3_h63))]) rfl ?_
                          refine r_getKR hX hP rfl fl_X3_51_133 hS (x := af39) af39e ?_
                          refine r_ex hX hP 2 (pc' := 107) (st' := [(0, l2_h31), (0, l3_h63), (2, af39), (2, this)]) (lo' := [(0, (2, this)), (1, (2, text)), (2, (0, l2_h31)), (3, (0, l3_h63))]) rfl ?_
                          refine r_callV gd hX hP rfl cv_X3_201_133 hS (d' := 5) (mc' := 0) (ms' := 0) (as' := [(2, af39), (0, l3_h63), (0, l2_h31)]) (st := []) (by first | decide | omega) (by first | decide | omega) (by first | decide | omega) rfl rfl (Nat.le_of_ble_eq_true rfl) (c_X3_deal E S (hw [(99, -1)] (hw [(97, -1), (99, -1)] (hw [(95, -1), (99, -1)] (hw [(95, -1), (97, -1), (99, -1)] (hw [(99, -1)] G Gh2) Gh31) G17) Gh63) G42) this af39 l3_h63 l2_h31 hS af39s (by first | decide | omega) (by first | decide | omega) (by first | decide | omega) (by first | decide | omega)) ?_
                          rintro _ _ _ ⟨rfl, ⟨G43, rfl⟩, rfl, -⟩
                          refine r_ex hX hP 2 (pc' := 63) (st' := []) (lo' := [(0, (2, this)), (1, (2, text)), (2, (0, l2_h31)), (3, (0, (l3_h63 + 1)))]) rfl ?_
                          refine r_eqG (X := X) (hw_sub (hw_sub (hw_base _ _ _) rfl) rfl) ?_
                          exact ih63 (l3_h63 + 1) _ (by first | decide | omega) (by first | decide | omega) (by first | decide | omega)
                  refine r_eqG (X := X) (hw_refl [(97, -1), (99, -1)] _) ?_
                  exact loop63 ((20 - 0) + 1 : Int).toNat 0 _ (by first | decide | omega) (by first | decide | omega) (by first | decide | omega)
                · skip
                  refine r_ex hX hP 3 (pc' := 31) (st' := []) (lo' := [(0, (2, this)), (1, (2, text)), (2, (0, (l2_h31 + 1)))]) rfl ?_
                  refine r_eqG (X := X) (hw_sub (hw_base _ _ _) rfl) ?_
                  exact ih31 (l2_h31 + 1) _ (by first | decide | omega) (by first | decide | omega) (by first | decide | omega)
        refine r_eqG (X := X) (hw_refl [(95, -1), (97, -1), (99, -1)] _) ?_
        exact loop31 ((3 - 0) + 1 : Int).toNat 0 _ (by first | decide | omega) (by first | decide | omega) (by first | decide | omega)
      · skip
        refine r_ex hX hP 1 (pc' := 14) (st' := [(2, this)]) (lo' := [(0, (2, this)), (1, (2, text)), (2, (0, l2_h2))]) rfl ?_
        refine r_getR hX hP rfl fl_X3_28_133 hS (fun cf44 cf44e cf44s => ?_)
        refine r_ex hX hP 1 (pc' := 18) (st' := [(0, l2_h2), (2, cf44)]) (lo' := [(0, (2, this)), (1, (2, text)), (2, (0, l2_h2))]) rfl ?_
        refine r_aald hX hP rfl al_102 rfl cf44s (by first | decide | omega) (by first | decide | omega) (fun r45 r45e r45s => ?_)
        refine r_ex hX hP 1 (pc' := 20) (st' := [(1, 0), (2, r45)]) (lo' := [(0, (2, this)), (1, (2, text)), (2, (0, l2_h2))]) rfl ?_
        refine r_callS gd hX hP rfl cs_X3_67 (d' := 0) (mc' := 0) (ms' := 0) (as' := [(2, r45), (1, 0)]) (st := []) (by first | decide | omega) (by first | decide | omega) (by first | decide | omega) rfl rfl (Nat.le_of_ble_eq_true rfl) (c_X3_put E S (hw [(99, -1)] G Gh2) r45 0 r45s (by first | decide | omega) (by first | decide | omega)) ?_
        rintro _ _ _ ⟨rfl, ⟨G46, rfl⟩, rfl, -⟩
        refine r_ex hX hP 2 (pc' := 2) (st' := []) (lo' := [(0, (2, this)), (1, (2, text)), (2, (0, (l2_h2 + 1)))]) rfl ?_
        refine r_eqG (X := X) (hw_sub (hw_base _ _ _) rfl) ?_
        exact ih2 (l2_h2 + 1) _ (by first | decide | omega) (by first | decide | omega) (by first | decide | omega)
  refine r_eqG (X := X) (hw_refl [(99, -1)] _) ?_
  exact loop2 ((20 - 0) + 1 : Int).toNat 0 _ (by first | decide | omega) (by first | decide | omega) (by first | decide | omega)
set_option maxRecDepth 100000 in
set_option maxHeartbeats 4000000 in
theorem c_X3_serve (E : En) (S : Sg) (G : Gh) (this : Int) (happened : Int) (head : Int) (hS : S this = 133) (happened_s : S happened = 137) (head_a : 0 ≤ head) (head_b : head ≤ 19) (ci : CI E S G) : Calls E mX3_serve [(2, this), (2, happened), (0, head)] S G 6 0 0 (fun r S' G' => S = S' ∧ (∃ G1, hw [(97, -1), (99, -1), (119, -1), (125, -1), (126, -1), (127, -1)] G G1 = G') ∧ r = none ∧ True) := by
  refine calls_by [(0, (2, this)), (1, (2, happened)), (2, (0, head))] rfl rfl (Nat.le_of_ble_eq_true rfl) (fun X hX => ?_)
  have hP := hPX3_serve
  refine r_ex hX hP 1 (pc' := 1) (st' := [(2, happened)]) (lo' := [(0, (2, this)), (1, (2, happened)), (2, (0, head))]) rfl ?_
  refine r_getR hX hP rfl fl_X3_171_137 happened_s (fun tf1 tf1e tf1s => ?_)
  refine r_ex hX hP 3 (pc' := 8) (st' := []) (lo' := [(0, (2, this)), (1, (2, happened)), (2, (0, head)), (3, (2, tf1)), (4, (0, 0))]) rfl ?_
  have loop8 : ∀ (nF : Nat) (l4_h8 : Int) (Gh8 : Gh), 0 ≤ l4_h8 → l4_h8 ≤ 4 → 4 - l4_h8 < (nF : Int) → X 0 0 8 [] [(0, (2, this)), (1, (2, happened)), (2, (0, head)), (3, (2, tf1)), (4, (0, l4_h8))] S (hw [(99, -1), (125, -1)] G Gh8) := by
    intro nF
    induction nF with
    | zero => intro l4_h8 Gh8 yh8_0 yh8_1 ym8; exfalso; omega
    | succ nF ih8 =>
      intro l4_h8 Gh8 yh8_0 yh8_1 ym8
      refine r_ex hX hP 2 (pc' := 11) (st' := [(0, 4), (0, l4_h8)]) (lo' := [(0, (2, this)), (1, (2, happened)), (2, (0, head)), (3, (2, tf1)), (4, (0, l4_h8))]) rfl ?_
      refine r_ic_ge hX hP rfl (tgt := 53) rfl (by first | decide | omega) (by first | decide | omega) (by first | decide | omega) (by first | decide | omega) (fun c2 => ?_) (fun c2 => ?_)
      · skip
        refine r_ex hX hP 1 (pc' := 54) (st' := [(2, tf1)]) (lo' := [(0, (2, this)), (1, (2, happened)), (2, (0, head)), (3, (2, tf1)), (4, (0, l4_h8))]) rfl ?_
        refine r_callV gd hX hP rfl cv_X3_222_136 tf1s (d' := 2) (mc' := 0) (ms' := 0) (as' := []) (st := []) (by first | decide | omega) (by first | decide | omega) (by first | decide | omega) rfl rfl (Nat.le_of_ble_eq_true rfl) (c_X9_work E S (hw [(99, -1), (125, -1)] G Gh8) tf1  tf1s) ?_
        rintro _ _ _ ⟨rfl, ⟨G3, rfl⟩, rfl, -⟩
        refine r_ex hX hP 2 (pc' := 60) (st' := []) (lo' := [(0, (2, this)), (1, (2, happened)), (2, (0, head)), (3, (2, tf1)), (4, (0, 0))]) rfl ?_
        have loop60 : ∀ (nF : Nat) (l4_h60 : Int) (Gh60 : Gh), 0 ≤ l4_h60 → l4_h60 ≤ 30 → 30 - l4_h60 < (nF : Int) → X 0 0 60 [] [(0, (2, this)), (1, (2, happened)), (2, (0, head)), (3, (2, tf1)), (4, (0, l4_h60))] S (hw [(97, -1), (99, -1)] (hw [(119, -1), (126, -1), (127, -1)] (hw [(99, -1), (125, -1)] G Gh8) G3) Gh60) := by
          intro nF
          induction nF with
          | zero => intro l4_h60 Gh60 yh60_0 yh60_1 ym60; exfalso; omega
          | succ nF ih60 =>
            intro l4_h60 Gh60 yh60_0 yh60_1 ym60
            refine r_ex hX hP 2 (pc' := 63) (st' := [(2, tf1), (0, l4_h60)]) (lo' := [(0, (2, this)), (1, (2, happened)), (2, (0, head)), (3, (2, tf1)), (4, (0, l4_h60))]) rfl ?_
            refine r_getI hX hP rfl fl_X3_225_136 tf1s (fun sf4 sf4e sf4a sf4b => ?_)
            refine r_ic_ge hX hP rfl (tgt := 205) rfl (by first | decide | omega) (by first | decide | omega) (by first | decide | omega) (by first | decide | omega) (fun c5 => ?_) (fun c5 => ?_)
            · skip
              refine r_ex hX hP 2 (pc' := 208) (st' := []) (lo' := [(0, (2, this)), (1, (2, happened)), (2, (0, head)), (3, (2, tf1)), (4, (0, 0))]) rfl ?_
              have loop208 : ∀ (nF : Nat) (l4_h208 : Int) (Gh208 : Gh), 0 ≤ l4_h208 → l4_h208 ≤ 4 → 4 - l4_h208 < (nF : Int) → X 0 0 208 [] [(0, (2, this)), (1, (2, happened)), (2, (0, head)), (3, (2, tf1)), (4, (0, l4_h208))] S (hw [(97, -1), (99, -1)] (hw [(97, -1), (99, -1)] (hw [(119, -1), (126, -1), (127, -1)] (hw [(99, -1), (125, -1)] G Gh8) G3) Gh60) Gh208) := by
                intro nF
                induction nF with
                | zero => intro l4_h208 Gh208 yh208_0 yh208_1 ym208; exfalso; omega
                | succ nF ih208 =>
                  intro l4_h208 Gh208 yh208_0 yh208_1 ym208
                  refine r_ex hX hP 2 (pc' := 211) (st' := [(0, 4), (0, l4_h208)]) (lo' := [(0, (2, this)), (1, (2, happened)), (2, (0, head)), (3, (2, tf1)), (4, (0, l4_h208))]) rfl ?_
                  refine r_ic_ge hX hP rfl (tgt := 288) rfl (by first | decide | omega) (by first | decide | omega) (by first | decide | omega) (by first | decide | omega) (fun c6 => ?_) (fun c6 => ?_)
                  · skip
                    exact r_retV hX hP rfl rfl (by first | decide | omega) (by first | decide | omega) ⟨rfl, ⟨_, (hw_sub (hw_sub (hw_sub (hw_sub (hw_refl _ _) rfl) rfl) rfl) rfl).symm⟩, rfl, trivial⟩
                  · skip
                    refine r_ex hX hP 1 (pc' := 215) (st' := [(2, this)]) (lo' := [(0, (2, this)), (1, (2, happened)), (2, (0, head)), (3, (2, tf1)), (4, (0, l4_h208))]) rfl ?_
                    refine r_getR hX hP rfl fl_X3_19_133 hS (fun af7 af7e af7s => ?_)
                    refine r_ex hX hP 5 (pc' := 225) (st' := [(0, ((l4_h208 * 20) + head)), (2, af7)]) (lo' := [(0, (2, this)), (1, (2, happened)), (2, (0, head)), (3, (2, tf1)), (4, (0, l4_h208))]) rfl ?_
                    refine r_aald hX hP rfl al_101 rfl af7s (by first | decide | omega) (by first | decide | omega) (fun r8 r8e r8s => ?_)
                    refine r_ex hX hP 3 (pc' := 231) (st' := [(2, this), (2, r8)]) (lo' := [(0, (2, this)), (1, (2, happened)), (2, (0, head)), (3, (2, tf1)), (4, (0, l4_h208)), (5, (2, r8))]) rfl ?_
                    refine r_getR hX hP rfl fl_X3_48_133 hS (fun tf9 tf9e tf9s => ?_)
                    refine r_ex hX hP 1 (pc' := 236) (st' := [(0, l4_h208), (2, tf9), (2, r8)]) (lo' := [(0, (2, this)), (1, (2, happened)), (2, (0, head)), (3, (2, tf1)), (4, (0, l4_h208)), (5, (2, r8))]) rfl ?_
                    refine r_aald hX hP rfl al_104 rfl tf9s (by first | decide | omega) (by first | decide | omega) (fun r10 r10e r10s => ?_)
                    refine r_callS gd hX hP rfl cs_X3_147 (d' := 0) (mc' := 0) (ms' := 0) (as' := [(2, r8), (2, r10)]) (st := []) (by first | decide | omega) (by first | decide | omega) (by first | decide | omega) rfl rfl (Nat.le_of_ble_eq_true rfl) (c_X3_isLess E S (hw [(97, -1), (99, -1)] (hw [(97, -1), (99, -1)] (hw [(119, -1), (126, -1), (127, -1)] (hw [(99, -1), (125, -1)] G Gh8) G3) Gh60) Gh208) r8 r10 r8s r10s) ?_
                    rintro _ _ _ ⟨rfl, rfl, z11, rfl, z11a, z11b⟩
                    refine r_if_eq hX hP rfl (tgt := 248) rfl (by first | decide | omega) (by first | decide | omega) (fun c12 => ?_) (fun c12 => ?_)
                    · skip
                      refine r_ex hX hP 1 (pc' := 249) (st' := [(2, this)]) (lo' := [(0, (2, this)), (1, (2, happened)), (2, (0, head)), (3, (2, tf1)), (4, (0, l4_h208)), (5, (2, r8))]) rfl ?_
                      refine r_getKR hX hP rfl fl_X3_48_133 hS (x := tf9) tf9e ?_
                      refine r_ex hX hP 1 (pc' := 254) (st' := [(0, l4_h208), (2, tf9)]) (lo' := [(0, (2, this)), (1, (2, happened)), (2, (0, head)), (3, (2, tf1)), (4, (0, l4_h208)), (5, (2, r8))]) rfl ?_
                      refine r_aaldK hX hP rfl al_104 rfl tf9s (by first | decide | omega) (by first | decide | omega) (x := r10) r10e ?_
                      refine r_ex hX hP 1 (pc' := 256) (st' := [(2, this), (2, r10)]) (lo' := [(0, (2, this)), (1, (2, happened)), (2, (0, head)), (3, (2, tf1)), (4, (0, l4_h208)), (5, (2, r8))]) rfl ?_
                      refine r_getR hX hP rfl fl_X3_51_133 hS (fun af13 af13e af13s => ?_)
                      refine r_callS gd hX hP rfl cs_X3_161 (d' := 3) (mc' := 0) (ms' := 0) (as' := [(2, r10), (2, af13)]) (st := []) (by first | decide | omega) (by first | decide | omega) (by first | decide | omega) rfl rfl (Nat.le_of_ble_eq_true rfl) (c_X3_copy E S (hw [(97, -1), (99, -1)] (hw [(97, -1), (99, -1)] (hw [(119, -1), (126, -1), (127, -1)] (hw [(99, -1), (125, -1)] G Gh8) G3) Gh60) Gh208) r10 af13 r10s af13s) ?_
                      rintro _ _ _ ⟨rfl, ⟨G14, rfl⟩, rfl, -⟩
                      refine r_ex hX hP 2 (pc' := 264) (st' := [(2, this), (2, this)]) (lo' := [(0, (2, this)), (1, (2, happened)), (2, (0, head)), (3, (2, tf1)), (4, (0, l4_h208)), (5, (2, r8))]) rfl ?_
                      refine r_getKR hX hP rfl fl_X3_51_133 hS (x := af13) af13e ?_
                      refine r_ex hX hP 2 (pc' := 270) (st' := [(0, l4_h208), (0, head), (2, af13), (2, this)]) (lo' := [(0, (2, this)), (1, (2, happened)), (2, (0, head)), (3, (2, tf1)), (4, (0, l4_h208)), (5, (2, r8))]) rfl ?_
                      refine r_callV gd hX hP rfl cv_X3_201_133 hS (d' := 5) (mc' := 0) (ms' := 0) (as' := [(2, af13), (0, head), (0, l4_h208)]) (st := []) (by first | decide | omega) (by first | decide | omega) (by first | decide | omega) rfl rfl (Nat.le_of_ble_eq_true rfl) (c_X3_deal E S (hw [(99, -1)] (hw [(97, -1), (99, -1)] (hw [(97, -1), (99, -1)] (hw [(119, -1), (126, -1), (127, -1)] (hw [(99, -1), (125, -1)] G Gh8) G3) Gh60) Gh208) G14) this af13 head l4_h208 hS af13s (by first | decide | omega) (by first | decide | omega) (by first | decide | omega) (by first | decide | omega)) ?_
                      rintro _ _ _ ⟨rfl, ⟨G15, rfl⟩, rfl, -⟩
                      refine r_ex hX hP 2 (pc' := 275) (st' := [(2, happened), (2, this)]) (lo' := [(0, (2, this)), (1, (2, happened)), (2, (0, head)), (3, (2, tf1)), (4, (0, l4_h208)), (5, (2, r8))]) rfl ?_
                      refine r_getI hX hP rfl fl_X3_160_137 happened_s (fun pf16 pf16e pf16a pf16b => ?_)
                      refine r_ex hX hP 1 (pc' := 279) (st' := [(0, head), (0, pf16), (2, this)]) (lo' := [(0, (2, this)), (1, (2, happened)), (2, (0, head)), (3, (2, tf1)), (4, (0, l4_h208)), (5, (2, r8))]) rfl ?_
                      refine r_callV gd hX hP rfl cv_X3_252_133 hS (d' := 1) (mc' := 0) (ms' := 0) (as' := [(0, pf16), (0, head)]) (st := []) (by first | decide | omega) (by first | decide | omega) (by first | decide | omega) rfl rfl (Nat.le_of_ble_eq_true rfl) (c_X3_go E S (hw [(97, -1), (99, -1)] (hw [(99, -1)] (hw [(97, -1), (99, -1)] (hw [(97, -1), (99, -1)] (hw [(119, -1), (126, -1), (127, -1)] (hw [(99, -1), (125, -1)] G Gh8) G3) Gh60) Gh208) G14) G15) this pf16 head hS (by first | decide | omega) (by first | decide | omega) (by first | decide | omega) (by first | decide | omega)) ?_
                      rintro _ _ _ ⟨rfl, ⟨G17, rfl⟩, rfl, -⟩
                      refine r_ex hX hP 2 (pc' := 208) (st' := []) (lo' := [(0, (2, this)), (1, (2, happened)), (2, (0, head)), (3, (2, tf1)), (4, (0, (l4_h208 + 1))), (5, (2, r8))]) rfl ?_
                      refine r_pick hX [0, 1, 2, 3, 4] (lo' := [(0, (2, this)), (1, (2, happened)), (2, (0, head)), (3, (2, tf1)), (4, (0, (l4_h208 + 1)))]) rfl ?_
                      refine r_eqG (X := X) (hw_sub (hw_sub (hw_sub (hw_base _ _ _) rfl) rfl) rfl) ?_
                      exact ih208 (l4_h208 + 1) _ (by first | decide | omega) (by first | decide | omega) (by first | decide | omega)
                    · skip
                      refine r_ex hX hP 3 (pc' := 256) (st' := [(2, this), (2, r8)]) (lo' := [(0, (2, this)), (1, (2, happened)), (2, (0, head)), (3, (2, tf1)), (4, (0, l4_h208)), (5, (2, r8))]) rfl ?_
                      refine r_getR hX hP rfl fl_X3_51_133 hS (fun af18 af18e af18s => ?_)
                      refine r_callS gd hX hP rfl cs_X3_161 (d' := 3) (mc' := 0) (ms' := 0) (as' := [(2, r8), (2, af18)]) (st := []) (by first | decide | omega) (by first | decide | omega) (by first | decide | omega) rfl rfl (Nat.le_of_ble_eq_true rfl) (c_X3_copy E S (hw [(97, -1), (99, -1)] (hw [(97, -1), (99, -1)] (hw [(119, -1), (126, -1), (127, -1)] (hw [(99, -1), (125, -1)] G Gh8) G3) Gh60) Gh208) r8 af18 r8s af18s) ?_
                      rintro _ _ _ ⟨rfl, ⟨G19, rfl⟩, rfl, -⟩
                      refine r_ex hX hP 2 (pc' := 264) (st' := [(2, this), (2, this)]) (lo' := [(0, (2, this)), (1, (2, happened)), (2, (0, head)), (3, (2, tf1)), (4, (0, l4_h208)), (5, (2, r8))]) rfl ?_
                      refine r_getKR hX hP rfl fl_X3_51_133 hS (x := af18) af18e ?_
                      refine r_ex hX hP 2 (pc' := 270) (st' := [(0, l4_h208), (0, head), (2, af18), (2, this)]) (lo' := [(0, (2, this)), (1, (2, happened)), (2, (0, head)), (3, (2, tf1)), (4, (0, l4_h208)), (5, (2, r8))]) rfl ?_
                      refine r_callV gd hX hP rfl cv_X3_201_133 hS (d' := 5) (mc' := 0) (ms' := 0) (as' := [(2, af18), (0, head), (0, l4_h208)]) (st := []) (by first | decide | omega) (by first | decide | omega) (by first | decide | omega) rfl rfl (Nat.le_of_ble_eq_true rfl) (c_X3_deal E S (hw [(99, -1)] (hw [(97, -1), (99, -1)] (hw [(97, -1), (99, -1)] (hw [(119, -1), (126, -1), (127, -1)] (hw [(99, -1), (125, -1)] G Gh8) G3) Gh60) Gh208) G19) this af18 head l4_h208 hS af18s (by first | decide | omega) (by first | decide | omega) (by first | decide | omega) (by first | decide | omega)) ?_
                      rintro _ _ _ ⟨rfl, ⟨G20, rfl⟩, rfl, -⟩
                      refine r_ex hX hP 2 (pc' := 275) (st' := [(2, happened), (2, this)]) (lo' := [(0, (2, this)), (1, (2, happened)), (2, (0, head)), (3, (2, tf1)), (4, (0, l4_h208)), (5, (2, r8))]) rfl ?_
                      refine r_getI hX hP rfl fl_X3_160_137 happened_s (fun pf21 pf21e pf21a pf21b => ?_)
                      refine r_ex hX hP 1 (pc' := 279) (st' := [(0, head), (0, pf21), (2, this)]) (lo' := [(0, (2, this)), (1, (2, happened)), (2, (0, head)), (3, (2, tf1)), (4, (0, l4_h208)), (5, (2, r8))]) rfl ?_
                      refine r_callV gd hX hP rfl cv_X3_252_133 hS (d' := 1) (mc' := 0) (ms' := 0) (as' := [(0, pf21), (0, head)]) (st := []) (by first | decide | omega) (by first | decide | omega) (by first | decide | omega) rfl rfl (Nat.le_of_ble_eq_true rfl) (c_X3_go E S (hw [(97, -1), (99, -1)] (hw [(99, -1)] (hw [(97, -1), (99, -1)] (hw [(97, -1), (99, -1)] (hw [(119, -1), (126, -1), (127, -1)] (hw [(99, -1), (125, -1)] G Gh8) G3) Gh60) Gh208) G19) G20) this pf21 head hS (by first | decide | omega) (by first | decide | omega) (by first | decide | omega) (by first | decide | omega)) ?_
                      rintro _ _ _ ⟨rfl, ⟨G22, rfl⟩, rfl, -⟩
                      refine r_ex hX hP 2 (pc' := 208) (st' := []) (lo' := [(0, (2, this)), (1, (2, happened)), (2, (0, head)), (3, (2, tf1)), (4, (0, (l4_h208 + 1))), (5, (2, r8))]) rfl ?_
                      refine r_pick hX [0, 1, 2, 3, 4] (lo' := [(0, (2, this)), (1, (2, happened)), (2, (0, head)), (3, (2, tf1)), (4, (0, (l4_h208 + 1)))]) rfl ?_
                      refine r_eqG (X := X) (hw_sub (hw_sub (hw_sub (hw_base _ _ _) rfl) rfl) rfl) ?_
                      exact ih208 (l4_h208 + 1) _ (by first | decide | omega) (by first | decide | omega) (by first | decide | omega)
              refine r_eqG (X := X) (hw_refl [(97, -1), (99, -1)] _) ?_
              exact loop208 ((4 - 0) + 1 : Int).toNat 0 _ (by first | decide | omega) (by first | decide | omega) (by first | decide | omega)
            · skip
              refine r_ex hX hP 1 (pc' := 70) (st' := [(2, tf1)]) (lo' := [(0, (2, this)), (1, (2, happened)), (2, (0, head)), (3, (2, tf1)), (4, (0, l4_h60))]) rfl ?_
              refine r_getR hX hP rfl fl_X3_227_136 tf1s (fun lf23 lf23e lf23s => ?_)
              refine r_ex hX hP 1 (pc' := 75) (st' := [(0, l4_h60), (2, lf23)]) (lo' := [(0, (2, this)), (1, (2, happened)), (2, (0, head)), (3, (2, tf1)), (4, (0, l4_h60))]) rfl ?_
              refine r_zald hX hP rfl al_126 lf23s (by first | decide | omega) (by first | decide | omega) (fun x24 x24e x24a x24b => ?_)
              refine r_if_eq hX hP rfl (tgt := 122) rfl (by first | decide | omega) (by first | decide | omega) (fun c25 => ?_) (fun c25 => ?_)
              · skip
                refine r_ex hX hP 1 (pc' := 123) (st' := [(2, tf1)]) (lo' := [(0, (2, this)), (1, (2, happened)), (2, (0, head)), (3, (2, tf1)), (4, (0, l4_h60))]) rfl ?_
                refine r_getKR hX hP rfl fl_X3_227_136 tf1s (x := lf23) lf23e ?_
                refine r_ex hX hP 1 (pc' := 128) (st' := [(0, l4_h60), (2, lf23)]) (lo' := [(0, (2, this)), (1, (2, happened)), (2, (0, head)), (3, (2, tf1)), (4, (0, l4_h60))]) rfl ?_
                refine r_zaldK hX hP rfl al_126 lf23s (by first | decide | omega) (by first | decide | omega) (x := x24) x24e ?_
                refine r_if_eq hX hP rfl (tgt := 199) rfl (by first | decide | omega) (by first | decide | omega) (fun c26 => ?_) (fun c26 => ?_)
                · skip
                  refine r_ex hX hP 2 (pc' := 60) (st' := []) (lo' := [(0, (2, this)), (1, (2, happened)), (2, (0, head)), (3, (2, tf1)), (4, (0, (l4_h60 + 1)))]) rfl ?_
                  refine r_eqG (X := X) (hw_base _ _ _) ?_
                  exact ih60 (l4_h60 + 1) _ (by first | decide | omega) (by first | decide | omega) (by first | decide | omega)
                · skip
                  exfalso; omega
              · skip
                refine r_ex hX hP 1 (pc' := 80) (st' := [(2, tf1)]) (lo' := [(0, (2, this)), (1, (2, happened)), (2, (0, head)), (3, (2, tf1)), (4, (0, l4_h60))]) rfl ?_
                refine r_getR hX hP rfl fl_X3_231_136 tf1s (fun kf27 kf27e kf27s => ?_)
                refine r_ex hX hP 1 (pc' := 85) (st' := [(0, l4_h60), (2, kf27)]) (lo' := [(0, (2, this)), (1, (2, happened)), (2, (0, head)), (3, (2, tf1)), (4, (0, l4_h60))]) rfl ?_
                refine r_iald hX hP rfl al_120 kf27s (by first | decide | omega) (by first | decide | omega) (fun x28 x28e x28a x28b => ?_)
                refine r_ex hX hP 1 (pc' := 87) (st' := [(0, 1), (0, x28)]) (lo' := [(0, (2, this)), (1, (2, happened)), (2, (0, head)), (3, (2, tf1)), (4, (0, l4_h60))]) rfl ?_
                refine r_ic_ne hX hP rfl (tgt := 122) rfl (by first | decide | omega) (by first | decide | omega) (by first | decide | omega) (by first | decide | omega) (fun c29 => ?_) (fun c29 => ?_)
                · skip
                  refine r_ex hX hP 1 (pc' := 123) (st' := [(2, tf1)]) (lo' := [(0, (2, this)), (1, (2, happened)), (2, (0, head)), (3, (2, tf1)), (4, (0, l4_h60))]) rfl ?_
                  refine r_getKR hX hP rfl fl_X3_227_136 tf1s (x := lf23) lf23e ?_
                  refine r_ex hX hP 1 (pc' := 128) (st' := [(0, l4_h60), (2, lf23)]) (lo' := [(0, (2, this)), (1, (2, happened)), (2, (0, head)), (3, (2, tf1)), (4, (0, l4_h60))]) rfl ?_
                  refine r_zaldK hX hP rfl al_126 lf23s (by first | decide | omega) (by first | decide | omega) (x := x24) x24e ?_
                  refine r_if_eq hX hP rfl (tgt := 199) rfl (by first | decide | omega) (by first | decide | omega) (fun c30 => ?_) (fun c30 => ?_)
                  · skip
                    exfalso; omega
                  · skip
                    refine r_ex hX hP 1 (pc' := 133) (st' := [(2, tf1)]) (lo' := [(0, (2, this)), (1, (2, happened)), (2, (0, head)), (3, (2, tf1)), (4, (0, l4_h60))]) rfl ?_
                    refine r_getKR hX hP rfl fl_X3_231_136 tf1s (x := kf27) kf27e ?_
                    refine r_ex hX hP 1 (pc' := 138) (st' := [(0, l4_h60), (2, kf27)]) (lo' := [(0, (2, this)), (1, (2, happened)), (2, (0, head)), (3, (2, tf1)), (4, (0, l4_h60))]) rfl ?_
                    refine r_ialdK hX hP rfl al_120 kf27s (by first | decide | omega) (by first | decide | omega) (x := x28) x28e ?_
                    refine r_if_ne hX hP rfl (tgt := 199) rfl (by first | decide | omega) (by first | decide | omega) (fun c31 => ?_) (fun c31 => ?_)
                    · skip
                      refine r_ex hX hP 2 (pc' := 60) (st' := []) (lo' := [(0, (2, this)), (1, (2, happened)), (2, (0, head)), (3, (2, tf1)), (4, (0, (l4_h60 + 1)))]) rfl ?_
                      refine r_eqG (X := X) (hw_base _ _ _) ?_
                      exact ih60 (l4_h60 + 1) _ (by first | decide | omega) (by first | decide | omega) (by first | decide | omega)
                    · skip
                      refine r_ex hX hP 6 (pc' := 150) (st' := [(0, head), (0, l4_h60), (2, tf1), (2, this), (0, l4_h60), (2, tf1)]) (lo' := [(0, (2, this)), (1, (2, happened)), (2, (0, head)), (3, (2, tf1)), (4, (0, l4_h60))]) rfl ?_
                      refine r_callV gd hX hP rfl cv_X3_234_133 hS (d' := 1) (mc' := 0) (ms' := 0) (as' := [(2, tf1), (0, l4_h60), (0, head)]) (st := [(0, l4_h60), (2, tf1)]) (by first | decide | omega) (by first | decide | omega) (by first | decide | omega) rfl rfl (Nat.le_of_ble_eq_true rfl) (c_X3_multiply E S (hw [(97, -1), (99, -1)] (hw [(119, -1), (126, -1), (127, -1)] (hw [(99, -1), (125, -1)] G Gh8) G3) Gh60) this tf1 l4_h60 head hS tf1s (by first | decide | omega) (by first | decide | omega) (by first | decide | omega) (by first | decide | omega)) ?_
                      rintro _ _ _ ⟨rfl, ⟨G32, rfl⟩, z33, rfl, z33a, z33b⟩
                      refine r_callV gd hX hP rfl cv_X3_241_136 tf1s (d' := 0) (mc' := 0) (ms' := 0) (as' := [(0, l4_h60), (1, z33)]) (st := []) (by first | decide | omega) (by first | decide | omega) (by first | decide | omega) rfl rfl (Nat.le_of_ble_eq_true rfl) (c_X9_isOneMore E S (hw [(99, -1)] (hw [(97, -1), (99, -1)] (hw [(119, -1), (126, -1), (127, -1)] (hw [(99, -1), (125, -1)] G Gh8) G3) Gh60) G32) tf1 l4_h60 z33 tf1s (by first | decide | omega) (by first | decide | omega) (by first | decide | omega) (by first | decide | omega)) ?_
                      rintro _ _ _ ⟨rfl, rfl, z34, rfl, z34a, z34b⟩
                      refine r_if_eq hX hP rfl (tgt := 171) rfl (by first | decide | omega) (by first | decide | omega) (fun c35 => ?_) (fun c35 => ?_)
                      · skip
                        refine r_ex hX hP 2 (pc' := 173) (st' := [(2, this), (2, this)]) (lo' := [(0, (2, this)), (1, (2, happened)), (2, (0, head)), (3, (2, tf1)), (4, (0, l4_h60))]) rfl ?_
                        refine r_getR hX hP rfl fl_X3_51_133 hS (fun af36 af36e af36s => ?_)
                        refine r_ex hX hP 2 (pc' := 178) (st' := [(2, tf1), (0, head), (2, af36), (2, this)]) (lo' := [(0, (2, this)), (1, (2, happened)), (2, (0, head)), (3, (2, tf1)), (4, (0, l4_h60))]) rfl ?_
                        refine r_getR hX hP rfl fl_X3_238_136 tf1s (fun rf37 rf37e rf37s => ?_)
                        refine r_ex hX hP 1 (pc' := 183) (st' := [(0, l4_h60), (2, rf37), (0, head), (2, af36), (2, this)]) (lo' := [(0, (2, this)), (1, (2, happened)), (2, (0, head)), (3, (2, tf1)), (4, (0, l4_h60))]) rfl ?_
                        refine r_iald hX hP rfl al_122 rf37s (by first | decide | omega) (by first | decide | omega) (fun x38 x38e x38a x38b => ?_)
                        refine r_callV gd hX hP rfl cv_X3_201_133 hS (d' := 5) (mc' := 0) (ms' := 0) (as' := [(2, af36), (0, head), (0, x38)]) (st := []) (by first | decide | omega) (by first | decide | omega) (by first | decide | omega) rfl rfl (Nat.le_of_ble_eq_true rfl) (c_X3_deal E S (hw [(99, -1)] (hw [(97, -1), (99, -1)] (hw [(119, -1), (126, -1), (127, -1)] (hw [(99, -1), (125, -1)] G Gh8) G3) Gh60) G32) this af36 head x38 hS af36s (by first | decide | omega) (by first | decide | omega) (by first | decide | omega) (by first | decide | omega)) ?_
                        rintro _ _ _ ⟨rfl, ⟨G39, rfl⟩, rfl, -⟩
                        refine r_ex hX hP 2 (pc' := 189) (st' := [(2, tf1), (2, this)]) (lo' := [(0, (2, this)), (1, (2, happened)), (2, (0, head)), (3, (2, tf1)), (4, (0, l4_h60))]) rfl ?_
                        refine r_getR hX hP rfl fl_X3_245_136 tf1s (fun qf40 qf40e qf40s => ?_)
                        refine r_ex hX hP 1 (pc' := 194) (st' := [(0, l4_h60), (2, qf40), (2, this)]) (lo' := [(0, (2, this)), (1, (2, happened)), (2, (0, head)), (3, (2, tf1)), (4, (0, l4_h60))]) rfl ?_
                        refine r_iald hX hP rfl al_121 qf40s (by first | decide | omega) (by first | decide | omega) (fun x41 x41e x41a x41b => ?_)
                        have ci43 : CI E S (hw [(97, -1), (99, -1)] (hw [(99, -1)] (hw [(97, -1), (99, -1)] (hw [(119, -1), (126, -1), (127, -1)] (hw [(99, -1), (125, -1)] G Gh8) G3) Gh60) G32) G39) := (ci_hw (ci_hw (ci_hw (ci_hw (ci_hw ci rfl) rfl) rfl) rfl) rfl)
                        have tq42 := ci_tq ci43 tf1s kf27e qf40e x28e x41e (by first | decide | omega) (by first | decide | omega) (by first | decide | omega)
                        refine r_ex hX hP 1 (pc' := 196) (st' := [(0, head), (0, x41), (2, this)]) (lo' := [(0, (2, this)), (1, (2, happened)), (2, (0, head)), (3, (2, tf1)), (4, (0, l4_h60))]) rfl ?_
                        refine r_callV gd hX hP rfl cv_X3_248_133 hS (d' := 1) (mc' := 0) (ms' := 0) (as' := [(0, x41), (0, head)]) (st := []) (by first | decide | omega) (by first | decide | omega) (by first | decide | omega) rfl rfl (Nat.le_of_ble_eq_true rfl) (c_X3_come E S (hw [(97, -1), (99, -1)] (hw [(99, -1)] (hw [(97, -1), (99, -1)] (hw [(119, -1), (126, -1), (127, -1)] (hw [(99, -1), (125, -1)] G Gh8) G3) Gh60) G32) G39) this x41 head hS (by first | decide | omega) (by first | decide | omega) (by first | decide | omega) (by first | decide | omega)) ?_
                        rintro _ _ _ ⟨rfl, ⟨G44, rfl⟩, rfl, -⟩
                        refine r_ex hX hP 2 (pc' := 60) (st' := []) (lo' := [(0, (2, this)), (1, (2, happened)), (2, (0, head)), (3, (2, tf1)), (4, (0, (l4_h60 + 1)))]) rfl ?_
                        refine r_eqG (X := X) (hw_sub (hw_sub (hw_sub (hw_base _ _ _) rfl) rfl) rfl) ?_
                        exact ih60 (l4_h60 + 1) _ (by first | decide | omega) (by first | decide | omega) (by first | decide | omega)
                      · skip
                        refine r_ex hX hP 1 (pc' := 160) (st' := [(2, this)]) (lo' := [(0, (2, this)), (1, (2, happened)), (2, (0, head)), (3, (2, tf1)), (4, (0, l4_h60))]) rfl ?_
                        refine r_getR hX hP rfl fl_X3_51_133 hS (fun af45 af45e af45s => ?_)
                        refine r_ex hX hP 1 (pc' := 164) (st' := [(2, this), (2, af45)]) (lo' := [(0, (2, this)), (1, (2, happened)), (2, (0, head)), (3, (2, tf1)), (4, (0, l4_h60))]) rfl ?_
                        refine r_getR hX hP rfl fl_X3_60_133 hS (fun of46 of46e of46s => ?_)
                        refine r_ex hX hP 1 (pc' := 168) (st' := [(1, 1), (2, of46), (2, af45)]) (lo' := [(0, (2, this)), (1, (2, happened)), (2, (0, head)), (3, (2, tf1)), (4, (0, l4_h60))]) rfl ?_
                        refine r_callS gd hX hP rfl cs_X3_140 (d' := 0) (mc' := 0) (ms' := 0) (as' := [(2, af45), (2, of46), (1, 1)]) (st := []) (by first | decide | omega) (by first | decide | omega) (by first | decide | omega) rfl rfl (Nat.le_of_ble_eq_true rfl) (c_X3_addTimes E S (hw [(99, -1)] (hw [(97, -1), (99, -1)] (hw [(119, -1), (126, -1), (127, -1)] (hw [(99, -1), (125, -1)] G Gh8) G3) Gh60) G32) af45 of46 1 af45s of46s (by first | decide | omega) (by first | decide | omega)) ?_
                        rintro _ _ _ ⟨rfl, ⟨G47, rfl⟩, rfl, -⟩
                        refine r_ex hX hP 2 (pc' := 173) (st' := [(2, this), (2, this)]) (lo' := [(0, (2, this)), (1, (2, happened)), (2, (0, head)), (3, (2, tf1)), (4, (0, l4_h60))]) rfl ?_
                        refine r_getKR hX hP rfl fl_X3_51_133 hS (x := af45) af45e ?_
                        refine r_ex hX hP 2 (pc' := 178) (st' := [(2, tf1), (0, head), (2, af45), (2, this)]) (lo' := [(0, (2, this)), (1, (2, happened)), (2, (0, head)), (3, (2, tf1)), (4, (0, l4_h60))]) rfl ?_
                        refine r_getR hX hP rfl fl_X3_238_136 tf1s (fun rf48 rf48e rf48s => ?_)
                        refine r_ex hX hP 1 (pc' := 183) (st' := [(0, l4_h60), (2, rf48), (0, head), (2, af45), (2, this)]) (lo' := [(0, (2, this)), (1, (2, happened)), (2, (0, head)), (3, (2, tf1)), (4, (0, l4_h60))]) rfl ?_
                        refine r_iald hX hP rfl al_122 rf48s (by first | decide | omega) (by first | decide | omega) (fun x49 x49e x49a x49b => ?_)
                        refine r_callV gd hX hP rfl cv_X3_201_133 hS (d' := 5) (mc' := 0) (ms' := 0) (as' := [(2, af45), (0, head), (0, x49)]) (st := []) (by first | decide | omega) (by first | decide | omega) (by first | decide | omega) rfl rfl (Nat.le_of_ble_eq_true rfl) (c_X3_deal E S (hw [(99, -1)] (hw [(99, -1)] (hw [(97, -1), (99, -1)] (hw [(119, -1), (126, -1), (127, -1)] (hw [(99, -1), (125, -1)] G Gh8) G3) Gh60) G32) G47) this af45 head x49 hS af45s (by first | decide | omega) (by first | decide | omega) (by first | decide | omega) (by first | decide | omega)) ?_
                        rintro _ _ _ ⟨rfl, ⟨G50, rfl⟩, rfl, -⟩
                        refine r_ex hX hP 2 (pc' := 189) (st' := [(2, tf1), (2, this)]) (lo' := [(0, (2, this)), (1, (2, happened)), (2, (0, head)), (3, (2, tf1)), (4, (0, l4_h60))]) rfl ?_
                        refine r_getR hX hP rfl fl_X3_245_136 tf1s (fun qf51 qf51e qf51s => ?_)
                        refine r_ex hX hP 1 (pc' := 194) (st' := [(0, l4_h60), (2, qf51), (2, this)]) (lo' := [(0, (2, this)), (1, (2, happened)), (2, (0, head)), (3, (2, tf1)), (4, (0, l4_h60))]) rfl ?_
                        refine r_iald hX hP rfl al_121 qf51s (by first | decide | omega) (by first | decide | omega) (fun x52 x52e x52a x52b => ?_)
                        have ci54 : CI E S (hw [(97, -1), (99, -1)] (hw [(99, -1)] (hw [(99, -1)] (hw [(97, -1), (99, -1)] (hw [(119, -1), (126, -1), (127, -1)] (hw [(99, -1), (125, -1)] G Gh8) G3) Gh60) G32) G47) G50) := (ci_hw (ci_hw (ci_hw (ci_hw (ci_hw (ci_hw ci rfl) rfl) rfl) rfl) rfl) rfl)
                        have tq53 := ci_tq ci54 tf1s kf27e qf51e x28e x52e (by first | decide | omega) (by first | decide | omega) (by first | decide | omega)
                        refine r_ex hX hP 1 (pc' := 196) (st' := [(0, head), (0, x52), (2, this)]) (lo' := [(0, (2, this)), (1, (2, happened)), (2, (0, head)), (3, (2, tf1)), (4, (0, l4_h60))]) rfl ?_
                        refine r_callV gd hX hP rfl cv_X3_248_133 hS (d' := 1) (mc' := 0) (ms' := 0) (as' := [(0, x52), (0, head)]) (st := []) (by first | decide | omega) (by first | decide | omega) (by first | decide | omega) rfl rfl (Nat.le_of_ble_eq_true rfl) (c_X3_come E S (hw [(97, -1), (99, -1)] (hw [(99, -1)] (hw [(99, -1)] (hw [(97, -1), (99, -1)] (hw [(119, -1), (126, -1), (127, -1)] (hw [(99, -1), (125, -1)] G Gh8) G3) Gh60) G32) G47) G50) this x52 head hS (by first | decide | omega) (by first | decide | omega) (by first | decide | omega) (by first | decide | omega)) ?_
                        rintro _ _ _ ⟨rfl, ⟨G55, rfl⟩, rfl, -⟩
                        refine r_ex hX hP 2 (pc' := 60) (st' := []) (lo' := [(0, (2, this)), (1, (2, happened)), (2, (0, head)), (3, (2, tf1)), (4, (0, (l4_h60 + 1)))]) rfl ?_
                        refine r_eqG (X := X) (hw_sub (hw_sub (hw_sub (hw_sub (hw_base _ _ _) rfl) rfl) rfl) rfl) ?_
                        exact ih60 (l4_h60 + 1) _ (by first | decide | omega) (by first | decide | omega) (by first | decide | omega)
                · skip
                  refine r_ex hX hP 4 (pc' := 95) (st' := [(0, head), (0, l4_h60), (2, tf1), (2, this)]) (lo' := [(0, (2, this)), (1, (2, happened)), (2, (0, head)), (3, (2, tf1)), (4, (0, l4_h60))]) rfl ?_
                  refine r_callV gd hX hP rfl cv_X3_234_133 hS (d' := 1) (mc' := 0) (ms' := 0) (as' := [(2, tf1), (0, l4_h60), (0, head)]) (st := []) (by first | decide | omega) (by first | decide | omega) (by first | decide | omega) rfl rfl (Nat.le_of_ble_eq_true rfl) (c_X3_multiply E S (hw [(97, -1), (99, -1)] (hw [(119, -1), (126, -1), (127, -1)] (hw [(99, -1), (125, -1)] G Gh8) G3) Gh60) this tf1 l4_h60 head hS tf1s (by first | decide | omega) (by first | decide | omega) (by first | decide | omega) (by first | decide | omega)) ?_
                  rintro _ _ _ ⟨rfl, ⟨G56, rfl⟩, z57, rfl, z57a, z57b⟩
                  refine r_ex hX hP 2 (pc' := 100) (st' := [(2, this)]) (lo' := [(0, (2, this)), (1, (2, happened)), (2, (0, head)), (3, (2, tf1)), (4, (0, l4_h60))]) rfl ?_
                  refine r_getR hX hP rfl fl_X3_48_133 hS (fun tf58 tf58e tf58s => ?_)
                  refine r_ex hX hP 1 (pc' := 104) (st' := [(2, tf1), (2, tf58)]) (lo' := [(0, (2, this)), (1, (2, happened)), (2, (0, head)), (3, (2, tf1)), (4, (0, l4_h60))]) rfl ?_
                  refine r_getR hX hP rfl fl_X3_238_136 tf1s (fun rf59 rf59e rf59s => ?_)
                  refine r_ex hX hP 1 (pc' := 109) (st' := [(0, l4_h60), (2, rf59), (2, tf58)]) (lo' := [(0, (2, this)), (1, (2, happened)), (2, (0, head)), (3, (2, tf1)), (4, (0, l4_h60))]) rfl ?_
                  refine r_iald hX hP rfl al_122 rf59s (by first | decide | omega) (by first | decide | omega) (fun x60 x60e x60a x60b => ?_)
                  refine r_aald hX hP rfl al_104 rfl tf58s (by first | decide | omega) (by first | decide | omega) (fun r61 r61e r61s => ?_)
                  refine r_ex hX hP 1 (pc' := 112) (st' := [(2, this), (2, r61)]) (lo' := [(0, (2, this)), (1, (2, happened)), (2, (0, head)), (3, (2, tf1)), (4, (0, l4_h60))]) rfl ?_
                  refine r_getR hX hP rfl fl_X3_51_133 hS (fun af62 af62e af62s => ?_)
                  refine r_ex hX hP 1 (pc' := 116) (st' := [(1, 1), (2, af62), (2, r61)]) (lo' := [(0, (2, this)), (1, (2, happened)), (2, (0, head)), (3, (2, tf1)), (4, (0, l4_h60))]) rfl ?_
                  refine r_callS gd hX hP rfl cs_X3_140 (d' := 0) (mc' := 0) (ms' := 0) (as' := [(2, r61), (2, af62), (1, 1)]) (st := []) (by first | decide | omega) (by first | decide | omega) (by first | decide | omega) rfl rfl (Nat.le_of_ble_eq_true rfl) (c_X3_addTimes E S (hw [(99, -1)] (hw [(97, -1), (99, -1)] (hw [(119, -1), (126, -1), (127, -1)] (hw [(99, -1), (125, -1)] G Gh8) G3) Gh60) G56) r61 af62 1 r61s af62s (by first | decide | omega) (by first | decide | omega)) ?_
                  rintro _ _ _ ⟨rfl, ⟨G63, rfl⟩, rfl, -⟩
                  refine r_ex hX hP 3 (pc' := 60) (st' := []) (lo' := [(0, (2, this)), (1, (2, happened)), (2, (0, head)), (3, (2, tf1)), (4, (0, (l4_h60 + 1)))]) rfl ?_
                  refine r_eqG (X := X) (hw_sub (hw_sub (hw_base _ _ _) rfl) rfl) ?_
                  exact ih60 (l4_h60 + 1) _ (by first | decide | omega) (by first | decide | omega) (by first | decide | omega)
        refine r_eqG (X := X) (hw_refl [(97, -1), (99, -1)] _) ?_
        exact loop60 ((30 - 0) + 1 : Int).toNat 0 _ (by first | decide | omega) (by first | decide | omega) (by first | decide | omega)
      · skip
        refine r_ex hX hP 1 (pc' := 15) (st' := [(2, tf1)]) (lo' := [(0, (2, this)), (1, (2, happened)), (2, (0, head)), (3, (2, tf1)), (4, (0, l4_h8))]) rfl ?_
        refine r_getR hX hP rfl fl_X3_219_136 tf1s (fun hf64 hf64e hf64s => ?_)
        refine r_ex hX hP 2 (pc' := 21) (st' := [(2, this), (0, l4_h8), (2, hf64)]) (lo' := [(0, (2, this)), (1, (2, happened)), (2, (0, head)), (3, (2, tf1)), (4, (0, l4_h8))]) rfl ?_
        refine r_getR hX hP rfl fl_X3_19_133 hS (fun af65 af65e af65s => ?_)
        refine r_ex hX hP 5 (pc' := 31) (st' := [(0, ((l4_h8 * 20) + head)), (2, af65), (0, l4_h8), (2, hf64)]) (lo' := [(0, (2, this)), (1, (2, happened)), (2, (0, head)), (3, (2, tf1)), (4, (0, l4_h8))]) rfl ?_
        refine r_aald hX hP rfl al_101 rfl af65s (by first | decide | omega) (by first | decide | omega) (fun r66 r66e r66s => ?_)
        refine r_callS gd hX hP rfl cs_X3_208 (d' := 0) (mc' := 0) (ms' := 0) (as' := [(2, r66)]) (st := [(0, l4_h8), (2, hf64)]) (by first | decide | omega) (by first | decide | omega) (by first | decide | omega) rfl rfl (Nat.le_of_ble_eq_true rfl) (c_X3_cutToLong E S (hw [(99, -1), (125, -1)] G Gh8) r66 r66s) ?_
        rintro _ _ _ ⟨rfl, rfl, z67, rfl, z67a, z67b⟩
        refine r_lastK hX hP rfl al_125 hf64s (by first | decide | omega) (by first | decide | omega) (by first | decide | omega) (by first | decide | omega) (fun h68 => ?_)
        refine r_ex hX hP 1 (pc' := 37) (st' := [(2, this)]) (lo' := [(0, (2, this)), (1, (2, happened)), (2, (0, head)), (3, (2, tf1)), (4, (0, l4_h8))]) rfl ?_
        refine r_getR hX hP rfl fl_X3_48_133 hS (fun tf69 tf69e tf69s => ?_)
        refine r_ex hX hP 1 (pc' := 42) (st' := [(0, l4_h8), (2, tf69)]) (lo' := [(0, (2, this)), (1, (2, happened)), (2, (0, head)), (3, (2, tf1)), (4, (0, l4_h8))]) rfl ?_
        refine r_aald hX hP rfl al_104 rfl tf69s (by first | decide | omega) (by first | decide | omega) (fun r70 r70e r70s => ?_)
        refine r_ex hX hP 1 (pc' := 44) (st' := [(1, 0), (2, r70)]) (lo' := [(0, (2, this)), (1, (2, happened)), (2, (0, head)), (3, (2, tf1)), (4, (0, l4_h8))]) rfl ?_
        refine r_callS gd hX hP rfl cs_X3_67 (d' := 0) (mc' := 0) (ms' := 0) (as' := [(2, r70), (1, 0)]) (st := []) (by first | decide | omega) (by first | decide | omega) (by first | decide | omega) rfl rfl (Nat.le_of_ble_eq_true rfl) (c_X3_put E S (up (hw [(99, -1), (125, -1)] G Gh8) 125 hf64 l4_h8 z67) r70 0 r70s (by first | decide | omega) (by first | decide | omega)) ?_
        rintro _ _ _ ⟨rfl, ⟨G71, rfl⟩, rfl, -⟩
        refine r_ex hX hP 2 (pc' := 8) (st' := []) (lo' := [(0, (2, this)), (1, (2, happened)), (2, (0, head)), (3, (2, tf1)), (4, (0, (l4_h8 + 1)))]) rfl ?_
        refine r_eqG (X := X) (hw_sub (hw_up (hw_base _ _ _) rfl) rfl) ?_
        exact ih8 (l4_h8 + 1) _ (by first | decide | omega) (by first | decide | omega) (by first | decide | omega)
  refine r_eqG (X := X) (hw_refl [(99, -1), (125, -1)] _) ?_
  exact loop8 ((4 - 0) + 1 : Int).toNat 0 _ (by first | decide | omega) (by first | decide | omega) (by first | decide | omega)
set_option maxRecDepth 100000 in
set_option maxHeartbeats 4000000 in
theorem c_X3_happen (E : En) (S : Sg) (G : Gh) (this : Int) (run : Int) (number : Int) (hS : S this = 133) (run_s : S run = 129) (evl : Int) (evl_e : evl = G 129 run 12) (evl_s : S evl = 156) (evn : Int) (evn_e : evn = G 156 evl 2) (number_a : 0 ≤ number) (number_b : number ≤ 15) (pre0 : number + 1 ≤ evn) (ci : CI E S G) : Calls E mX3_happen [(2, this), (2, run), (0, number)] S G 7 0 0 (fun r S' G' => S = S' ∧ (∃ G1, hw [(95, -1), (97, -1), (99, -1), (119, -1), (125, -1), (126, -1), (127, -1)] G G1 = G') ∧ r = none ∧ True) := by
  refine calls_by [(0, (2, this)), (1, (2, run)), (2, (0, number))] rfl rfl (Nat.le_of_ble_eq_true rfl) (fun X hX => ?_)
  have hP := hPX3_happen
  refine r_peekI hX (tl_156 2 rfl (by decide)) evl_s (fun evn_o evn_oe evn_oa evn_ob => ?_)
  obtain rfl : evn = evn_o := evn_e.trans evn_oe.symm
  refine r_ex hX hP 1 (pc' := 1) (st' := [(2, run)]) (lo' := [(0, (2, this)), (1, (2, run)), (2, (0, number))]) rfl ?_
  refine r_getKR hX hP rfl fl_X3_124_129 run_s (x := evl) evl_e ?_
  refine r_ex hX hP 1 (pc' := 5) (st' := [(0, number), (2, evl)]) (lo' := [(0, (2, this)), (1, (2, run)), (2, (0, number))]) rfl ?_
  refine r_callV gd hX hP rfl cv_X3_104_156 evl_s (d' := 2) (mc' := 0) (ms' := 0) (as' := [(0, number)]) (st := []) (by first | decide | omega) (by first | decide | omega) (by first | decide | omega) rfl rfl (Nat.le_of_ble_eq_true rfl) (c_get_Lev E S G evl number evl_s evn evn_e (by first | decide | omega) (by first | decide | omega) (by first | decide | omega) ci) ?_
  rintro _ _ _ ⟨rfl, rfl, z1, rfl, z1s⟩
  refine r_cast hX hP rfl (tbg sg6 127 rfl rfl) ck_137_X2 z1s ?_
  refine r_ex hX hP 3 (pc' := 15) (st' := []) (lo' := [(0, (2, this)), (1, (2, run)), (2, (0, number)), (3, (2, z1)), (4, (0, 0))]) rfl ?_
  have loop15 : ∀ (nF : Nat) (l4_h15 : Int) (Gh15 : Gh), 0 ≤ l4_h15 → l4_h15 ≤ 80 → 80 - l4_h15 < (nF : Int) → X 0 0 15 [] [(0, (2, this)), (1, (2, run)), (2, (0, number)), (3, (2, z1)), (4, (0, l4_h15))] S (hw [(99, -1)] G Gh15) := by
    intro nF
    induction nF with
    | zero => intro l4_h15 Gh15 yh15_0 yh15_1 ym15; exfalso; omega
    | succ nF ih15 =>
      intro l4_h15 Gh15 yh15_0 yh15_1 ym15
      refine r_ex hX hP 2 (pc' := 19) (st' := [(0, 80), (0, l4_h15)]) (lo' := [(0, (2, this)), (1, (2, run)), (2, (0, number)), (3, (2, z1)), (4, (0, l4_h15))]) rfl ?_
      refine r_ic_ge hX hP rfl (tgt := 39) rfl (by first | decide | omega) (by first | decide | omega) (by first | decide | omega) (by first | decide | omega) (fun c2 => ?_) (fun c2 => ?_)
      · skip
        refine r_ex hX hP 2 (pc' := 42) (st' := []) (lo' := [(0, (2, this)), (1, (2, run)), (2, (0, number)), (3, (2, z1)), (4, (0, 0))]) rfl ?_
        have loop42 : ∀ (nF : Nat) (l4_h42 : Int) (Gh42 : Gh), 0 ≤ l4_h42 → l4_h42 ≤ 20 → 20 - l4_h42 < (nF : Int) → X 0 0 42 [] [(0, (2, this)), (1, (2, run)), (2, (0, number)), (3, (2, z1)), (4, (0, l4_h42))] S (hw [(99, -1)] (hw [(99, -1)] G Gh15) Gh42) := by
          intro nF
          induction nF with
          | zero => intro l4_h42 Gh42 yh42_0 yh42_1 ym42; exfalso; omega
          | succ nF ih42 =>
            intro l4_h42 Gh42 yh42_0 yh42_1 ym42
            refine r_ex hX hP 2 (pc' := 45) (st' := [(2, this), (0, l4_h42)]) (lo' := [(0, (2, this)), (1, (2, run)), (2, (0, number)), (3, (2, z1)), (4, (0, l4_h42))]) rfl ?_
            refine r_getR hX hP rfl fl_X3_63_133 hS (fun af3 af3e af3s => ?_)
            refine r_getI hX hP rfl fl_X3_157_130 af3s (fun cf4 cf4e cf4a cf4b => ?_)
            refine r_ic_ge hX hP rfl (tgt := 130) rfl (by first | decide | omega) (by first | decide | omega) (by first | decide | omega) (by first | decide | omega) (fun c5 => ?_) (fun c5 => ?_)
            · skip
              refine r_ex hX hP 1 (pc' := 131) (st' := [(2, this)]) (lo' := [(0, (2, this)), (1, (2, run)), (2, (0, number)), (3, (2, z1)), (4, (0, l4_h42))]) rfl ?_
              refine r_callV gd hX hP rfl cv_X3_168_133 hS (d' := 4) (mc' := 0) (ms' := 0) (as' := []) (st := []) (by first | decide | omega) (by first | decide | omega) (by first | decide | omega) rfl rfl (Nat.le_of_ble_eq_true rfl) (c_X3_addUpRows E S (hw [(99, -1)] (hw [(99, -1)] G Gh15) Gh42) this  hS) ?_
              rintro _ _ _ ⟨rfl, ⟨G6, rfl⟩, rfl, -⟩
              refine r_ex hX hP 2 (pc' := 136) (st' := [(2, z1), (2, this)]) (lo' := [(0, (2, this)), (1, (2, run)), (2, (0, number)), (3, (2, z1)), (4, (0, l4_h42))]) rfl ?_
              refine r_getR hX hP rfl fl_X3_171_137 z1s (fun tf7 tf7e tf7s => ?_)
              refine r_callV gd hX hP rfl cv_X3_175_133 hS (d' := 6) (mc' := 0) (ms' := 0) (as' := [(2, tf7)]) (st := []) (by first | decide | omega) (by first | decide | omega) (by first | decide | omega) rfl rfl (Nat.le_of_ble_eq_true rfl) (c_X3_cutBack E S (hw [(99, -1)] (hw [(99, -1)] (hw [(99, -1)] G Gh15) Gh42) G6) this tf7 hS tf7s) ?_
              rintro _ _ _ ⟨rfl, ⟨G8, rfl⟩, rfl, -⟩
              refine r_ex hX hP 1 (pc' := 143) (st' := [(2, this)]) (lo' := [(0, (2, this)), (1, (2, run)), (2, (0, number)), (3, (2, z1)), (4, (0, l4_h42))]) rfl ?_
              refine r_callV gd hX hP rfl cv_X3_168_133 hS (d' := 4) (mc' := 0) (ms' := 0) (as' := []) (st := []) (by first | decide | omega) (by first | decide | omega) (by first | decide | omega) rfl rfl (Nat.le_of_ble_eq_true rfl) (c_X3_addUpRows E S (hw [(95, -1), (97, -1), (99, -1)] (hw [(99, -1)] (hw [(99, -1)] (hw [(99, -1)] G Gh15) Gh42) G6) G8) this  hS) ?_
              rintro _ _ _ ⟨rfl, ⟨G9, rfl⟩, rfl, -⟩
              refine r_ex hX hP 2 (pc' := 149) (st' := []) (lo' := [(0, (2, this)), (1, (2, run)), (2, (0, number)), (3, (2, z1)), (4, (0, 0))]) rfl ?_
              have loop149 : ∀ (nF : Nat) (l4_h149 : Int) (Gh149 : Gh), 0 ≤ l4_h149 → l4_h149 ≤ 20 → 20 - l4_h149 < (nF : Int) → X 0 0 149 [] [(0, (2, this)), (1, (2, run)), (2, (0, number)), (3, (2, z1)), (4, (0, l4_h149))] S (hw [(97, -1), (99, -1), (119, -1), (125, -1), (126, -1), (127, -1)] (hw [(99, -1)] (hw [(95, -1), (97, -1), (99, -1)] (hw [(99, -1)] (hw [(99, -1)] (hw [(99, -1)] G Gh15) Gh42) G6) G8) G9) Gh149) := by
                intro nF
                induction nF with
                | zero => intro l4_h149 Gh149 yh149_0 yh149_1 ym149; exfalso; omega
                | succ nF ih149 =>
                  intro l4_h149 Gh149 yh149_0 yh149_1 ym149
                  refine r_ex hX hP 2 (pc' := 152) (st' := [(2, this), (0, l4_h149)]) (lo' := [(0, (2, this)), (1, (2, run)), (2, (0, number)), (3, (2, z1)), (4, (0, l4_h149))]) rfl ?_
                  refine r_getKR hX hP rfl fl_X3_63_133 hS (x := af3) af3e ?_
                  refine r_getKI hX hP rfl fl_X3_157_130 af3s (x := cf4) cf4e ?_
                  refine r_ic_ge hX hP rfl (tgt := 189) rfl (by first | decide | omega) (by first | decide | omega) (by first | decide | omega) (by first | decide | omega) (fun c10 => ?_) (fun c10 => ?_)
                  · skip
                    exact r_retV hX hP rfl rfl (by first | decide | omega) (by first | decide | omega) ⟨rfl, ⟨_, (hw_sub (hw_sub (hw_sub (hw_sub (hw_sub (hw_sub (hw_refl _ _) rfl) rfl) rfl) rfl) rfl) rfl).symm⟩, rfl, trivial⟩
                  · skip
                    refine r_ex hX hP 1 (pc' := 162) (st' := [(2, this)]) (lo' := [(0, (2, this)), (1, (2, run)), (2, (0, number)), (3, (2, z1)), (4, (0, l4_h149))]) rfl ?_
                    refine r_getKR hX hP rfl fl_X3_63_133 hS (x := af3) af3e ?_
                    refine r_getR hX hP rfl fl_X3_179_130 af3s (fun tf11 tf11e tf11s => ?_)
                    refine r_ex hX hP 1 (pc' := 170) (st' := [(0, l4_h149), (2, tf11)]) (lo' := [(0, (2, this)), (1, (2, run)), (2, (0, number)), (3, (2, z1)), (4, (0, l4_h149))]) rfl ?_
                    refine r_iald hX hP rfl al_94 tf11s (by first | decide | omega) (by first | decide | omega) (fun x12 x12e x12a x12b => ?_)
                    refine r_ex hX hP 1 (pc' := 173) (st' := [(0, l4_h149), (0, x12)]) (lo' := [(0, (2, this)), (1, (2, run)), (2, (0, number)), (3, (2, z1)), (4, (0, l4_h149))]) rfl ?_
                    refine r_ic_ne hX hP rfl (tgt := 183) rfl (by first | decide | omega) (by first | decide | omega) (by first | decide | omega) (by first | decide | omega) (fun c13 => ?_) (fun c13 => ?_)
                    · skip
                      refine r_ex hX hP 2 (pc' := 149) (st' := []) (lo' := [(0, (2, this)), (1, (2, run)), (2, (0, number)), (3, (2, z1)), (4, (0, (l4_h149 + 1)))]) rfl ?_
                      refine r_eqG (X := X) (hw_base _ _ _) ?_
                      exact ih149 (l4_h149 + 1) _ (by first | decide | omega) (by first | decide | omega) (by first | decide | omega)
                    · skip
                      refine r_ex hX hP 3 (pc' := 180) (st' := [(0, l4_h149), (2, z1), (2, this)]) (lo' := [(0, (2, this)), (1, (2, run)), (2, (0, number)), (3, (2, z1)), (4, (0, l4_h149))]) rfl ?_
                      have ci14 : CI E S (hw [(97, -1), (99, -1), (119, -1), (125, -1), (126, -1), (127, -1)] (hw [(99, -1)] (hw [(95, -1), (97, -1), (99, -1)] (hw [(99, -1)] (hw [(99, -1)] (hw [(99, -1)] G Gh15) Gh42) G6) G8) G9) Gh149) := (ci_hw (ci_hw (ci_hw (ci_hw (ci_hw (ci_hw ci rfl) rfl) rfl) rfl) rfl) rfl)
                      refine r_callV gd hX hP rfl cv_X3_182_133 hS (d' := 6) (mc' := 0) (ms' := 0) (as' := [(2, z1), (0, l4_h149)]) (st := []) (by first | decide | omega) (by first | decide | omega) (by first | decide | omega) rfl rfl (Nat.le_of_ble_eq_true rfl) (c_X3_serve E S (hw [(97, -1), (99, -1), (119, -1), (125, -1), (126, -1), (127, -1)] (hw [(99, -1)] (hw [(95, -1), (97, -1), (99, -1)] (hw [(99, -1)] (hw [(99, -1)] (hw [(99, -1)] G Gh15) Gh42) G6) G8) G9) Gh149) this z1 l4_h149 hS z1s (by first | decide | omega) (by first | decide | omega) ci14) ?_
                      rintro _ _ _ ⟨rfl, ⟨G15, rfl⟩, rfl, -⟩
                      refine r_ex hX hP 2 (pc' := 149) (st' := []) (lo' := [(0, (2, this)), (1, (2, run)), (2, (0, number)), (3, (2, z1)), (4, (0, (l4_h149 + 1)))]) rfl ?_
                      refine r_eqG (X := X) (hw_sub (hw_base _ _ _) rfl) ?_
                      exact ih149 (l4_h149 + 1) _ (by first | decide | omega) (by first | decide | omega) (by first | decide | omega)
              refine r_eqG (X := X) (hw_refl [(97, -1), (99, -1), (119, -1), (125, -1), (126, -1), (127, -1)] _) ?_
              exact loop149 ((20 - 0) + 1 : Int).toNat 0 _ (by first | decide | omega) (by first | decide | omega) (by first | decide | omega)
            · skip
              refine r_ex hX hP 1 (pc' := 55) (st' := [(2, this)]) (lo' := [(0, (2, this)), (1, (2, run)), (2, (0, number)), (3, (2, z1)), (4, (0, l4_h42))]) rfl ?_
              refine r_getR hX hP rfl fl_X3_11_133 hS (fun hf16 hf16e hf16s => ?_)
              refine r_ex hX hP 1 (pc' := 59) (st' := [(2, z1), (2, hf16)]) (lo' := [(0, (2, this)), (1, (2, run)), (2, (0, number)), (3, (2, z1)), (4, (0, l4_h42))]) rfl ?_
              refine r_getI hX hP rfl fl_X3_160_137 z1s (fun pf17 pf17e pf17a pf17b => ?_)
              refine r_ex hX hP 4 (pc' := 68) (st' := [(0, ((pf17 * 20) + l4_h42)), (2, hf16)]) (lo' := [(0, (2, this)), (1, (2, run)), (2, (0, number)), (3, (2, z1)), (4, (0, l4_h42))]) rfl ?_
              refine r_aald hX hP rfl al_100 rfl hf16s (by first | decide | omega) (by first | decide | omega) (fun r18 r18e r18s => ?_)
              refine r_ex hX hP 3 (pc' := 74) (st' := [(2, this), (2, r18)]) (lo' := [(0, (2, this)), (1, (2, run)), (2, (0, number)), (3, (2, z1)), (4, (0, l4_h42)), (5, (2, r18))]) rfl ?_
              refine r_getR hX hP rfl fl_X3_16_133 hS (fun mf19 mf19e mf19s => ?_)
              refine r_ex hX hP 3 (pc' := 82) (st' := [(0, (60 + l4_h42)), (2, mf19), (2, r18)]) (lo' := [(0, (2, this)), (1, (2, run)), (2, (0, number)), (3, (2, z1)), (4, (0, l4_h42)), (5, (2, r18))]) rfl ?_
              refine r_aald hX hP rfl al_101 rfl mf19s (by first | decide | omega) (by first | decide | omega) (fun r20 r20e r20s => ?_)
              refine r_callS gd hX hP rfl cs_X3_161 (d' := 3) (mc' := 0) (ms' := 0) (as' := [(2, r18), (2, r20)]) (st := []) (by first | decide | omega) (by first | decide | omega) (by first | decide | omega) rfl rfl (Nat.le_of_ble_eq_true rfl) (c_X3_copy E S (hw [(99, -1)] (hw [(99, -1)] G Gh15) Gh42) r18 r20 r18s r20s) ?_
              rintro _ _ _ ⟨rfl, ⟨G21, rfl⟩, rfl, -⟩
              refine r_ex hX hP 3 (pc' := 90) (st' := [(0, l4_h42), (0, number), (2, run)]) (lo' := [(0, (2, this)), (1, (2, run)), (2, (0, number)), (3, (2, z1)), (4, (0, l4_h42)), (5, (2, r18))]) rfl ?_
              have ci22 : CI E S (hw [(99, -1)] (hw [(99, -1)] (hw [(99, -1)] G Gh15) Gh42) G21) := (ci_hw (ci_hw (ci_hw ci rfl) rfl) rfl)
              refine r_callV gd hX hP rfl cv_X3_164_129 run_s (d' := 3) (mc' := 0) (ms' := 0) (as' := [(0, number), (0, l4_h42)]) (st := []) (by first | decide | omega) (by first | decide | omega) (by first | decide | omega) rfl rfl (Nat.le_of_ble_eq_true rfl) (c_X8_choiceOf E S (hw [(99, -1)] (hw [(99, -1)] (hw [(99, -1)] G Gh15) Gh42) G21) run number l4_h42 run_s evl evl_e evl_s evn evn_e (by first | decide | omega) (by first | decide | omega) (by first | decide | omega) (by first | decide | omega) (by first | decide | omega) ci22) ?_
              rintro _ _ _ ⟨rfl, rfl, z23, rfl, z23a, z23b⟩
              refine r_ex hX hP 2 (pc' := 97) (st' := [(0, z23)]) (lo' := [(0, (2, this)), (1, (2, run)), (2, (0, number)), (3, (2, z1)), (4, (0, l4_h42)), (5, (2, r18)), (6, (0, z23))]) rfl ?_
              refine r_if_lt hX hP rfl (tgt := 124) rfl (by first | decide | omega) (by first | decide | omega) (fun c24 => ?_) (fun c24 => ?_)
              · skip
                refine r_ex hX hP 2 (pc' := 42) (st' := []) (lo' := [(0, (2, this)), (1, (2, run)), (2, (0, number)), (3, (2, z1)), (4, (0, (l4_h42 + 1))), (5, (2, r18)), (6, (0, z23))]) rfl ?_
                refine r_pick hX [0, 1, 2, 3, 4] (lo' := [(0, (2, this)), (1, (2, run)), (2, (0, number)), (3, (2, z1)), (4, (0, (l4_h42 + 1)))]) rfl ?_
                refine r_eqG (X := X) (hw_sub (hw_base _ _ _) rfl) ?_
                exact ih42 (l4_h42 + 1) _ (by first | decide | omega) (by first | decide | omega) (by first | decide | omega)
              · skip
                refine r_ex hX hP 2 (pc' := 103) (st' := [(0, 3), (0, z23)]) (lo' := [(0, (2, this)), (1, (2, run)), (2, (0, number)), (3, (2, z1)), (4, (0, l4_h42)), (5, (2, r18)), (6, (0, z23))]) rfl ?_
                refine r_ic_ge hX hP rfl (tgt := 124) rfl (by first | decide | omega) (by first | decide | omega) (by first | decide | omega) (by first | decide | omega) (fun c25 => ?_) (fun c25 => ?_)
                · skip
                  exfalso; omega
                · skip
                  refine r_ex hX hP 2 (pc' := 109) (st' := [(2, this), (2, r18)]) (lo' := [(0, (2, this)), (1, (2, run)), (2, (0, number)), (3, (2, z1)), (4, (0, l4_h42)), (5, (2, r18)), (6, (0, z23))]) rfl ?_
                  refine r_getKR hX hP rfl fl_X3_16_133 hS (x := mf19) mf19e ?_
                  refine r_ex hX hP 5 (pc' := 120) (st' := [(0, ((z23 * 20) + l4_h42)), (2, mf19), (2, r18)]) (lo' := [(0, (2, this)), (1, (2, run)), (2, (0, number)), (3, (2, z1)), (4, (0, l4_h42)), (5, (2, r18)), (6, (0, z23))]) rfl ?_
                  refine r_aald hX hP rfl al_101 rfl mf19s (by first | decide | omega) (by first | decide | omega) (fun r26 r26e r26s => ?_)
                  refine r_callS gd hX hP rfl cs_X3_161 (d' := 3) (mc' := 0) (ms' := 0) (as' := [(2, r18), (2, r26)]) (st := []) (by first | decide | omega) (by first | decide | omega) (by first | decide | omega) rfl rfl (Nat.le_of_ble_eq_true rfl) (c_X3_copy E S (hw [(99, -1)] (hw [(99, -1)] (hw [(99, -1)] G Gh15) Gh42) G21) r18 r26 r18s r26s) ?_
                  rintro _ _ _ ⟨rfl, ⟨G27, rfl⟩, rfl, -⟩
                  refine r_ex hX hP 2 (pc' := 42) (st' := []) (lo' := [(0, (2, this)), (1, (2, run)), (2, (0, number)), (3, (2, z1)), (4, (0, (l4_h42 + 1))), (5, (2, r18)), (6, (0, z23))]) rfl ?_
                  refine r_pick hX [0, 1, 2, 3, 4] (lo' := [(0, (2, this)), (1, (2, run)), (2, (0, number)), (3, (2, z1)), (4, (0, (l4_h42 + 1)))]) rfl ?_
                  refine r_eqG (X := X) (hw_sub (hw_sub (hw_base _ _ _) rfl) rfl) ?_
                  exact ih42 (l4_h42 + 1) _ (by first | decide | omega) (by first | decide | omega) (by first | decide | omega)
        refine r_eqG (X := X) (hw_refl [(99, -1)] _) ?_
        exact loop42 ((20 - 0) + 1 : Int).toNat 0 _ (by first | decide | omega) (by first | decide | omega) (by first | decide | omega)
      · skip
        refine r_ex hX hP 1 (pc' := 23) (st' := [(2, this)]) (lo' := [(0, (2, this)), (1, (2, run)), (2, (0, number)), (3, (2, z1)), (4, (0, l4_h15))]) rfl ?_
        refine r_getR hX hP rfl fl_X3_16_133 hS (fun mf28 mf28e mf28s => ?_)
        refine r_ex hX hP 1 (pc' := 28) (st' := [(0, l4_h15), (2, mf28)]) (lo' := [(0, (2, this)), (1, (2, run)), (2, (0, number)), (3, (2, z1)), (4, (0, l4_h15))]) rfl ?_
        refine r_aald hX hP rfl al_101 rfl mf28s (by first | decide | omega) (by first | decide | omega) (fun r29 r29e r29s => ?_)
        refine r_ex hX hP 1 (pc' := 30) (st' := [(1, 0), (2, r29)]) (lo' := [(0, (2, this)), (1, (2, run)), (2, (0, number)), (3, (2, z1)), (4, (0, l4_h15))]) rfl ?_
        refine r_callS gd hX hP rfl cs_X3_67 (d' := 0) (mc' := 0) (ms' := 0) (as' := [(2, r29), (1, 0)]) (st := []) (by first | decide | omega) (by first | decide | omega) (by first | decide | omega) rfl rfl (Nat.le_of_ble_eq_true rfl) (c_X3_put E S (hw [(99, -1)] G Gh15) r29 0 r29s (by first | decide | omega) (by first | decide | omega)) ?_
        rintro _ _ _ ⟨rfl, ⟨G30, rfl⟩, rfl, -⟩
        refine r_ex hX hP 2 (pc' := 15) (st' := []) (lo' := [(0, (2, this)), (1, (2, run)), (2, (0, number)), (3, (2, z1)), (4, (0, (l4_h15 + 1)))]) rfl ?_
        refine r_eqG (X := X) (hw_sub (hw_base _ _ _) rfl) ?_
        exact ih15 (l4_h15 + 1) _ (by first | decide | omega) (by first | decide | omega) (by first | decide | omega)
  refine r_eqG (X := X) (hw_refl [(99, -1)] _) ?_
  exact loop15 ((80 - 0) + 1 : Int).toNat 0 _ (by first | decide | omega) (by first | decide | omega) (by first | decide | omega)
set_option maxRecDepth 100000 in
set_option maxHeartbeats 4000000 in
theorem c_X3_goOn (E : En) (S : Sg) (G : Gh) (this : Int) (run : Int) (hS : S this = 133) (run_s : S run = 129) (ci : CI E S G) : Calls E mX3_goOn [(2, this), (2, run)] S G 8 0 0 (fun r S' G' => S = S' ∧ (∃ G1, hw [(95, -1), (97, -1), (99, -1), (115, -1), (119, -1), (125, -1), (126, -1), (127, -1)] G G1 = G') ∧ r = none ∧ True) := by
  refine calls_by [(0, (2, this)), (1, (2, run))] rfl rfl (Nat.le_of_ble_eq_true rfl) (fun X hX => ?_)
  have hP := hPX3_goOn
  refine r_ex hX hP 2 (pc' := 2) (st' := []) (lo' := [(0, (2, this)), (1, (2, run)), (2, (0, 0))]) rfl ?_
  have loop2 : ∀ (nF : Nat) (l2_h2 : Int) (Gh2 : Gh), 0 ≤ l2_h2 → l2_h2 ≤ 20 → 20 - l2_h2 < (nF : Int) → X 0 0 2 [] [(0, (2, this)), (1, (2, run)), (2, (0, l2_h2))] S (hw [(99, -1)] G Gh2) := by
    intro nF
    induction nF with
    | zero => intro l2_h2 Gh2 yh2_0 yh2_1 ym2; exfalso; omega
    | succ nF ih2 =>
      intro l2_h2 Gh2 yh2_0 yh2_1 ym2
      refine r_ex hX hP 2 (pc' := 5) (st' := [(0, 20), (0, l2_h2)]) (lo' := [(0, (2, this)), (1, (2, run)), (2, (0, l2_h2))]) rfl ?_
      refine r_ic_ge hX hP rfl (tgt := 50) rfl (by first | decide | omega) (by first | decide | omega) (by first | decide | omega) (by first | decide | omega) (fun c1 => ?_) (fun c1 => ?_)
      · skip
        refine r_ex hX hP 1 (pc' := 51) (st' := [(2, run)]) (lo' := [(0, (2, this)), (1, (2, run)), (2, (0, l2_h2))]) rfl ?_
        refine r_ngetI hX hP rfl fl_X3_84_129 run_s (fun nf2 nf2e nf2a nf2b => ?_)
        refine r_ex hX hP 1 (pc' := 55) (st' := []) (lo' := [(0, (2, this)), (1, (2, run)), (2, (0, nf2))]) rfl ?_
        have loop55 : ∀ (nF : Nat) (l2_h55 : Int) (Gh55 : Gh), 0 ≤ l2_h55 → l2_h55 ≤ 96 → 96 - l2_h55 < (nF : Int) → X 0 0 55 [] [(0, (2, this)), (1, (2, run)), (2, (0, l2_h55))] S (hw [(95, -1), (97, -1), (99, -1), (115, -1), (119, -1), (125, -1), (126, -1), (127, -1)] (hw [(99, -1)] G Gh2) Gh55) := by
          intro nF
          induction nF with
          | zero => intro l2_h55 Gh55 yh55_0 yh55_1 ym55; exfalso; omega
          | succ nF ih55 =>
            intro l2_h55 Gh55 yh55_0 yh55_1 ym55
            refine r_ex hX hP 2 (pc' := 57) (st' := [(2, run), (0, l2_h55)]) (lo' := [(0, (2, this)), (1, (2, run)), (2, (0, l2_h55))]) rfl ?_
            refine r_ngetI hX hP rfl fl_X3_88_129 run_s (fun cf3 cf3e cf3a cf3b => ?_)
            refine r_ic_ge hX hP rfl (tgt := 194) rfl (by first | decide | omega) (by first | decide | omega) (by first | decide | omega) (by first | decide | omega) (fun c4 => ?_) (fun c4 => ?_)
            · skip
              exact r_retV hX hP rfl rfl (by first | decide | omega) (by first | decide | omega) ⟨rfl, ⟨_, (hw_sub (hw_sub (hw_refl _ _) rfl) rfl).symm⟩, rfl, trivial⟩
            · skip
              refine r_ex hX hP 1 (pc' := 64) (st' := [(2, run)]) (lo' := [(0, (2, this)), (1, (2, run)), (2, (0, l2_h55))]) rfl ?_
              refine r_ngetR hX hP rfl fl_X3_91_129 run_s (fun of5 of5e of5s => ?_)
              refine r_ex hX hP 1 (pc' := 68) (st' := [(0, l2_h55), (2, of5)]) (lo' := [(0, (2, this)), (1, (2, run)), (2, (0, l2_h55))]) rfl ?_
              refine r_iald hX hP rfl al_118 of5s (by first | decide | omega) (by first | decide | omega) (fun x6 x6e x6a x6b => ?_)
              refine r_ex hX hP 1 (pc' := 71) (st' := [(0, 64), (0, x6)]) (lo' := [(0, (2, this)), (1, (2, run)), (2, (0, l2_h55))]) rfl ?_
              refine r_idiv hX hP rfl (by first | decide | omega) (by first | decide | omega) (by first | decide | omega) (by first | decide | omega) (by first | decide | omega) ?_
              obtain ⟨q7, q7e⟩ : ∃ q : Int, q = (Int.tdiv x6 64) := ⟨_, rfl⟩
              rw [← q7e]
              have q7b := td_pos q7e (by first | decide | omega) (by first | decide | omega)
              refine r_ex hX hP 1 (pc' := 73) (st' := [(0, 4), (0, q7)]) (lo' := [(0, (2, this)), (1, (2, run)), (2, (0, l2_h55))]) rfl ?_
              refine r_irem hX hP rfl (by first | decide | omega) (by first | decide | omega) (by first | decide | omega) (by first | decide | omega) (by first | decide | omega) ?_
              obtain ⟨q8, q8e⟩ : ∃ q : Int, q = (Int.tmod q7 4) := ⟨_, rfl⟩
              rw [← q8e]
              have q8b := tm_pos q8e (by first | decide | omega) (by first | decide | omega)
              refine r_ex hX hP 2 (pc' := 76) (st' := [(2, run)]) (lo' := [(0, (2, this)), (1, (2, run)), (2, (0, l2_h55)), (3, (0, q8))]) rfl ?_
              refine r_ngetKR hX hP rfl fl_X3_91_129 run_s (x := of5) of5e ?_
              refine r_ex hX hP 1 (pc' := 80) (st' := [(0, l2_h55), (2, of5)]) (lo' := [(0, (2, this)), (1, (2, run)), (2, (0, l2_h55)), (3, (0, q8))]) rfl ?_
              refine r_ialdK hX hP rfl al_118 of5s (by first | decide | omega) (by first | decide | omega) (x := x6) x6e ?_
              refine r_ex hX hP 1 (pc' := 83) (st' := [(0, 64), (0, x6)]) (lo' := [(0, (2, this)), (1, (2, run)), (2, (0, l2_h55)), (3, (0, q8))]) rfl ?_
              refine r_irem hX hP rfl (by first | decide | omega) (by first | decide | omega) (by first | decide | omega) (by first | decide | omega) (by first | decide | omega) ?_
              obtain ⟨q9, q9e⟩ : ∃ q : Int, q = (Int.tmod x6 64) := ⟨_, rfl⟩
              rw [← q9e]
              have q9b := tm_pos q9e (by first | decide | omega) (by first | decide | omega)
              refine r_ex hX hP 2 (pc' := 87) (st' := [(0, q8)]) (lo' := [(0, (2, this)), (1, (2, run)), (2, (0, l2_h55)), (3, (0, q8)), (4, (0, q9))]) rfl ?_
              refine r_if_ne hX hP rfl (tgt := 121) rfl (by first | decide | omega) (by first | decide | omega) (fun c10 => ?_) (fun c10 => ?_)
              · skip
                refine r_ex hX hP 2 (pc' := 123) (st' := [(0, 1), (0, q8)]) (lo' := [(0, (2, this)), (1, (2, run)), (2, (0, l2_h55)), (3, (0, q8)), (4, (0, q9))]) rfl ?_
                refine r_ic_ne hX hP rfl (tgt := 164) rfl (by first | decide | omega) (by first | decide | omega) (by first | decide | omega) (by first | decide | omega) (fun c11 => ?_) (fun c11 => ?_)
                · skip
                  refine r_ex hX hP 2 (pc' := 166) (st' := [(0, 2), (0, q8)]) (lo' := [(0, (2, this)), (1, (2, run)), (2, (0, l2_h55)), (3, (0, q8)), (4, (0, q9))]) rfl ?_
                  refine r_ic_ne hX hP rfl (tgt := 188) rfl (by first | decide | omega) (by first | decide | omega) (by first | decide | omega) (by first | decide | omega) (fun c12 => ?_) (fun c12 => ?_)
                  · skip
                    refine r_ex hX hP 2 (pc' := 55) (st' := []) (lo' := [(0, (2, this)), (1, (2, run)), (2, (0, (l2_h55 + 1))), (3, (0, q8)), (4, (0, q9))]) rfl ?_
                    refine r_pick hX [0, 1, 2] (lo' := [(0, (2, this)), (1, (2, run)), (2, (0, (l2_h55 + 1)))]) rfl ?_
                    refine r_eqG (X := X) (hw_base _ _ _) ?_
                    exact ih55 (l2_h55 + 1) _ (by first | decide | omega) (by first | decide | omega) (by first | decide | omega)
                  · skip
                    refine r_ex hX hP 2 (pc' := 172) (st' := [(2, run), (0, q9)]) (lo' := [(0, (2, this)), (1, (2, run)), (2, (0, l2_h55)), (3, (0, q8)), (4, (0, q9))]) rfl ?_
                    refine r_getR hX hP rfl fl_X3_124_129 run_s (fun ef13 ef13e ef13s => ?_)
                    refine r_peekI hX (tl_156 2 rfl (by decide)) ef13s (fun sip14 sip14e sip14a sip14b => ?_)
                    refine r_callV gd hX hP rfl cv_X3_98_156 ef13s (d' := 0) (mc' := 0) (ms' := 0) (as' := []) (st := [(0, q9)]) (by first | decide | omega) (by first | decide | omega) (by first | decide | omega) rfl rfl (Nat.le_of_ble_eq_true rfl) (c_size_Lev E S (hw [(95, -1), (97, -1), (99, -1), (115, -1), (119, -1), (125, -1), (126, -1), (127, -1)] (hw [(99, -1)] G Gh2) Gh55) ef13  ef13s sip14 sip14e) ?_
                    rintro _ _ _ ⟨rfl, rfl, z15, rfl, z15a, z15b, f16⟩
                    refine r_ic_ge hX hP rfl (tgt := 188) rfl (by first | decide | omega) (by first | decide | omega) (by first | decide | omega) (by first | decide | omega) (fun c17 => ?_) (fun c17 => ?_)
                    · skip
                      refine r_ex hX hP 2 (pc' := 55) (st' := []) (lo' := [(0, (2, this)), (1, (2, run)), (2, (0, (l2_h55 + 1))), (3, (0, q8)), (4, (0, q9))]) rfl ?_
                      refine r_pick hX [0, 1, 2] (lo' := [(0, (2, this)), (1, (2, run)), (2, (0, (l2_h55 + 1)))]) rfl ?_
                      refine r_eqG (X := X) (hw_base _ _ _) ?_
                      exact ih55 (l2_h55 + 1) _ (by first | decide | omega) (by first | decide | omega) (by first | decide | omega)
                    · skip
                      refine r_ex hX hP 3 (pc' := 185) (st' := [(0, q9), (2, run), (2, this)]) (lo' := [(0, (2, this)), (1, (2, run)), (2, (0, l2_h55)), (3, (0, q8)), (4, (0, q9))]) rfl ?_
                      have ci18 : CI E S (hw [(95, -1), (97, -1), (99, -1), (115, -1), (119, -1), (125, -1), (126, -1), (127, -1)] (hw [(99, -1)] G Gh2) Gh55) := (ci_hw (ci_hw ci rfl) rfl)
                      refine r_callV gd hX hP rfl cv_X3_127_133 hS (d' := 7) (mc' := 0) (ms' := 0) (as' := [(2, run), (0, q9)]) (st := []) (by first | decide | omega) (by first | decide | omega) (by first | decide | omega) rfl rfl (Nat.le_of_ble_eq_true rfl) (c_X3_happen E S (hw [(95, -1), (97, -1), (99, -1), (115, -1), (119, -1), (125, -1), (126, -1), (127, -1)] (hw [(99, -1)] G Gh2) Gh55) this run q9 hS run_s ef13 ef13e ef13s sip14 sip14e (by first | decide | omega) (by first | decide | omega) (by first | decide | omega) ci18) ?_
                      rintro _ _ _ ⟨rfl, ⟨G19, rfl⟩, rfl, -⟩
                      refine r_ex hX hP 2 (pc' := 55) (st' := []) (lo' := [(0, (2, this)), (1, (2, run)), (2, (0, (l2_h55 + 1))), (3, (0, q8)), (4, (0, q9))]) rfl ?_
                      refine r_pick hX [0, 1, 2] (lo' := [(0, (2, this)), (1, (2, run)), (2, (0, (l2_h55 + 1)))]) rfl ?_
                      refine r_eqG (X := X) (hw_sub (hw_base _ _ _) rfl) ?_
                      exact ih55 (l2_h55 + 1) _ (by first | decide | omega) (by first | decide | omega) (by first | decide | omega)
                · skip
                  refine r_ex hX hP 2 (pc' := 129) (st' := [(2, run), (0, q9)]) (lo' := [(0, (2, this)), (1, (2, run)), (2, (0, l2_h55)), (3, (0, q8)), (4, (0, q9))]) rfl ?_
                  refine r_getR hX hP rfl fl_X3_114_129 run_s (fun tf20 tf20e tf20s => ?_)
                  refine r_peekI hX (tl_155 2 rfl (by decide)) tf20s (fun sip21 sip21e sip21a sip21b => ?_)
                  refine r_callV gd hX hP rfl cv_X3_98_155 tf20s (d' := 0) (mc' := 0) (ms' := 0) (as' := []) (st := [(0, q9)]) (by first | decide | omega) (by first | decide | omega) (by first | decide | omega) rfl rfl (Nat.le_of_ble_eq_true rfl) (c_size_Ltr E S (hw [(95, -1), (97, -1), (99, -1), (115, -1), (119, -1), (125, -1), (126, -1), (127, -1)] (hw [(99, -1)] G Gh2) Gh55) tf20  tf20s sip21 sip21e) ?_
                  rintro _ _ _ ⟨rfl, rfl, z22, rfl, z22a, z22b, f23⟩
                  refine r_ic_ge hX hP rfl (tgt := 164) rfl (by first | decide | omega) (by first | decide | omega) (by first | decide | omega) (by first | decide | omega) (fun c24 => ?_) (fun c24 => ?_)
                  · skip
                    refine r_ex hX hP 2 (pc' := 166) (st' := [(0, 2), (0, q8)]) (lo' := [(0, (2, this)), (1, (2, run)), (2, (0, l2_h55)), (3, (0, q8)), (4, (0, q9))]) rfl ?_
                    refine r_ic_ne hX hP rfl (tgt := 188) rfl (by first | decide | omega) (by first | decide | omega) (by first | decide | omega) (by first | decide | omega) (fun c25 => ?_) (fun c25 => ?_)
                    · skip
                      refine r_ex hX hP 2 (pc' := 55) (st' := []) (lo' := [(0, (2, this)), (1, (2, run)), (2, (0, (l2_h55 + 1))), (3, (0, q8)), (4, (0, q9))]) rfl ?_
                      refine r_pick hX [0, 1, 2] (lo' := [(0, (2, this)), (1, (2, run)), (2, (0, (l2_h55 + 1)))]) rfl ?_
                      refine r_eqG (X := X) (hw_base _ _ _) ?_
                      exact ih55 (l2_h55 + 1) _ (by first | decide | omega) (by first | decide | omega) (by first | decide | omega)
                    · skip
                      exfalso; omega
                  · skip
                    refine r_ex hX hP 1 (pc' := 139) (st' := [(2, run)]) (lo' := [(0, (2, this)), (1, (2, run)), (2, (0, l2_h55)), (3, (0, q8)), (4, (0, q9))]) rfl ?_
                    refine r_getR hX hP rfl fl_X3_117_129 run_s (fun sf26 sf26e sf26s => ?_)
                    refine r_ex hX hP 3 (pc' := 146) (st' := [(2, run), (2, this), (0, q9), (2, sf26)]) (lo' := [(0, (2, this)), (1, (2, run)), (2, (0, l2_h55)), (3, (0, q8)), (4, (0, q9))]) rfl ?_
                    refine r_getKR hX hP rfl fl_X3_114_129 run_s (x := tf20) tf20e ?_
                    refine r_ex hX hP 1 (pc' := 151) (st' := [(0, q9), (2, tf20), (2, this), (0, q9), (2, sf26)]) (lo' := [(0, (2, this)), (1, (2, run)), (2, (0, l2_h55)), (3, (0, q8)), (4, (0, q9))]) rfl ?_
                    have ci27 : CI E S (hw [(95, -1), (97, -1), (99, -1), (115, -1), (119, -1), (125, -1), (126, -1), (127, -1)] (hw [(99, -1)] G Gh2) Gh55) := (ci_hw (ci_hw ci rfl) rfl)
                    refine r_callV gd hX hP rfl cv_X3_104_155 tf20s (d' := 2) (mc' := 0) (ms' := 0) (as' := [(0, q9)]) (st := [(2, this), (0, q9), (2, sf26)]) (by first | decide | omega) (by first | decide | omega) (by first | decide | omega) rfl rfl (Nat.le_of_ble_eq_true rfl) (c_get_Ltr E S (hw [(95, -1), (97, -1), (99, -1), (115, -1), (119, -1), (125, -1), (126, -1), (127, -1)] (hw [(99, -1)] G Gh2) Gh55) tf20 q9 tf20s sip21 sip21e (by first | decide | omega) (by first | decide | omega) (by first | decide | omega) ci27) ?_
                    rintro _ _ _ ⟨rfl, rfl, z28, rfl, z28s⟩
                    refine r_cast hX hP rfl (tbg sg6 105 rfl rfl) ck_140_X1 z28s ?_
                    refine r_callV gd hX hP rfl cv_X3_120_133 hS (d' := 1) (mc' := 0) (ms' := 0) (as' := [(2, z28)]) (st := [(0, q9), (2, sf26)]) (by first | decide | omega) (by first | decide | omega) (by first | decide | omega) rfl rfl (Nat.le_of_ble_eq_true rfl) (c_X3_settle E S (hw [(95, -1), (97, -1), (99, -1), (115, -1), (119, -1), (125, -1), (126, -1), (127, -1)] (hw [(99, -1)] G Gh2) Gh55) this z28 hS z28s) ?_
                    rintro _ _ _ ⟨rfl, ⟨G29, rfl⟩, z30, rfl, z30a, z30b⟩
                    refine r_iastK hX hP rfl al_115 sf26s (by first | decide | omega) (by first | decide | omega) (by first | decide | omega) (by first | decide | omega) (fun h31 => ?_)
                    refine r_ex hX hP 3 (pc' := 55) (st' := []) (lo' := [(0, (2, this)), (1, (2, run)), (2, (0, (l2_h55 + 1))), (3, (0, q8)), (4, (0, q9))]) rfl ?_
                    refine r_pick hX [0, 1, 2] (lo' := [(0, (2, this)), (1, (2, run)), (2, (0, (l2_h55 + 1)))]) rfl ?_
                    refine r_eqG (X := X) (hw_up (hw_sub (hw_base _ _ _) rfl) rfl) ?_
                    exact ih55 (l2_h55 + 1) _ (by first | decide | omega) (by first | decide | omega) (by first | decide | omega)
              · skip
                refine r_ex hX hP 2 (pc' := 93) (st' := [(2, run), (0, q9)]) (lo' := [(0, (2, this)), (1, (2, run)), (2, (0, l2_h55)), (3, (0, q8)), (4, (0, q9))]) rfl ?_
                refine r_getR hX hP rfl fl_X3_94_129 run_s (fun if32 if32e if32s => ?_)
                refine r_peekI hX (tl_154 2 rfl (by decide)) if32s (fun sip33 sip33e sip33a sip33b => ?_)
                refine r_callV gd hX hP rfl cv_X3_98_154 if32s (d' := 0) (mc' := 0) (ms' := 0) (as' := []) (st := [(0, q9)]) (by first | decide | omega) (by first | decide | omega) (by first | decide | omega) rfl rfl (Nat.le_of_ble_eq_true rfl) (c_size_Lis E S (hw [(95, -1), (97, -1), (99, -1), (115, -1), (119, -1), (125, -1), (126, -1), (127, -1)] (hw [(99, -1)] G Gh2) Gh55) if32  if32s sip33 sip33e) ?_
                rintro _ _ _ ⟨rfl, rfl, z34, rfl, z34a, z34b, f35⟩
                refine r_ic_ge hX hP rfl (tgt := 121) rfl (by first | decide | omega) (by first | decide | omega) (by first | decide | omega) (by first | decide | omega) (fun c36 => ?_) (fun c36 => ?_)
                · skip
                  refine r_ex hX hP 2 (pc' := 123) (st' := [(0, 1), (0, q8)]) (lo' := [(0, (2, this)), (1, (2, run)), (2, (0, l2_h55)), (3, (0, q8)), (4, (0, q9))]) rfl ?_
                  refine r_ic_ne hX hP rfl (tgt := 164) rfl (by first | decide | omega) (by first | decide | omega) (by first | decide | omega) (by first | decide | omega) (fun c37 => ?_) (fun c37 => ?_)
                  · skip
                    refine r_ex hX hP 2 (pc' := 166) (st' := [(0, 2), (0, q8)]) (lo' := [(0, (2, this)), (1, (2, run)), (2, (0, l2_h55)), (3, (0, q8)), (4, (0, q9))]) rfl ?_
                    refine r_ic_ne hX hP rfl (tgt := 188) rfl (by first | decide | omega) (by first | decide | omega) (by first | decide | omega) (by first | decide | omega) (fun c38 => ?_) (fun c38 => ?_)
                    · skip
                      refine r_ex hX hP 2 (pc' := 55) (st' := []) (lo' := [(0, (2, this)), (1, (2, run)), (2, (0, (l2_h55 + 1))), (3, (0, q8)), (4, (0, q9))]) rfl ?_
                      refine r_pick hX [0, 1, 2] (lo' := [(0, (2, this)), (1, (2, run)), (2, (0, (l2_h55 + 1)))]) rfl ?_
                      refine r_eqG (X := X) (hw_base _ _ _) ?_
                      exact ih55 (l2_h55 + 1) _ (by first | decide | omega) (by first | decide | omega) (by first | decide | omega)
                    · skip
                      exfalso; omega
                  · skip
                    exfalso; omega
                · skip
                  refine r_ex hX hP 2 (pc' := 104) (st' := [(2, run), (2, this)]) (lo' := [(0, (2, this)), (1, (2, run)), (2, (0, l2_h55)), (3, (0, q8)), (4, (0, q9))]) rfl ?_
                  refine r_getKR hX hP rfl fl_X3_94_129 run_s (x := if32) if32e ?_
                  refine r_ex hX hP 1 (pc' := 109) (st' := [(0, q9), (2, if32), (2, this)]) (lo' := [(0, (2, this)), (1, (2, run)), (2, (0, l2_h55)), (3, (0, q8)), (4, (0, q9))]) rfl ?_
                  have ci39 : CI E S (hw [(95, -1), (97, -1), (99, -1), (115, -1), (119, -1), (125, -1), (126, -1), (127, -1)] (hw [(99, -1)] G Gh2) Gh55) := (ci_hw (ci_hw ci rfl) rfl)
                  refine r_callV gd hX hP rfl cv_X3_104_154 if32s (d' := 2) (mc' := 0) (ms' := 0) (as' := [(0, q9)]) (st := [(2, this)]) (by first | decide | omega) (by first | decide | omega) (by first | decide | omega) rfl rfl (Nat.le_of_ble_eq_true rfl) (c_get_Lis E S (hw [(95, -1), (97, -1), (99, -1), (115, -1), (119, -1), (125, -1), (126, -1), (127, -1)] (hw [(99, -1)] G Gh2) Gh55) if32 q9 if32s sip33 sip33e (by first | decide | omega) (by first | decide | omega) (by first | decide | omega) ci39) ?_
                  rintro _ _ _ ⟨rfl, rfl, z40, rfl, z40s⟩
                  refine r_cast hX hP rfl (tbg sg6 105 rfl rfl) ck_139_X1 z40s ?_
                  refine r_callV gd hX hP rfl cv_X3_110_133 hS (d' := 1) (mc' := 0) (ms' := 0) (as' := [(2, z40)]) (st := []) (by first | decide | omega) (by first | decide | omega) (by first | decide | omega) rfl rfl (Nat.le_of_ble_eq_true rfl) (c_X3_receive E S (hw [(95, -1), (97, -1), (99, -1), (115, -1), (119, -1), (125, -1), (126, -1), (127, -1)] (hw [(99, -1)] G Gh2) Gh55) this z40 hS z40s) ?_
                  rintro _ _ _ ⟨rfl, ⟨G41, rfl⟩, rfl, -⟩
                  refine r_ex hX hP 3 (pc' := 55) (st' := []) (lo' := [(0, (2, this)), (1, (2, run)), (2, (0, (l2_h55 + 1))), (3, (0, q8)), (4, (0, q9))]) rfl ?_
                  refine r_pick hX [0, 1, 2] (lo' := [(0, (2, this)), (1, (2, run)), (2, (0, (l2_h55 + 1)))]) rfl ?_
                  refine r_eqG (X := X) (hw_sub (hw_base _ _ _) rfl) ?_
                  exact ih55 (l2_h55 + 1) _ (by first | decide | omega) (by first | decide | omega) (by first | decide | omega)
        refine r_eqG (X := X) (hw_refl [(95, -1), (97, -1), (99, -1), (115, -1), (119, -1), (125, -1), (126, -1), (127, -1)] _) ?_
        exact loop55 ((96 - nf2) + 1 : Int).toNat nf2 _ (by first | decide | omega) (by first | decide | omega) (by first | decide | omega)
      · skip
        refine r_ex hX hP 2 (pc' := 10) (st' := []) (lo' := [(0, (2, this)), (1, (2, run)), (2, (0, l2_h2)), (3, (0, 0))]) rfl ?_
        have loop10 : ∀ (nF : Nat) (l3_h10 : Int) (Gh10 : Gh), 0 ≤ l3_h10 → l3_h10 ≤ 20 → 20 - l3_h10 < (nF : Int) → X 0 0 10 [] [(0, (2, this)), (1, (2, run)), (2, (0, l2_h2)), (3, (0, l3_h10))] S (hw [(99, -1)] (hw [(99, -1)] G Gh2) Gh10) := by
          intro nF
          induction nF with
          | zero => intro l3_h10 Gh10 yh10_0 yh10_1 ym10; exfalso; omega
          | succ nF ih10 =>
            intro l3_h10 Gh10 yh10_0 yh10_1 ym10
            refine r_ex hX hP 2 (pc' := 13) (st' := [(0, 20), (0, l3_h10)]) (lo' := [(0, (2, this)), (1, (2, run)), (2, (0, l2_h2)), (3, (0, l3_h10))]) rfl ?_
            refine r_ic_ge hX hP rfl (tgt := 44) rfl (by first | decide | omega) (by first | decide | omega) (by first | decide | omega) (by first | decide | omega) (fun c42 => ?_) (fun c42 => ?_)
            · skip
              refine r_ex hX hP 2 (pc' := 2) (st' := []) (lo' := [(0, (2, this)), (1, (2, run)), (2, (0, (l2_h2 + 1))), (3, (0, l3_h10))]) rfl ?_
              refine r_pick hX [0, 1, 2] (lo' := [(0, (2, this)), (1, (2, run)), (2, (0, (l2_h2 + 1)))]) rfl ?_
              refine r_eqG (X := X) (hw_sub (hw_base _ _ _) rfl) ?_
              exact ih2 (l2_h2 + 1) _ (by first | decide | omega) (by first | decide | omega) (by first | decide | omega)
            · skip
              refine r_ex hX hP 1 (pc' := 17) (st' := [(2, this)]) (lo' := [(0, (2, this)), (1, (2, run)), (2, (0, l2_h2)), (3, (0, l3_h10))]) rfl ?_
              refine r_getR hX hP rfl fl_X3_11_133 hS (fun hf43 hf43e hf43s => ?_)
              refine r_ex hX hP 5 (pc' := 26) (st' := [(0, ((l2_h2 * 20) + l3_h10)), (2, hf43)]) (lo' := [(0, (2, this)), (1, (2, run)), (2, (0, l2_h2)), (3, (0, l3_h10))]) rfl ?_
              refine r_aald hX hP rfl al_100 rfl hf43s (by first | decide | omega) (by first | decide | omega) (fun r44 r44e r44s => ?_)
              refine r_ex hX hP 1 (pc' := 28) (st' := [(2, run), (2, r44)]) (lo' := [(0, (2, this)), (1, (2, run)), (2, (0, l2_h2)), (3, (0, l3_h10))]) rfl ?_
              refine r_getR hX hP rfl fl_X3_81_129 run_s (fun hf45 hf45e hf45s => ?_)
              refine r_ex hX hP 1 (pc' := 32) (st' := [(0, l2_h2), (2, hf45), (2, r44)]) (lo' := [(0, (2, this)), (1, (2, run)), (2, (0, l2_h2)), (3, (0, l3_h10))]) rfl ?_
              refine r_aald hX hP rfl al_114 rfl hf45s (by first | decide | omega) (by first | decide | omega) (fun r46 r46e r46s => ?_)
              refine r_ex hX hP 1 (pc' := 34) (st' := [(0, l3_h10), (2, r46), (2, r44)]) (lo' := [(0, (2, this)), (1, (2, run)), (2, (0, l2_h2)), (3, (0, l3_h10))]) rfl ?_
              refine r_lald hX hP rfl al_95 r46s (by first | decide | omega) (by first | decide | omega) (fun x47 x47e x47a x47b => ?_)
              refine r_callS gd hX hP rfl cs_X3_67 (d' := 0) (mc' := 0) (ms' := 0) (as' := [(2, r44), (1, x47)]) (st := []) (by first | decide | omega) (by first | decide | omega) (by first | decide | omega) rfl rfl (Nat.le_of_ble_eq_true rfl) (c_X3_put E S (hw [(99, -1)] (hw [(99, -1)] G Gh2) Gh10) r44 x47 r44s (by first | decide | omega) (by first | decide | omega)) ?_
              rintro _ _ _ ⟨rfl, ⟨G48, rfl⟩, rfl, -⟩
              refine r_ex hX hP 2 (pc' := 10) (st' := []) (lo' := [(0, (2, this)), (1, (2, run)), (2, (0, l2_h2)), (3, (0, (l3_h10 + 1)))]) rfl ?_
              refine r_eqG (X := X) (hw_sub (hw_base _ _ _) rfl) ?_
              exact ih10 (l3_h10 + 1) _ (by first | decide | omega) (by first | decide | omega) (by first | decide | omega)
        refine r_eqG (X := X) (hw_refl [(99, -1)] _) ?_
        exact loop10 ((20 - 0) + 1 : Int).toNat 0 _ (by first | decide | omega) (by first | decide | omega) (by first | decide | omega)
  refine r_eqG (X := X) (hw_refl [(99, -1)] _) ?_
  exact loop2 ((20 - 0) + 1 : Int).toNat 0 _ (by first | decide | omega) (by first | decide | omega) (by first | decide | omega)
