theorem fl_X6_67_131 : Fl RX6 67 131 5 (0, 0, 400) := ⟨7, 17, fs_131, RX6, TX6, rfl, rfl, by decide, rfl, by decide, rfl, cf_X6, (tbg sg2 38 rfl rfl)⟩
theorem fl_X6_83_131 : Fl RX6 83 131 7 (0, 0, 400) := ⟨7, 17, fs_131, RX6, TX6, rfl, rfl, by decide, rfl, by decide, rfl, cf_X6, (tbg sg2 40 rfl rfl)⟩
theorem fp_X6_83_131 : Fp RX6 83 131 7 (0, 0, 400) := ⟨fl_X6_83_131, 7, 17, fs_131, RX6, TX6, .int, rfl, rfl, rfl, by decide +kernel, fun E S x h => ⟨rfl, rfl⟩⟩
theorem fl_X6_64_131 : Fl RX6 64 131 4 (0, 0, 400) := ⟨7, 17, fs_131, RX6, TX6, rfl, rfl, by decide, rfl, by decide, rfl, cf_X6, (tbg sg2 37 rfl rfl)⟩
theorem co_X6_isLetter : Co mX6_isLetter 1 := ⟨(tbg sg4 34 rfl rfl), (tbg sg1 8 rfl rfl), by decide, by decide, by decide +kernel, by decide⟩
theorem cv_X6_86_131 : Cv RX6 86 mX6_isLetter 131 1 := ⟨co_X6_isLetter, (tbg sg4 31 rfl rfl), (tbg sg4 33 rfl rfl), 7, 17, fs_131, RX6, TX6, rfl, by decide, rfl, (tbm 8 (by decide +kernel) rfl)⟩
theorem co_X6_isDigit : Co mX6_isDigit 1 := ⟨(tbg sg4 38 rfl rfl), (tbg sg1 8 rfl rfl), by decide, by decide, by decide +kernel, by decide⟩
theorem cv_X6_89_131 : Cv RX6 89 mX6_isDigit 131 1 := ⟨co_X6_isDigit, (tbg sg4 35 rfl rfl), (tbg sg4 37 rfl rfl), 7, 17, fs_131, RX6, TX6, rfl, by decide, rfl, (tbm 9 (by decide +kernel) rfl)⟩
theorem fl_X6_38_131 : Fl RX6 38 131 6 (0, (-2147483648), 2147483647) := ⟨7, 17, fs_131, RX6, TX6, rfl, rfl, by decide, rfl, by decide, rfl, cf_X6, (tbg sg2 39 rfl rfl)⟩
theorem fp_X6_38_131 : Fp RX6 38 131 6 (0, (-2147483648), 2147483647) := ⟨fl_X6_38_131, 7, 17, fs_131, RX6, TX6, .int, rfl, rfl, rfl, by decide +kernel, fun E S x h => ⟨rfl, rfl⟩⟩
theorem fp_X6_67_131 : Fp RX6 67 131 5 (0, 0, 400) := ⟨fl_X6_67_131, 7, 17, fs_131, RX6, TX6, .int, rfl, rfl, rfl, by decide +kernel, fun E S x h => ⟨rfl, rfl⟩⟩
theorem fl_X6_92_131 : Fl RX6 92 131 8 (0, (-2147483648), 2147483647) := ⟨7, 17, fs_131, RX6, TX6, rfl, rfl, by decide, rfl, by decide, rfl, cf_X6, (tbg sg2 41 rfl rfl)⟩
theorem fp_X6_92_131 : Fp RX6 92 131 8 (0, (-2147483648), 2147483647) := ⟨fl_X6_92_131, 7, 17, fs_131, RX6, TX6, .int, rfl, rfl, rfl, by decide +kernel, fun E S x h => ⟨rfl, rfl⟩⟩
theorem tl_131 (j : Nat) {t : Ty} (h : fs_131.getD j (0, 0, 0) = t) (hj : j < fs_131.length) : Tl 131 j t := ⟨7, fs_131, rfl, hj, h, by decide⟩
theorem fl_X6_9_131 : Fl RX6 9 131 1 (0, (-2147483648), 2147483647) := ⟨7, 17, fs_131, RX6, TX6, rfl, rfl, by decide, rfl, by decide, rfl, cf_X6, (tbg sg2 32 rfl rfl)⟩
theorem fp_X6_9_131 : Fp RX6 9 131 1 (0, (-2147483648), 2147483647) := ⟨fl_X6_9_131, 7, 17, fs_131, RX6, TX6, .int, rfl, rfl, rfl, by decide +kernel, fun E S x h => ⟨rfl, rfl⟩⟩
theorem fl_X6_15_131 : Fl RX6 15 131 2 (0, (-2147483648), 2147483647) := ⟨7, 17, fs_131, RX6, TX6, rfl, rfl, by decide, rfl, by decide, rfl, cf_X6, (tbg sg2 34 rfl rfl)⟩
theorem fp_X6_15_131 : Fp RX6 15 131 2 (0, (-2147483648), 2147483647) := ⟨fl_X6_15_131, 7, 17, fs_131, RX6, TX6, .int, rfl, rfl, rfl, by decide +kernel, fun E S x h => ⟨rfl, rfl⟩⟩
theorem co_X6_fail : Co mX6_fail 1 := ⟨(tbg sg4 42 rfl rfl), (tbg sg1 8 rfl rfl), by decide, by decide, by decide +kernel, by decide⟩
theorem cv_X6_44_131 : Cv RX6 44 mX6_fail 131 1 := ⟨co_X6_fail, (tbg sg4 39 rfl rfl), (tbg sg4 41 rfl rfl), 7, 17, fs_131, RX6, TX6, rfl, by decide, rfl, (tbm 10 (by decide +kernel) rfl)⟩
theorem co_X6_expect : Co mX6_expect 1 := ⟨(tbg sg4 111 rfl rfl), (tbg sg1 8 rfl rfl), by decide, by decide, by decide +kernel, by decide⟩
theorem cv_X6_95_131 : Cv RX6 95 mX6_expect 131 1 := ⟨co_X6_expect, (tbg sg4 108 rfl rfl), (tbg sg4 110 rfl rfl), 7, 17, fs_131, RX6, TX6, rfl, by decide, rfl, (tbm 15 (by decide +kernel) rfl)⟩
theorem co_X6_advance : Co mX6_advance 0 := ⟨(tbg sg4 30 rfl rfl), (tbg sg1 8 rfl rfl), by decide, by decide, by decide +kernel, by decide⟩
theorem cv_X6_80_131 : Cv RX6 80 mX6_advance 131 0 := ⟨co_X6_advance, (tbg sg4 27 rfl rfl), (tbg sg4 29 rfl rfl), 7, 17, fs_131, RX6, TX6, rfl, by decide, rfl, (tbm 7 (by decide +kernel) rfl)⟩
theorem co_J0_length_8abf5 : Co mJ0_length_8abf5 0 := ⟨(tbg sg4 55 rfl rfl), (tbg sg1 18 rfl rfl), by decide, by decide, by decide +kernel, by decide⟩
theorem ct_X6_102 : Ct RX6 102 mJ0_length_8abf5 0 := ⟨co_J0_length_8abf5, (tbg sg4 52 rfl rfl), (tbg sg4 53 rfl rfl), (tbg sg4 54 rfl rfl)⟩
theorem co_J0_charAt_5068e : Co mJ0_charAt_5068e 1 := ⟨(tbg sg4 65 rfl rfl), (tbg sg1 18 rfl rfl), by decide, by decide, by decide +kernel, by decide⟩
theorem ct_X6_107 : Ct RX6 107 mJ0_charAt_5068e 1 := ⟨co_J0_charAt_5068e, (tbg sg4 62 rfl rfl), (tbg sg4 63 rfl rfl), (tbg sg4 64 rfl rfl)⟩
theorem co_X6_is : Co mX6_is 1 := ⟨(tbg sg4 51 rfl rfl), (tbg sg1 8 rfl rfl), by decide, by decide, by decide +kernel, by decide⟩
theorem cv_X6_98_131 : Cv RX6 98 mX6_is 131 1 := ⟨co_X6_is, (tbg sg4 48 rfl rfl), (tbg sg4 50 rfl rfl), 7, 17, fs_131, RX6, TX6, rfl, by decide, rfl, (tbm 12 (by decide +kernel) rfl)⟩
theorem co_X6_sign : Co mX6_sign 1 := ⟨(tbg sg4 107 rfl rfl), (tbg sg1 8 rfl rfl), by decide, by decide, by decide +kernel, by decide⟩
theorem cv_X6_116_131 : Cv RX6 116 mX6_sign 131 1 := ⟨co_X6_sign, (tbg sg4 104 rfl rfl), (tbg sg4 106 rfl rfl), 7, 17, fs_131, RX6, TX6, rfl, by decide, rfl, (tbm 14 (by decide +kernel) rfl)⟩
theorem fl_X6_41_131 : Fl RX6 41 131 11 (0, 0, 3) := ⟨7, 17, fs_131, RX6, TX6, rfl, rfl, by decide, rfl, by decide, rfl, cf_X6, (tbg sg2 44 rfl rfl)⟩
theorem fl_X6_22_131 : Fl RX6 22 131 12 (2, 106, 0) := ⟨7, 17, fs_131, RX6, TX6, rfl, rfl, by decide, rfl, by decide, rfl, cf_X6, (tbg sg2 45 rfl rfl)⟩
theorem al_106 : Al 106 0 3 (0, (-1), 59) := ⟨rfl, by decide, by decide⟩
theorem fp_X6_41_131 : Fp RX6 41 131 11 (0, 0, 3) := ⟨fl_X6_41_131, 7, 17, fs_131, RX6, TX6, .int, rfl, rfl, rfl, by decide +kernel, fun E S x h => ⟨rfl, rfl⟩⟩
theorem co_X6_push : Co mX6_push 1 := ⟨(tbg sg4 103 rfl rfl), (tbg sg1 8 rfl rfl), by decide, by decide, by decide +kernel, by decide⟩
theorem cv_X6_113_131 : Cv RX6 113 mX6_push 131 1 := ⟨co_X6_push, (tbg sg4 100 rfl rfl), (tbg sg4 102 rfl rfl), 7, 17, fs_131, RX6, TX6, rfl, by decide, rfl, (tbm 13 (by decide +kernel) rfl)⟩
theorem fl_X6_54_131 : Fl RX6 54 131 9 (3, 136, 0) := ⟨7, 17, fs_131, RX6, TX6, rfl, rfl, by decide, rfl, by decide, rfl, cf_X6, (tbg sg2 42 rfl rfl)⟩
theorem fl_X6_173_136 : Fl RX6 173 136 1 (0, 0, 3) := ⟨10, 16, fs_136, RX9, TX9, rfl, rfl, by decide, rfl, by decide, rfl, cf_X9, (tbg sg3 178 rfl rfl)⟩
theorem co_X6_row : Co mX6_row 0 := ⟨(tbg sg4 141 rfl rfl), (tbg sg1 8 rfl rfl), by decide, by decide, by decide +kernel, by decide⟩
theorem cv_X6_168_131 : Cv RX6 168 mX6_row 131 0 := ⟨co_X6_row, (tbg sg4 138 rfl rfl), (tbg sg4 140 rfl rfl), 7, 17, fs_131, RX6, TX6, rfl, by decide, rfl, (tbm 20 (by decide +kernel) rfl)⟩
theorem fl_X6_77_131 : Fl RX6 77 131 14 (0, 0, 1) := ⟨7, 17, fs_131, RX6, TX6, rfl, rfl, by decide, rfl, by decide, rfl, cf_X6, (tbg sg2 47 rfl rfl)⟩
theorem fl_X6_73_131 : Fl RX6 73 131 13 (0, 0, 1) := ⟨7, 17, fs_131, RX6, TX6, rfl, rfl, by decide, rfl, by decide, rfl, cf_X6, (tbg sg2 46 rfl rfl)⟩
theorem fl_X6_171_136 : Fl RX6 171 136 9 (2, 124, 0) := ⟨10, 16, fs_136, RX9, TX9, rfl, rfl, by decide, rfl, by decide, rfl, cf_X9, (tbg sg3 211 rfl rfl)⟩
theorem fl_X6_70_131 : Fl RX6 70 131 10 (0, 0, 30) := ⟨7, 17, fs_131, RX6, TX6, rfl, rfl, by decide, rfl, by decide, rfl, cf_X6, (tbg sg2 43 rfl rfl)⟩
theorem co_X6_isMisplaced : Co mX6_isMisplaced 1 := ⟨(tbg sg4 137 rfl rfl), (tbg sg1 8 rfl rfl), by decide, by decide, by decide +kernel, by decide⟩
theorem cv_X6_165_131 : Cv RX6 165 mX6_isMisplaced 131 1 := ⟨co_X6_isMisplaced, (tbg sg4 134 rfl rfl), (tbg sg4 136 rfl rfl), 7, 17, fs_131, RX6, TX6, rfl, by decide, rfl, (tbm 19 (by decide +kernel) rfl)⟩
theorem fl_X6_163_136 : Fl RX6 163 136 2 (0, (-1), 2) := ⟨10, 16, fs_136, RX9, TX9, rfl, rfl, by decide, rfl, by decide, rfl, cf_X9, (tbg sg3 182 rfl rfl)⟩
theorem fl_X6_176_136 : Fl RX6 176 136 0 (0, 0, 30) := ⟨10, 16, fs_136, RX9, TX9, rfl, rfl, by decide, rfl, by decide, rfl, cf_X9, (tbg sg3 172 rfl rfl)⟩
theorem fl_X6_179_136 : Fl RX6 179 136 7 (2, 122, 0) := ⟨10, 16, fs_136, RX9, TX9, rfl, rfl, by decide, rfl, by decide, rfl, cf_X9, (tbg sg3 205 rfl rfl)⟩
theorem fl_X6_181_136 : Fl RX6 181 136 8 (2, 123, 0) := ⟨10, 16, fs_136, RX9, TX9, rfl, rfl, by decide, rfl, by decide, rfl, cf_X9, (tbg sg3 207 rfl rfl)⟩
theorem fl_X6_184_136 : Fl RX6 184 136 3 (2, 120, 0) := ⟨10, 16, fs_136, RX9, TX9, rfl, rfl, by decide, rfl, by decide, rfl, cf_X9, (tbg sg3 186 rfl rfl)⟩
theorem fl_X6_187_136 : Fl RX6 187 136 4 (2, 119, 0) := ⟨10, 16, fs_136, RX9, TX9, rfl, rfl, by decide, rfl, by decide, rfl, cf_X9, (tbg sg3 191 rfl rfl)⟩
theorem fl_X6_190_136 : Fl RX6 190 136 5 (2, 121, 0) := ⟨10, 16, fs_136, RX9, TX9, rfl, rfl, by decide, rfl, by decide, rfl, cf_X9, (tbg sg3 196 rfl rfl)⟩
theorem fl_X6_193_136 : Fl RX6 193 136 6 (2, 119, 0) := ⟨10, 16, fs_136, RX9, TX9, rfl, rfl, by decide, rfl, by decide, rfl, cf_X9, (tbg sg3 200 rfl rfl)⟩
theorem fp_X6_176_136 : Fp RX6 176 136 0 (0, 0, 30) := ⟨fl_X6_176_136, 10, 16, fs_136, RX9, TX9, .int, rfl, rfl, rfl, by decide +kernel, fun E S x h => ⟨rfl, rfl⟩⟩
theorem co_X6_number : Co mX6_number 2 := ⟨(tbg sg4 149 rfl rfl), (tbg sg1 8 rfl rfl), by decide, by decide, by decide +kernel, by decide⟩
theorem cv_X6_196_131 : Cv RX6 196 mX6_number 131 2 := ⟨co_X6_number, (tbg sg4 146 rfl rfl), (tbg sg4 148 rfl rfl), 7, 17, fs_131, RX6, TX6, rfl, by decide, rfl, (tbm 22 (by decide +kernel) rfl)⟩
theorem co_X6_keyword : Co mX6_keyword 1 := ⟨(tbg sg4 154 rfl rfl), (tbg sg1 8 rfl rfl), by decide, by decide, by decide +kernel, by decide⟩
theorem cv_X6_202_131 : Cv RX6 202 mX6_keyword 131 1 := ⟨co_X6_keyword, (tbg sg4 151 rfl rfl), (tbg sg4 153 rfl rfl), 7, 17, fs_131, RX6, TX6, rfl, by decide, rfl, (tbm 23 (by decide +kernel) rfl)⟩
theorem co_X6_store : Co mX6_store 4 := ⟨(tbg sg4 158 rfl rfl), (tbg sg1 8 rfl rfl), by decide, by decide, by decide +kernel, by decide⟩
theorem cv_X6_206_131 : Cv RX6 206 mX6_store 131 4 := ⟨co_X6_store, (tbg sg4 155 rfl rfl), (tbg sg4 157 rfl rfl), 7, 17, fs_131, RX6, TX6, rfl, by decide, rfl, (tbm 24 (by decide +kernel) rfl)⟩
theorem fp_X6_77_131 : Fp RX6 77 131 14 (0, 0, 1) := ⟨fl_X6_77_131, 7, 17, fs_131, RX6, TX6, .boolean, rfl, rfl, rfl, by decide +kernel, fun E S x h => zfit h⟩
theorem fp_X6_73_131 : Fp RX6 73 131 13 (0, 0, 1) := ⟨fl_X6_73_131, 7, 17, fs_131, RX6, TX6, .boolean, rfl, rfl, rfl, by decide +kernel, fun E S x h => zfit h⟩
theorem fl_X6_28_131 : Fl RX6 28 131 16 (2, 107, 0) := ⟨7, 17, fs_131, RX6, TX6, rfl, rfl, by decide, rfl, by decide, rfl, cf_X6, (tbg sg2 49 rfl rfl)⟩
theorem al_107 : Al 107 0 3 (0, 0, 400) := ⟨rfl, by decide, by decide⟩
theorem fl_X6_25_131 : Fl RX6 25 131 15 (2, 107, 0) := ⟨7, 17, fs_131, RX6, TX6, rfl, rfl, by decide, rfl, by decide, rfl, cf_X6, (tbg sg2 48 rfl rfl)⟩
theorem co_X6_isName : Co mX6_isName 0 := ⟨(tbg sg4 179 rfl rfl), (tbg sg1 8 rfl rfl), by decide, by decide, by decide +kernel, by decide⟩
theorem cv_X6_223_131 : Cv RX6 223 mX6_isName 131 0 := ⟨co_X6_isName, (tbg sg4 176 rfl rfl), (tbg sg4 178 rfl rfl), 7, 17, fs_131, RX6, TX6, rfl, by decide, rfl, (tbm 28 (by decide +kernel) rfl)⟩
theorem co_X6_named : Co mX6_named 0 := ⟨(tbg sg4 183 rfl rfl), (tbg sg1 8 rfl rfl), by decide, by decide, by decide +kernel, by decide⟩
theorem cv_X6_227_131 : Cv RX6 227 mX6_named 131 0 := ⟨co_X6_named, (tbg sg4 180 rfl rfl), (tbg sg4 182 rfl rfl), 7, 17, fs_131, RX6, TX6, rfl, by decide, rfl, (tbm 29 (by decide +kernel) rfl)⟩
theorem fp_X6_173_136 : Fp RX6 173 136 1 (0, 0, 3) := ⟨fl_X6_173_136, 10, 16, fs_136, RX9, TX9, .int, rfl, rfl, rfl, by decide +kernel, fun E S x h => ⟨rfl, rfl⟩⟩
theorem fp_X6_163_136 : Fp RX6 163 136 2 (0, (-1), 2) := ⟨fl_X6_163_136, 10, 16, fs_136, RX9, TX9, .int, rfl, rfl, rfl, by decide +kernel, fun E S x h => ⟨rfl, rfl⟩⟩
theorem fl_X6_234_136 : Fl RX6 234 136 10 (2, 124, 0) := ⟨10, 16, fs_136, RX9, TX9, rfl, rfl, by decide, rfl, by decide, rfl, cf_X9, (tbg sg3 215 rfl rfl)⟩
theorem co_X6_clauseWord : Co mX6_clauseWord 0 := ⟨(tbg sg4 119 rfl rfl), (tbg sg1 8 rfl rfl), by decide, by decide, by decide +kernel, by decide⟩
theorem cv_X6_119_131 : Cv RX6 119 mX6_clauseWord 131 0 := ⟨co_X6_clauseWord, (tbg sg4 116 rfl rfl), (tbg sg4 118 rfl rfl), 7, 17, fs_131, RX6, TX6, rfl, by decide, rfl, (tbm 17 (by decide +kernel) rfl)⟩
theorem co_X6_wordFault : Co mX6_wordFault 1 := ⟨(tbg sg4 133 rfl rfl), (tbg sg1 8 rfl rfl), by decide, by decide, by decide +kernel, by decide⟩
theorem cv_X6_122_131 : Cv RX6 122 mX6_wordFault 131 1 := ⟨co_X6_wordFault, (tbg sg4 130 rfl rfl), (tbg sg4 132 rfl rfl), 7, 17, fs_131, RX6, TX6, rfl, by decide, rfl, (tbm 18 (by decide +kernel) rfl)⟩
theorem fp_X6_70_131 : Fp RX6 70 131 10 (0, 0, 30) := ⟨fl_X6_70_131, 7, 17, fs_131, RX6, TX6, .int, rfl, rfl, rfl, by decide +kernel, fun E S x h => ⟨rfl, rfl⟩⟩
theorem co_X6_ratio : Co mX6_ratio 1 := ⟨(tbg sg4 197 rfl rfl), (tbg sg1 8 rfl rfl), by decide, by decide, by decide +kernel, by decide⟩
theorem cv_X6_144_131 : Cv RX6 144 mX6_ratio 131 1 := ⟨co_X6_ratio, (tbg sg4 194 rfl rfl), (tbg sg4 196 rfl rfl), 7, 17, fs_131, RX6, TX6, rfl, by decide, rfl, (tbm 32 (by decide +kernel) rfl)⟩
theorem co_X6_moveWorth : Co mX6_moveWorth 0 := ⟨(tbg sg4 145 rfl rfl), (tbg sg1 8 rfl rfl), by decide, by decide, by decide +kernel, by decide⟩
theorem cv_X6_126_131 : Cv RX6 126 mX6_moveWorth 131 0 := ⟨co_X6_moveWorth, (tbg sg4 142 rfl rfl), (tbg sg4 144 rfl rfl), 7, 17, fs_131, RX6, TX6, rfl, by decide, rfl, (tbm 21 (by decide +kernel) rfl)⟩
theorem co_X6_fraction : Co mX6_fraction 0 := ⟨(tbg sg4 162 rfl rfl), (tbg sg1 8 rfl rfl), by decide, by decide, by decide +kernel, by decide⟩
theorem cv_X6_129_131 : Cv RX6 129 mX6_fraction 131 0 := ⟨co_X6_fraction, (tbg sg4 159 rfl rfl), (tbg sg4 161 rfl rfl), 7, 17, fs_131, RX6, TX6, rfl, by decide, rfl, (tbm 25 (by decide +kernel) rfl)⟩
theorem co_X6_when : Co mX6_when 0 := ⟨(tbg sg4 170 rfl rfl), (tbg sg1 8 rfl rfl), by decide, by decide, by decide +kernel, by decide⟩
theorem cv_X6_132_131 : Cv RX6 132 mX6_when 131 0 := ⟨co_X6_when, (tbg sg4 167 rfl rfl), (tbg sg4 169 rfl rfl), 7, 17, fs_131, RX6, TX6, rfl, by decide, rfl, (tbm 26 (by decide +kernel) rfl)⟩
theorem co_X6_choice : Co mX6_choice 0 := ⟨(tbg sg4 175 rfl rfl), (tbg sg1 8 rfl rfl), by decide, by decide, by decide +kernel, by decide⟩
theorem cv_X6_135_131 : Cv RX6 135 mX6_choice 131 0 := ⟨co_X6_choice, (tbg sg4 172 rfl rfl), (tbg sg4 174 rfl rfl), 7, 17, fs_131, RX6, TX6, rfl, by decide, rfl, (tbm 27 (by decide +kernel) rfl)⟩
theorem co_X6_fallback : Co mX6_fallback 0 := ⟨(tbg sg4 187 rfl rfl), (tbg sg1 8 rfl rfl), by decide, by decide, by decide +kernel, by decide⟩
theorem cv_X6_138_131 : Cv RX6 138 mX6_fallback 131 0 := ⟨co_X6_fallback, (tbg sg4 184 rfl rfl), (tbg sg4 186 rfl rfl), 7, 17, fs_131, RX6, TX6, rfl, by decide, rfl, (tbm 30 (by decide +kernel) rfl)⟩
theorem co_X6_most : Co mX6_most 0 := ⟨(tbg sg4 191 rfl rfl), (tbg sg1 8 rfl rfl), by decide, by decide, by decide +kernel, by decide⟩
theorem cv_X6_141_131 : Cv RX6 141 mX6_most 131 0 := ⟨co_X6_most, (tbg sg4 188 rfl rfl), (tbg sg4 190 rfl rfl), 7, 17, fs_131, RX6, TX6, rfl, by decide, rfl, (tbm 31 (by decide +kernel) rfl)⟩
set_option maxRecDepth 100000 in
set_option maxHeartbeats 4000000 in
theorem c_X6_isLetter (E : En) (S : Sg) (G : Gh) (this : Int) (i : Int) (hS : S this = 131) (i_a : 0 ≤ i) (i_b : i ≤ 399) : Calls E mX6_isLetter [(2, this), (0, i)] S G 0 0 0 (fun r S' G' => S = S' ∧ G = G' ∧ ∃ z : Int, r = some (0, z) ∧ 0 ≤ z ∧ z ≤ 1) := by
  refine calls_by [(0, (2, this)), (1, (0, i))] rfl rfl (Nat.le_of_ble_eq_true rfl) (fun X hX => ?_)
  have hP := hPX6_isLetter
  refine r_ex hX hP 1 (pc' := 1) (st' := [(2, this)]) (lo' := [(0, (2, this)), (1, (0, i))]) rfl ?_
  refine r_getR hX hP rfl fl_X6_18_131 hS (fun tf1 tf1e tf1s => ?_)
  refine r_ex hX hP 1 (pc' := 5) (st' := [(0, i), (2, tf1)]) (lo' := [(0, (2, this)), (1, (0, i))]) rfl ?_
  refine r_iald hX hP rfl al_105 tf1s (by omega) (by omega) (fun x2 x2e x2a x2b => ?_)
  refine r_ex hX hP 1 (pc' := 8) (st' := [(0, 97), (0, x2)]) (lo' := [(0, (2, this)), (1, (0, i))]) rfl ?_
  refine r_ic_lt hX hP rfl (tgt := 26) rfl (by omega) (by omega) (by omega) (by omega) (fun c3 => ?_) (fun c3 => ?_)
  · skip
    refine r_ex hX hP 1 (pc' := 27) (st' := [(0, 0)]) (lo' := [(0, (2, this)), (1, (0, i))]) rfl ?_
    exact r_retZ hX hP rfl rfl (by omega) (by omega) (by omega) (by omega) ⟨rfl, rfl, 0, rfl, (by omega)⟩
  · skip
    refine r_ex hX hP 1 (pc' := 12) (st' := [(2, this)]) (lo' := [(0, (2, this)), (1, (0, i))]) rfl ?_
    refine r_getKR hX hP rfl fl_X6_18_131 hS (x := tf1) tf1e ?_
    refine r_ex hX hP 1 (pc' := 16) (st' := [(0, i), (2, tf1)]) (lo' := [(0, (2, this)), (1, (0, i))]) rfl ?_
    refine r_ialdK hX hP rfl al_105 tf1s (by omega) (by omega) (x := x2) x2e ?_
    refine r_ex hX hP 1 (pc' := 19) (st' := [(0, 122), (0, x2)]) (lo' := [(0, (2, this)), (1, (0, i))]) rfl ?_
    refine r_ic_gt hX hP rfl (tgt := 26) rfl (by omega) (by omega) (by omega) (by omega) (fun c4 => ?_) (fun c4 => ?_)
    · skip
      refine r_ex hX hP 1 (pc' := 27) (st' := [(0, 0)]) (lo' := [(0, (2, this)), (1, (0, i))]) rfl ?_
      exact r_retZ hX hP rfl rfl (by omega) (by omega) (by omega) (by omega) ⟨rfl, rfl, 0, rfl, (by omega)⟩
    · skip
      refine r_ex hX hP 2 (pc' := 27) (st' := [(0, 1)]) (lo' := [(0, (2, this)), (1, (0, i))]) rfl ?_
      exact r_retZ hX hP rfl rfl (by omega) (by omega) (by omega) (by omega) ⟨rfl, rfl, 1, rfl, (by omega)⟩
set_option maxRecDepth 100000 in
set_option maxHeartbeats 4000000 in
theorem c_X6_isDigit (E : En) (S : Sg) (G : Gh) (this : Int) (i : Int) (hS : S this = 131) (i_a : 0 ≤ i) (i_b : i ≤ 399) : Calls E mX6_isDigit [(2, this), (0, i)] S G 0 0 0 (fun r S' G' => S = S' ∧ G = G' ∧ ∃ z : Int, r = some (0, z) ∧ 0 ≤ z ∧ z ≤ 1) := by
  refine calls_by [(0, (2, this)), (1, (0, i))] rfl rfl (Nat.le_of_ble_eq_true rfl) (fun X hX => ?_)
  have hP := hPX6_isDigit
  refine r_ex hX hP 1 (pc' := 1) (st' := [(2, this)]) (lo' := [(0, (2, this)), (1, (0, i))]) rfl ?_
  refine r_getR hX hP rfl fl_X6_18_131 hS (fun tf1 tf1e tf1s => ?_)
  refine r_ex hX hP 1 (pc' := 5) (st' := [(0, i), (2, tf1)]) (lo' := [(0, (2, this)), (1, (0, i))]) rfl ?_
  refine r_iald hX hP rfl al_105 tf1s (by omega) (by omega) (fun x2 x2e x2a x2b => ?_)
  refine r_ex hX hP 1 (pc' := 8) (st' := [(0, 48), (0, x2)]) (lo' := [(0, (2, this)), (1, (0, i))]) rfl ?_
  refine r_ic_lt hX hP rfl (tgt := 26) rfl (by omega) (by omega) (by omega) (by omega) (fun c3 => ?_) (fun c3 => ?_)
  · skip
    refine r_ex hX hP 1 (pc' := 27) (st' := [(0, 0)]) (lo' := [(0, (2, this)), (1, (0, i))]) rfl ?_
    exact r_retZ hX hP rfl rfl (by omega) (by omega) (by omega) (by omega) ⟨rfl, rfl, 0, rfl, (by omega)⟩
  · skip
    refine r_ex hX hP 1 (pc' := 12) (st' := [(2, this)]) (lo' := [(0, (2, this)), (1, (0, i))]) rfl ?_
    refine r_getKR hX hP rfl fl_X6_18_131 hS (x := tf1) tf1e ?_
    refine r_ex hX hP 1 (pc' := 16) (st' := [(0, i), (2, tf1)]) (lo' := [(0, (2, this)), (1, (0, i))]) rfl ?_
    refine r_ialdK hX hP rfl al_105 tf1s (by omega) (by omega) (x := x2) x2e ?_
    refine r_ex hX hP 1 (pc' := 19) (st' := [(0, 57), (0, x2)]) (lo' := [(0, (2, this)), (1, (0, i))]) rfl ?_
    refine r_ic_gt hX hP rfl (tgt := 26) rfl (by omega) (by omega) (by omega) (by omega) (fun c4 => ?_) (fun c4 => ?_)
    · skip
      refine r_ex hX hP 1 (pc' := 27) (st' := [(0, 0)]) (lo' := [(0, (2, this)), (1, (0, i))]) rfl ?_
      exact r_retZ hX hP rfl rfl (by omega) (by omega) (by omega) (by omega) ⟨rfl, rfl, 0, rfl, (by omega)⟩
    · skip
      refine r_ex hX hP 2 (pc' := 27) (st' := [(0, 1)]) (lo' := [(0, (2, this)), (1, (0, i))]) rfl ?_
      exact r_retZ hX hP rfl rfl (by omega) (by omega) (by omega) (by omega) ⟨rfl, rfl, 1, rfl, (by omega)⟩
set_option maxRecDepth 100000 in
set_option maxHeartbeats 4000000 in
theorem c_X6_advance (E : En) (S : Sg) (G : Gh) (this : Int) (hS : S this = 131) : Calls E mX6_advance [(2, this)] S G 1 0 0 (fun r S' G' => S = S' ∧ (∃ G1, hw [(131, 5), (131, 6), (131, 7), (131, 8)] G G1 = G') ∧ r = none ∧ True) := by
  refine calls_by [(0, (2, this))] rfl rfl (Nat.le_of_ble_eq_true rfl) (fun X hX => ?_)
  have hP := hPX6_advance
  have x52 : ∀ (at_x52 : Int) (Gx52 : Gh), at_x52 = (hw [(131, 5)] G Gx52) 131 this 5 → 0 ≤ at_x52 → at_x52 ≤ 400 → X 0 0 52 [] [(0, (2, this))] S (hw [(131, 5)] G Gx52) := by
    intro at_x52 Gx52 at_x52_e yx52_0 yx52_1
    refine r_ex hX hP 2 (pc' := 54) (st' := [(2, this), (2, this)]) (lo' := [(0, (2, this))]) rfl ?_
    refine r_getKI hX hP rfl fl_X6_67_131 hS (x := at_x52) at_x52_e ?_
    refine r_putIK hX hP rfl fp_X6_83_131 hS (by omega) (by omega) (fun h1 => ?_)
    refine r_ex hX hP 1 (pc' := 61) (st' := [(2, this)]) (lo' := [(0, (2, this))]) rfl ?_
    refine r_getKI hX hP rfl fl_X6_67_131 hS (x := at_x52) at_x52_e ?_
    refine r_ex hX hP 1 (pc' := 65) (st' := [(2, this), (0, at_x52)]) (lo' := [(0, (2, this))]) rfl ?_
    refine r_getI hX hP rfl fl_X6_64_131 hS (fun ef2 ef2e ef2a ef2b => ?_)
    refine r_ic_lt hX hP rfl (tgt := 79) rfl (by omega) (by omega) (by omega) (by omega) (fun c3 => ?_) (fun c3 => ?_)
    · skip
      refine r_ex hX hP 2 (pc' := 81) (st' := [(2, this), (2, this)]) (lo' := [(0, (2, this))]) rfl ?_
      refine r_getKI hX hP rfl fl_X6_67_131 hS (x := at_x52) at_x52_e ?_
      refine r_callV gd hX hP rfl cv_X6_86_131 hS (d' := 0) (mc' := 0) (ms' := 0) (as' := [(0, at_x52)]) (st := []) (by omega) (by omega) (by omega) rfl rfl (Nat.le_of_ble_eq_true rfl) (c_X6_isLetter E S (up (hw [(131, 5)] G Gx52) 131 this 7 at_x52) this at_x52 hS (by omega) (by omega)) ?_
      rintro _ _ _ ⟨rfl, rfl, z4, rfl, z4a, z4b⟩
      refine r_if_eq hX hP rfl (tgt := 130) rfl (by omega) (by omega) (fun c5 => ?_) (fun c5 => ?_)
      · skip
        refine r_ex hX hP 2 (pc' := 132) (st' := [(2, this), (2, this)]) (lo' := [(0, (2, this))]) rfl ?_
        refine r_getKI hX hP rfl fl_X6_67_131 hS (x := at_x52) at_x52_e ?_
        refine r_callV gd hX hP rfl cv_X6_89_131 hS (d' := 0) (mc' := 0) (ms' := 0) (as' := [(0, at_x52)]) (st := []) (by omega) (by omega) (by omega) rfl rfl (Nat.le_of_ble_eq_true rfl) (c_X6_isDigit E S (up (hw [(131, 5)] G Gx52) 131 this 7 at_x52) this at_x52 hS (by omega) (by omega)) ?_
        rintro _ _ _ ⟨rfl, rfl, z6, rfl, z6a, z6b⟩
        refine r_if_eq hX hP rfl (tgt := 232) rfl (by omega) (by omega) (fun c7 => ?_) (fun c7 => ?_)
        · skip
          refine r_ex hX hP 1 (pc' := 233) (st' := [(2, this)]) (lo' := [(0, (2, this))]) rfl ?_
          refine r_getR hX hP rfl fl_X6_18_131 hS (fun tf8 tf8e tf8s => ?_)
          refine r_ex hX hP 1 (pc' := 237) (st' := [(2, this), (2, tf8)]) (lo' := [(0, (2, this))]) rfl ?_
          refine r_getKI hX hP rfl fl_X6_67_131 hS (x := at_x52) at_x52_e ?_
          refine r_iald hX hP rfl al_105 tf8s (by omega) (by omega) (fun x9 x9e x9a x9b => ?_)
          refine r_ex hX hP 3 (pc' := 245) (st' := [(0, 59), (0, x9)]) (lo' := [(0, (2, this)), (1, (0, x9))]) rfl ?_
          refine r_ic_eq hX hP rfl (tgt := 272) rfl (by omega) (by omega) (by omega) (by omega) (fun c10 => ?_) (fun c10 => ?_)
          · skip
            refine r_ex hX hP 5 (pc' := 280) (st' := [(0, 1), (2, this)]) (lo' := [(0, (2, this)), (1, (0, x9)), (2, (0, 1))]) rfl ?_
            refine r_if_eq hX hP rfl (tgt := 287) rfl (by omega) (by omega) (fun c11 => ?_) (fun c11 => ?_)
            · skip
              exfalso; omega
            · skip
              refine r_ex hX hP 2 (pc' := 288) (st' := [(0, x9), (2, this)]) (lo' := [(0, (2, this)), (1, (0, x9)), (2, (0, 1))]) rfl ?_
              refine r_putIK hX hP rfl fp_X6_38_131 hS (by omega) (by omega) (fun h12 => ?_)
              refine r_ex hX hP 2 (pc' := 293) (st' := [(2, this), (2, this)]) (lo' := [(0, (2, this)), (1, (0, x9)), (2, (0, 1))]) rfl ?_
              refine r_getKI hX hP rfl fl_X6_67_131 hS (x := at_x52) at_x52_e ?_
              refine r_ex hX hP 2 (pc' := 298) (st' := [(0, (at_x52 + 1)), (2, this)]) (lo' := [(0, (2, this)), (1, (0, x9)), (2, (0, 1))]) rfl ?_
              refine r_putIK hX hP rfl fp_X6_67_131 hS (by omega) (by omega) (fun h13 => ?_)
              exact r_retV hX hP rfl rfl (by omega) (by omega) ⟨rfl, ⟨_, (hw_up (hw_up (hw_up (hw_sub (hw_refl _ _) rfl) rfl) rfl) rfl).symm⟩, rfl, trivial⟩
          · skip
            refine r_ex hX hP 2 (pc' := 251) (st' := [(0, 123), (0, x9)]) (lo' := [(0, (2, this)), (1, (0, x9))]) rfl ?_
            refine r_ic_eq hX hP rfl (tgt := 272) rfl (by omega) (by omega) (by omega) (by omega) (fun c14 => ?_) (fun c14 => ?_)
            · skip
              refine r_ex hX hP 5 (pc' := 280) (st' := [(0, 1), (2, this)]) (lo' := [(0, (2, this)), (1, (0, x9)), (2, (0, 1))]) rfl ?_
              refine r_if_eq hX hP rfl (tgt := 287) rfl (by omega) (by omega) (fun c15 => ?_) (fun c15 => ?_)
              · skip
                exfalso; omega
              · skip
                refine r_ex hX hP 2 (pc' := 288) (st' := [(0, x9), (2, this)]) (lo' := [(0, (2, this)), (1, (0, x9)), (2, (0, 1))]) rfl ?_
                refine r_putIK hX hP rfl fp_X6_38_131 hS (by omega) (by omega) (fun h16 => ?_)
                refine r_ex hX hP 2 (pc' := 293) (st' := [(2, this), (2, this)]) (lo' := [(0, (2, this)), (1, (0, x9)), (2, (0, 1))]) rfl ?_
                refine r_getKI hX hP rfl fl_X6_67_131 hS (x := at_x52) at_x52_e ?_
                refine r_ex hX hP 2 (pc' := 298) (st' := [(0, (at_x52 + 1)), (2, this)]) (lo' := [(0, (2, this)), (1, (0, x9)), (2, (0, 1))]) rfl ?_
                refine r_putIK hX hP rfl fp_X6_67_131 hS (by omega) (by omega) (fun h17 => ?_)
                exact r_retV hX hP rfl rfl (by omega) (by omega) ⟨rfl, ⟨_, (hw_up (hw_up (hw_up (hw_sub (hw_refl _ _) rfl) rfl) rfl) rfl).symm⟩, rfl, trivial⟩
            · skip
              refine r_ex hX hP 2 (pc' := 257) (st' := [(0, 125), (0, x9)]) (lo' := [(0, (2, this)), (1, (0, x9))]) rfl ?_
              refine r_ic_eq hX hP rfl (tgt := 272) rfl (by omega) (by omega) (by omega) (by omega) (fun c18 => ?_) (fun c18 => ?_)
              · skip
                refine r_ex hX hP 5 (pc' := 280) (st' := [(0, 1), (2, this)]) (lo' := [(0, (2, this)), (1, (0, x9)), (2, (0, 1))]) rfl ?_
                refine r_if_eq hX hP rfl (tgt := 287) rfl (by omega) (by omega) (fun c19 => ?_) (fun c19 => ?_)
                · skip
                  exfalso; omega
                · skip
                  refine r_ex hX hP 2 (pc' := 288) (st' := [(0, x9), (2, this)]) (lo' := [(0, (2, this)), (1, (0, x9)), (2, (0, 1))]) rfl ?_
                  refine r_putIK hX hP rfl fp_X6_38_131 hS (by omega) (by omega) (fun h20 => ?_)
                  refine r_ex hX hP 2 (pc' := 293) (st' := [(2, this), (2, this)]) (lo' := [(0, (2, this)), (1, (0, x9)), (2, (0, 1))]) rfl ?_
                  refine r_getKI hX hP rfl fl_X6_67_131 hS (x := at_x52) at_x52_e ?_
                  refine r_ex hX hP 2 (pc' := 298) (st' := [(0, (at_x52 + 1)), (2, this)]) (lo' := [(0, (2, this)), (1, (0, x9)), (2, (0, 1))]) rfl ?_
                  refine r_putIK hX hP rfl fp_X6_67_131 hS (by omega) (by omega) (fun h21 => ?_)
                  exact r_retV hX hP rfl rfl (by omega) (by omega) ⟨rfl, ⟨_, (hw_up (hw_up (hw_up (hw_sub (hw_refl _ _) rfl) rfl) rfl) rfl).symm⟩, rfl, trivial⟩
              · skip
                refine r_ex hX hP 2 (pc' := 263) (st' := [(0, 60), (0, x9)]) (lo' := [(0, (2, this)), (1, (0, x9))]) rfl ?_
                refine r_ic_eq hX hP rfl (tgt := 272) rfl (by omega) (by omega) (by omega) (by omega) (fun c22 => ?_) (fun c22 => ?_)
                · skip
                  refine r_ex hX hP 5 (pc' := 280) (st' := [(0, 1), (2, this)]) (lo' := [(0, (2, this)), (1, (0, x9)), (2, (0, 1))]) rfl ?_
                  refine r_if_eq hX hP rfl (tgt := 287) rfl (by omega) (by omega) (fun c23 => ?_) (fun c23 => ?_)
                  · skip
                    exfalso; omega
                  · skip
                    refine r_ex hX hP 2 (pc' := 288) (st' := [(0, x9), (2, this)]) (lo' := [(0, (2, this)), (1, (0, x9)), (2, (0, 1))]) rfl ?_
                    refine r_putIK hX hP rfl fp_X6_38_131 hS (by omega) (by omega) (fun h24 => ?_)
                    refine r_ex hX hP 2 (pc' := 293) (st' := [(2, this), (2, this)]) (lo' := [(0, (2, this)), (1, (0, x9)), (2, (0, 1))]) rfl ?_
                    refine r_getKI hX hP rfl fl_X6_67_131 hS (x := at_x52) at_x52_e ?_
                    refine r_ex hX hP 2 (pc' := 298) (st' := [(0, (at_x52 + 1)), (2, this)]) (lo' := [(0, (2, this)), (1, (0, x9)), (2, (0, 1))]) rfl ?_
                    refine r_putIK hX hP rfl fp_X6_67_131 hS (by omega) (by omega) (fun h25 => ?_)
                    exact r_retV hX hP rfl rfl (by omega) (by omega) ⟨rfl, ⟨_, (hw_up (hw_up (hw_up (hw_sub (hw_refl _ _) rfl) rfl) rfl) rfl).symm⟩, rfl, trivial⟩
                · skip
                  refine r_ex hX hP 2 (pc' := 269) (st' := [(0, 62), (0, x9)]) (lo' := [(0, (2, this)), (1, (0, x9))]) rfl ?_
                  refine r_ic_ne hX hP rfl (tgt := 276) rfl (by omega) (by omega) (by omega) (by omega) (fun c26 => ?_) (fun c26 => ?_)
                  · skip
                    refine r_ex hX hP 4 (pc' := 280) (st' := [(0, 0), (2, this)]) (lo' := [(0, (2, this)), (1, (0, x9)), (2, (0, 0))]) rfl ?_
                    refine r_if_eq hX hP rfl (tgt := 287) rfl (by omega) (by omega) (fun c27 => ?_) (fun c27 => ?_)
                    · skip
                      refine r_ex hX hP 1 (pc' := 288) (st' := [(0, 3), (2, this)]) (lo' := [(0, (2, this)), (1, (0, x9)), (2, (0, 0))]) rfl ?_
                      refine r_putIK hX hP rfl fp_X6_38_131 hS (by omega) (by omega) (fun h28 => ?_)
                      refine r_ex hX hP 2 (pc' := 293) (st' := [(2, this), (2, this)]) (lo' := [(0, (2, this)), (1, (0, x9)), (2, (0, 0))]) rfl ?_
                      refine r_getKI hX hP rfl fl_X6_67_131 hS (x := at_x52) at_x52_e ?_
                      refine r_ex hX hP 2 (pc' := 298) (st' := [(0, (at_x52 + 1)), (2, this)]) (lo' := [(0, (2, this)), (1, (0, x9)), (2, (0, 0))]) rfl ?_
                      refine r_putIK hX hP rfl fp_X6_67_131 hS (by omega) (by omega) (fun h29 => ?_)
                      exact r_retV hX hP rfl rfl (by omega) (by omega) ⟨rfl, ⟨_, (hw_up (hw_up (hw_up (hw_sub (hw_refl _ _) rfl) rfl) rfl) rfl).symm⟩, rfl, trivial⟩
                    · skip
                      exfalso; omega
                  · skip
                    refine r_ex hX hP 5 (pc' := 280) (st' := [(0, 1), (2, this)]) (lo' := [(0, (2, this)), (1, (0, x9)), (2, (0, 1))]) rfl ?_
                    refine r_if_eq hX hP rfl (tgt := 287) rfl (by omega) (by omega) (fun c30 => ?_) (fun c30 => ?_)
                    · skip
                      exfalso; omega
                    · skip
                      refine r_ex hX hP 2 (pc' := 288) (st' := [(0, x9), (2, this)]) (lo' := [(0, (2, this)), (1, (0, x9)), (2, (0, 1))]) rfl ?_
                      refine r_putIK hX hP rfl fp_X6_38_131 hS (by omega) (by omega) (fun h31 => ?_)
                      refine r_ex hX hP 2 (pc' := 293) (st' := [(2, this), (2, this)]) (lo' := [(0, (2, this)), (1, (0, x9)), (2, (0, 1))]) rfl ?_
                      refine r_getKI hX hP rfl fl_X6_67_131 hS (x := at_x52) at_x52_e ?_
                      refine r_ex hX hP 2 (pc' := 298) (st' := [(0, (at_x52 + 1)), (2, this)]) (lo' := [(0, (2, this)), (1, (0, x9)), (2, (0, 1))]) rfl ?_
                      refine r_putIK hX hP rfl fp_X6_67_131 hS (by omega) (by omega) (fun h32 => ?_)
                      exact r_retV hX hP rfl rfl (by omega) (by omega) ⟨rfl, ⟨_, (hw_up (hw_up (hw_up (hw_sub (hw_refl _ _) rfl) rfl) rfl) rfl).symm⟩, rfl, trivial⟩
        · skip
          refine r_ex hX hP 2 (pc' := 143) (st' := [(0, 2), (2, this)]) (lo' := [(0, (2, this))]) rfl ?_
          refine r_putIK hX hP rfl fp_X6_38_131 hS (by omega) (by omega) (fun h33 => ?_)
          refine r_ex hX hP 2 (pc' := 148) (st' := [(0, 0), (2, this)]) (lo' := [(0, (2, this))]) rfl ?_
          refine r_putIK hX hP rfl fp_X6_92_131 hS (by omega) (by omega) (fun h34 => ?_)
          have x301 : ∀ (at_x301 : Int) (Gx301 : Gh), at_x301 = (hw [(131, 5), (131, 6), (131, 8)] (up (up (up (hw [(131, 5)] G Gx52) 131 this 7 at_x52) 131 this 6 2) 131 this 8 0) Gx301) 131 this 5 → 0 ≤ at_x301 → at_x301 ≤ 400 → X 0 0 301 [] [(0, (2, this))] S (hw [(131, 5), (131, 6), (131, 8)] (up (up (up (hw [(131, 5)] G Gx52) 131 this 7 at_x52) 131 this 6 2) 131 this 8 0) Gx301) := by
            intro at_x301 Gx301 at_x301_e yx301_0 yx301_1
            exact r_retV hX hP rfl rfl (by omega) (by omega) ⟨rfl, ⟨_, (hw_sub (hw_up (hw_up (hw_up (hw_sub (hw_refl _ _) rfl) rfl) rfl) rfl) rfl).symm⟩, rfl, trivial⟩
          have loop151 : ∀ (nF : Nat) (at_h151 : Int) (Gh151 : Gh), at_h151 = (hw [(131, 5), (131, 6), (131, 8)] (up (up (up (hw [(131, 5)] G Gx52) 131 this 7 at_x52) 131 this 6 2) 131 this 8 0) Gh151) 131 this 5 → 0 ≤ at_h151 → at_h151 ≤ 400 → 400 - at_h151 < (nF : Int) → X 0 0 151 [] [(0, (2, this))] S (hw [(131, 5), (131, 6), (131, 8)] (up (up (up (hw [(131, 5)] G Gx52) 131 this 7 at_x52) 131 this 6 2) 131 this 8 0) Gh151) := by
            intro nF
            induction nF with
            | zero => intro at_h151 Gh151 at_h151_e yh151_0 yh151_1 ym151; exfalso; omega
            | succ nF ih151 =>
              intro at_h151 Gh151 at_h151_e yh151_0 yh151_1 ym151
              refine r_ex hX hP 1 (pc' := 152) (st' := [(2, this)]) (lo' := [(0, (2, this))]) rfl ?_
              refine r_getKI hX hP rfl fl_X6_67_131 hS (x := at_h151) at_h151_e ?_
              refine r_ex hX hP 1 (pc' := 156) (st' := [(2, this), (0, at_h151)]) (lo' := [(0, (2, this))]) rfl ?_
              refine r_getKI hX hP rfl fl_X6_64_131 hS (x := ef2) ef2e ?_
              refine r_ic_ge hX hP rfl (tgt := 301) rfl (by omega) (by omega) (by omega) (by omega) (fun c35 => ?_) (fun c35 => ?_)
              · skip
                refine r_eqG (X := X) (hw_sub (hw_refl [(131, 5), (131, 6), (131, 8)] _) rfl) ?_
                exact x301 at_h151 _ at_h151_e (by omega) (by omega)
              · skip
                refine r_ex hX hP 2 (pc' := 164) (st' := [(2, this), (2, this)]) (lo' := [(0, (2, this))]) rfl ?_
                refine r_getKI hX hP rfl fl_X6_67_131 hS (x := at_h151) at_h151_e ?_
                refine r_callV gd hX hP rfl cv_X6_89_131 hS (d' := 0) (mc' := 0) (ms' := 0) (as' := [(0, at_h151)]) (st := []) (by omega) (by omega) (by omega) rfl rfl (Nat.le_of_ble_eq_true rfl) (c_X6_isDigit E S (hw [(131, 5), (131, 6), (131, 8)] (up (up (up (hw [(131, 5)] G Gx52) 131 this 7 at_x52) 131 this 6 2) 131 this 8 0) Gh151) this at_h151 hS (by omega) (by omega)) ?_
                rintro _ _ _ ⟨rfl, rfl, z36, rfl, z36a, z36b⟩
                refine r_if_eq hX hP rfl (tgt := 301) rfl (by omega) (by omega) (fun c37 => ?_) (fun c37 => ?_)
                · skip
                  refine r_eqG (X := X) (hw_sub (hw_refl [(131, 5), (131, 6), (131, 8)] _) rfl) ?_
                  exact x301 at_h151 _ at_h151_e (by omega) (by omega)
                · skip
                  refine r_ex hX hP 1 (pc' := 174) (st' := [(2, this)]) (lo' := [(0, (2, this))]) rfl ?_
                  refine r_getKI hX hP rfl fl_X6_67_131 hS (x := at_h151) at_h151_e ?_
                  refine r_ex hX hP 1 (pc' := 178) (st' := [(2, this), (0, at_h151)]) (lo' := [(0, (2, this))]) rfl ?_
                  refine r_getKI hX hP rfl fl_X6_83_131 hS (x := at_x52) h1 ?_
                  refine r_ex hX hP 2 (pc' := 184) (st' := [(0, 7), (0, (at_h151 - at_x52))]) (lo' := [(0, (2, this))]) rfl ?_
                  refine r_ic_ge hX hP rfl (tgt := 214) rfl (by omega) (by omega) (by omega) (by omega) (fun c38 => ?_) (fun c38 => ?_)
                  · skip
                    refine r_ex hX hP 2 (pc' := 216) (st' := [(0, 3), (2, this)]) (lo' := [(0, (2, this))]) rfl ?_
                    refine r_putIK hX hP rfl fp_X6_38_131 hS (by omega) (by omega) (fun h39 => ?_)
                    refine r_ex hX hP 2 (pc' := 221) (st' := [(2, this), (2, this)]) (lo' := [(0, (2, this))]) rfl ?_
                    refine r_getKI hX hP rfl fl_X6_67_131 hS (x := at_h151) at_h151_e ?_
                    refine r_ex hX hP 2 (pc' := 226) (st' := [(0, (at_h151 + 1)), (2, this)]) (lo' := [(0, (2, this))]) rfl ?_
                    refine r_putIK hX hP rfl fp_X6_67_131 hS (by omega) (by omega) (fun h40 => ?_)
                    refine r_ex hX hP 1 (pc' := 151) (st' := []) (lo' := [(0, (2, this))]) rfl ?_
                    refine r_eqG (X := X) (hw_up (hw_up (hw_base _ _ _) rfl) rfl) ?_
                    exact ih151 (at_h151 + 1) _ h40 (by omega) (by omega) (by omega)
                  · skip
                    refine r_ex hX hP 2 (pc' := 189) (st' := [(2, this), (2, this)]) (lo' := [(0, (2, this))]) rfl ?_
                    refine r_getI hX hP rfl fl_X6_92_131 hS (fun vf41 vf41e vf41a vf41b => ?_)
                    refine r_ex hX hP 2 (pc' := 195) (st' := [(0, (vf41 * 10)), (2, this)]) (lo' := [(0, (2, this))]) rfl ?_
                    refine r_hvI hX (fun w42 w42a w42b w42e => ?_)
                    refine r_ex hX hP 1 (pc' := 196) (st' := [(2, this), (0, w42), (2, this)]) (lo' := [(0, (2, this))]) rfl ?_
                    refine r_getR hX hP rfl fl_X6_18_131 hS (fun tf43 tf43e tf43s => ?_)
                    refine r_ex hX hP 1 (pc' := 200) (st' := [(2, this), (2, tf43), (0, w42), (2, this)]) (lo' := [(0, (2, this))]) rfl ?_
                    refine r_getKI hX hP rfl fl_X6_67_131 hS (x := at_h151) at_h151_e ?_
                    refine r_iald hX hP rfl al_105 tf43s (by omega) (by omega) (fun x44 x44e x44a x44b => ?_)
                    refine r_ex hX hP 1 (pc' := 205) (st' := [(0, (w42 + x44)), (2, this)]) (lo' := [(0, (2, this))]) rfl ?_
                    refine r_hvI hX (fun w45 w45a w45b w45e => ?_)
                    refine r_ex hX hP 2 (pc' := 208) (st' := [(0, (w45 - 48)), (2, this)]) (lo' := [(0, (2, this))]) rfl ?_
                    refine r_hvI hX (fun w46 w46a w46b w46e => ?_)
                    refine r_putIK hX hP rfl fp_X6_92_131 hS (by omega) (by omega) (fun h47 => ?_)
                    refine r_ex hX hP 3 (pc' := 221) (st' := [(2, this), (2, this)]) (lo' := [(0, (2, this))]) rfl ?_
                    refine r_getKI hX hP rfl fl_X6_67_131 hS (x := at_h151) at_h151_e ?_
                    refine r_ex hX hP 2 (pc' := 226) (st' := [(0, (at_h151 + 1)), (2, this)]) (lo' := [(0, (2, this))]) rfl ?_
                    refine r_putIK hX hP rfl fp_X6_67_131 hS (by omega) (by omega) (fun h48 => ?_)
                    refine r_ex hX hP 1 (pc' := 151) (st' := []) (lo' := [(0, (2, this))]) rfl ?_
                    refine r_eqG (X := X) (hw_up (hw_up (hw_base _ _ _) rfl) rfl) ?_
                    exact ih151 (at_h151 + 1) _ h48 (by omega) (by omega) (by omega)
          refine r_eqG (X := X) (hw_refl [(131, 5), (131, 6), (131, 8)] _) ?_
          exact loop151 ((400 - at_x52) + 1 : Int).toNat at_x52 _ at_x52_e (by omega) (by omega) (by omega)
      · skip
        refine r_ex hX hP 2 (pc' := 92) (st' := [(0, 1), (2, this)]) (lo' := [(0, (2, this))]) rfl ?_
        refine r_putIK hX hP rfl fp_X6_38_131 hS (by omega) (by omega) (fun h49 => ?_)
        have x301 : ∀ (at_x301 : Int) (Gx301 : Gh), at_x301 = (hw [(131, 5)] (up (up (hw [(131, 5)] G Gx52) 131 this 7 at_x52) 131 this 6 1) Gx301) 131 this 5 → 0 ≤ at_x301 → at_x301 ≤ 400 → X 0 0 301 [] [(0, (2, this))] S (hw [(131, 5)] (up (up (hw [(131, 5)] G Gx52) 131 this 7 at_x52) 131 this 6 1) Gx301) := by
          intro at_x301 Gx301 at_x301_e yx301_0 yx301_1
          exact r_retV hX hP rfl rfl (by omega) (by omega) ⟨rfl, ⟨_, (hw_sub (hw_up (hw_up (hw_sub (hw_refl _ _) rfl) rfl) rfl) rfl).symm⟩, rfl, trivial⟩
        have loop95 : ∀ (nF : Nat) (at_h95 : Int) (Gh95 : Gh), at_h95 = (hw [(131, 5)] (up (up (hw [(131, 5)] G Gx52) 131 this 7 at_x52) 131 this 6 1) Gh95) 131 this 5 → 0 ≤ at_h95 → at_h95 ≤ 400 → 400 - at_h95 < (nF : Int) → X 0 0 95 [] [(0, (2, this))] S (hw [(131, 5)] (up (up (hw [(131, 5)] G Gx52) 131 this 7 at_x52) 131 this 6 1) Gh95) := by
          intro nF
          induction nF with
          | zero => intro at_h95 Gh95 at_h95_e yh95_0 yh95_1 ym95; exfalso; omega
          | succ nF ih95 =>
            intro at_h95 Gh95 at_h95_e yh95_0 yh95_1 ym95
            refine r_ex hX hP 1 (pc' := 96) (st' := [(2, this)]) (lo' := [(0, (2, this))]) rfl ?_
            refine r_getKI hX hP rfl fl_X6_67_131 hS (x := at_h95) at_h95_e ?_
            refine r_ex hX hP 1 (pc' := 100) (st' := [(2, this), (0, at_h95)]) (lo' := [(0, (2, this))]) rfl ?_
            refine r_getKI hX hP rfl fl_X6_64_131 hS (x := ef2) ef2e ?_
            refine r_ic_ge hX hP rfl (tgt := 301) rfl (by omega) (by omega) (by omega) (by omega) (fun c50 => ?_) (fun c50 => ?_)
            · skip
              refine r_eqG (X := X) (hw_sub (hw_refl [(131, 5)] _) rfl) ?_
              exact x301 at_h95 _ at_h95_e (by omega) (by omega)
            · skip
              refine r_ex hX hP 2 (pc' := 108) (st' := [(2, this), (2, this)]) (lo' := [(0, (2, this))]) rfl ?_
              refine r_getKI hX hP rfl fl_X6_67_131 hS (x := at_h95) at_h95_e ?_
              refine r_callV gd hX hP rfl cv_X6_86_131 hS (d' := 0) (mc' := 0) (ms' := 0) (as' := [(0, at_h95)]) (st := []) (by omega) (by omega) (by omega) rfl rfl (Nat.le_of_ble_eq_true rfl) (c_X6_isLetter E S (hw [(131, 5)] (up (up (hw [(131, 5)] G Gx52) 131 this 7 at_x52) 131 this 6 1) Gh95) this at_h95 hS (by omega) (by omega)) ?_
              rintro _ _ _ ⟨rfl, rfl, z51, rfl, z51a, z51b⟩
              refine r_if_eq hX hP rfl (tgt := 301) rfl (by omega) (by omega) (fun c52 => ?_) (fun c52 => ?_)
              · skip
                refine r_eqG (X := X) (hw_sub (hw_refl [(131, 5)] _) rfl) ?_
                exact x301 at_h95 _ at_h95_e (by omega) (by omega)
              · skip
                refine r_ex hX hP 2 (pc' := 119) (st' := [(2, this), (2, this)]) (lo' := [(0, (2, this))]) rfl ?_
                refine r_getKI hX hP rfl fl_X6_67_131 hS (x := at_h95) at_h95_e ?_
                refine r_ex hX hP 2 (pc' := 124) (st' := [(0, (at_h95 + 1)), (2, this)]) (lo' := [(0, (2, this))]) rfl ?_
                refine r_putIK hX hP rfl fp_X6_67_131 hS (by omega) (by omega) (fun h53 => ?_)
                refine r_ex hX hP 1 (pc' := 95) (st' := []) (lo' := [(0, (2, this))]) rfl ?_
                refine r_eqG (X := X) (hw_up (hw_base _ _ _) rfl) ?_
                exact ih95 (at_h95 + 1) _ h53 (by omega) (by omega) (by omega)
        refine r_eqG (X := X) (hw_refl [(131, 5)] _) ?_
        exact loop95 ((400 - at_x52) + 1 : Int).toNat at_x52 _ at_x52_e (by omega) (by omega) (by omega)
    · skip
      refine r_ex hX hP 2 (pc' := 73) (st' := [(0, 0), (2, this)]) (lo' := [(0, (2, this))]) rfl ?_
      refine r_putIK hX hP rfl fp_X6_38_131 hS (by omega) (by omega) (fun h54 => ?_)
      refine r_ex hX hP 1 (pc' := 301) (st' := []) (lo' := [(0, (2, this))]) rfl ?_
      exact r_retV hX hP rfl rfl (by omega) (by omega) ⟨rfl, ⟨_, (hw_up (hw_up (hw_sub (hw_refl _ _) rfl) rfl) rfl).symm⟩, rfl, trivial⟩
  have loop0 : ∀ (nF : Nat) (at_h0 : Int) (Gh0 : Gh), at_h0 = (hw [(131, 5)] G Gh0) 131 this 5 → 0 ≤ at_h0 → at_h0 ≤ 400 → 400 - at_h0 < (nF : Int) → X 0 0 0 [] [(0, (2, this))] S (hw [(131, 5)] G Gh0) := by
    intro nF
    induction nF with
    | zero => intro at_h0 Gh0 at_h0_e yh0_0 yh0_1 ym0; exfalso; omega
    | succ nF ih0 =>
      intro at_h0 Gh0 at_h0_e yh0_0 yh0_1 ym0
      refine r_ex hX hP 1 (pc' := 1) (st' := [(2, this)]) (lo' := [(0, (2, this))]) rfl ?_
      refine r_getKI hX hP rfl fl_X6_67_131 hS (x := at_h0) at_h0_e ?_
      refine r_ex hX hP 1 (pc' := 5) (st' := [(2, this), (0, at_h0)]) (lo' := [(0, (2, this))]) rfl ?_
      refine r_getI hX hP rfl fl_X6_64_131 hS (fun ef55 ef55e ef55a ef55b => ?_)
      refine r_ic_ge hX hP rfl (tgt := 52) rfl (by omega) (by omega) (by omega) (by omega) (fun c56 => ?_) (fun c56 => ?_)
      · skip
        refine r_eqG (X := X) (hw_sub (hw_refl [(131, 5)] _) rfl) ?_
        exact x52 at_h0 _ at_h0_e (by omega) (by omega)
      · skip
        refine r_ex hX hP 1 (pc' := 12) (st' := [(2, this)]) (lo' := [(0, (2, this))]) rfl ?_
        refine r_getR hX hP rfl fl_X6_18_131 hS (fun tf57 tf57e tf57s => ?_)
        refine r_ex hX hP 1 (pc' := 16) (st' := [(2, this), (2, tf57)]) (lo' := [(0, (2, this))]) rfl ?_
        refine r_getKI hX hP rfl fl_X6_67_131 hS (x := at_h0) at_h0_e ?_
        refine r_iald hX hP rfl al_105 tf57s (by omega) (by omega) (fun x58 x58e x58a x58b => ?_)
        refine r_ex hX hP 1 (pc' := 22) (st' := [(0, 32), (0, x58)]) (lo' := [(0, (2, this))]) rfl ?_
        refine r_ic_eq hX hP rfl (tgt := 39) rfl (by omega) (by omega) (by omega) (by omega) (fun c59 => ?_) (fun c59 => ?_)
        · skip
          refine r_ex hX hP 2 (pc' := 41) (st' := [(2, this), (2, this)]) (lo' := [(0, (2, this))]) rfl ?_
          refine r_getKI hX hP rfl fl_X6_67_131 hS (x := at_h0) at_h0_e ?_
          refine r_ex hX hP 2 (pc' := 46) (st' := [(0, (at_h0 + 1)), (2, this)]) (lo' := [(0, (2, this))]) rfl ?_
          refine r_putIK hX hP rfl fp_X6_67_131 hS (by omega) (by omega) (fun h60 => ?_)
          refine r_ex hX hP 1 (pc' := 0) (st' := []) (lo' := [(0, (2, this))]) rfl ?_
          refine r_eqG (X := X) (hw_up (hw_base _ _ _) rfl) ?_
          exact ih0 (at_h0 + 1) _ h60 (by omega) (by omega) (by omega)
        · skip
          refine r_ex hX hP 1 (pc' := 26) (st' := [(2, this)]) (lo' := [(0, (2, this))]) rfl ?_
          refine r_getKR hX hP rfl fl_X6_18_131 hS (x := tf57) tf57e ?_
          refine r_ex hX hP 1 (pc' := 30) (st' := [(2, this), (2, tf57)]) (lo' := [(0, (2, this))]) rfl ?_
          refine r_getKI hX hP rfl fl_X6_67_131 hS (x := at_h0) at_h0_e ?_
          refine r_ialdK hX hP rfl al_105 tf57s (by omega) (by omega) (x := x58) x58e ?_
          refine r_ex hX hP 1 (pc' := 36) (st' := [(0, 10), (0, x58)]) (lo' := [(0, (2, this))]) rfl ?_
          refine r_ic_ne hX hP rfl (tgt := 52) rfl (by omega) (by omega) (by omega) (by omega) (fun c61 => ?_) (fun c61 => ?_)
          · skip
            refine r_eqG (X := X) (hw_sub (hw_refl [(131, 5)] _) rfl) ?_
            exact x52 at_h0 _ at_h0_e (by omega) (by omega)
          · skip
            refine r_ex hX hP 2 (pc' := 41) (st' := [(2, this), (2, this)]) (lo' := [(0, (2, this))]) rfl ?_
            refine r_getKI hX hP rfl fl_X6_67_131 hS (x := at_h0) at_h0_e ?_
            refine r_ex hX hP 2 (pc' := 46) (st' := [(0, (at_h0 + 1)), (2, this)]) (lo' := [(0, (2, this))]) rfl ?_
            refine r_putIK hX hP rfl fp_X6_67_131 hS (by omega) (by omega) (fun h62 => ?_)
            refine r_ex hX hP 1 (pc' := 0) (st' := []) (lo' := [(0, (2, this))]) rfl ?_
            refine r_eqG (X := X) (hw_up (hw_base _ _ _) rfl) ?_
            exact ih0 (at_h0 + 1) _ h62 (by omega) (by omega) (by omega)
  refine r_peekI hX (tl_131 5 rfl (by decide)) hS (fun atp63 atp63e atp63a atp63b => ?_)
  refine r_eqG (X := X) (hw_refl [(131, 5)] _) ?_
  exact loop0 ((400 - atp63) + 1 : Int).toNat atp63 _ atp63e (by omega) (by omega) (by omega)
set_option maxRecDepth 100000 in
set_option maxHeartbeats 4000000 in
theorem c_X6_fail (E : En) (S : Sg) (G : Gh) (this : Int) (how : Int) (hS : S this = 131) (how_a : 1 ≤ how) (how_b : how ≤ 6) : Calls E mX6_fail [(2, this), (0, how)] S G 0 0 0 (fun r S' G' => S = S' ∧ (∃ G1, hw [(131, 1), (131, 2)] G G1 = G') ∧ ∃ z : Int, r = some (0, z) ∧ ∃ f1 : Int, f1 = G' 131 this 1 ∧ (z = 0) ∧ f1 ≠ 0) := by
  refine calls_by [(0, (2, this)), (1, (0, how))] rfl rfl (Nat.le_of_ble_eq_true rfl) (fun X hX => ?_)
  have hP := hPX6_fail
  refine r_ex hX hP 1 (pc' := 1) (st' := [(2, this)]) (lo' := [(0, (2, this)), (1, (0, how))]) rfl ?_
  refine r_getI hX hP rfl fl_X6_9_131 hS (fun ff1 ff1e ff1a ff1b => ?_)
  refine r_if_ne hX hP rfl (tgt := 20) rfl (by omega) (by omega) (fun c2 => ?_) (fun c2 => ?_)
  · skip
    refine r_ex hX hP 1 (pc' := 21) (st' := [(0, 0)]) (lo' := [(0, (2, this)), (1, (0, how))]) rfl ?_
    exact r_retZ hX hP rfl rfl (by omega) (by omega) (by omega) (by omega) ⟨rfl, ⟨_, (hw_refl _ _).symm⟩, 0, rfl, ff1, ff1e, (by omega), (by omega)⟩
  · skip
    refine r_ex hX hP 2 (pc' := 9) (st' := [(0, how), (2, this)]) (lo' := [(0, (2, this)), (1, (0, how))]) rfl ?_
    refine r_putIK hX hP rfl fp_X6_9_131 hS (by omega) (by omega) (fun h3 => ?_)
    refine r_ex hX hP 2 (pc' := 14) (st' := [(2, this), (2, this)]) (lo' := [(0, (2, this)), (1, (0, how))]) rfl ?_
    refine r_getI hX hP rfl fl_X6_83_131 hS (fun sf4 sf4e sf4a sf4b => ?_)
    refine r_putIK hX hP rfl fp_X6_15_131 hS (by omega) (by omega) (fun h5 => ?_)
    refine r_ex hX hP 1 (pc' := 21) (st' := [(0, 0)]) (lo' := [(0, (2, this)), (1, (0, how))]) rfl ?_
    exact r_retZ hX hP rfl rfl (by omega) (by omega) (by omega) (by omega) ⟨rfl, ⟨_, (hw_up (hw_up (hw_refl _ _) rfl) rfl).symm⟩, 0, rfl, how, h3, (by omega), (by omega)⟩
set_option maxRecDepth 100000 in
set_option maxHeartbeats 4000000 in
theorem c_X6_expect (E : En) (S : Sg) (G : Gh) (this : Int) (wanted : Int) (hS : S this = 131) (f0 : Int) (f0_e : f0 = G 131 this 1) (wanted_a : (-2147483648) ≤ wanted) (wanted_b : wanted ≤ 2147483647) : Calls E mX6_expect [(2, this), (0, wanted)] S G 1 0 0 (fun r S' G' => S = S' ∧ (∃ G1, hw [(131, 1), (131, 2)] G G1 = G') ∧ ∃ z : Int, r = some (0, z) ∧ ∃ f1 : Int, f1 = G' 131 this 1 ∧ ((z = 1 ∧ f1 = 0 ∧ f0 = 0) ∨ (z = 0 ∧ f1 ≠ 0))) := by
  refine calls_by [(0, (2, this)), (1, (0, wanted))] rfl rfl (Nat.le_of_ble_eq_true rfl) (fun X hX => ?_)
  have hP := hPX6_expect
  refine r_peekI hX (tl_131 1 rfl (by decide)) hS (fun f0_o f0_oe f0_oa f0_ob => ?_)
  obtain rfl : f0 = f0_o := f0_e.trans f0_oe.symm
  refine r_ex hX hP 1 (pc' := 1) (st' := [(2, this)]) (lo' := [(0, (2, this)), (1, (0, wanted))]) rfl ?_
  refine r_getKI hX hP rfl fl_X6_9_131 hS (x := f0) f0_e ?_
  refine r_if_eq hX hP rfl (tgt := 9) rfl (by omega) (by omega) (fun c1 => ?_) (fun c1 => ?_)
  · skip
    refine r_ex hX hP 1 (pc' := 10) (st' := [(2, this)]) (lo' := [(0, (2, this)), (1, (0, wanted))]) rfl ?_
    refine r_getI hX hP rfl fl_X6_38_131 hS (fun tf2 tf2e tf2a tf2b => ?_)
    refine r_ex hX hP 1 (pc' := 14) (st' := [(0, wanted), (0, tf2)]) (lo' := [(0, (2, this)), (1, (0, wanted))]) rfl ?_
    refine r_ic_ne hX hP rfl (tgt := 19) rfl (by omega) (by omega) (by omega) (by omega) (fun c3 => ?_) (fun c3 => ?_)
    · skip
      refine r_ex hX hP 2 (pc' := 21) (st' := [(2, this), (2, this)]) (lo' := [(0, (2, this)), (1, (0, wanted))]) rfl ?_
      refine r_getKI hX hP rfl fl_X6_38_131 hS (x := tf2) tf2e ?_
      refine r_ex hX hP 1 (pc' := 25) (st' := [(0, 3), (0, tf2), (2, this)]) (lo' := [(0, (2, this)), (1, (0, wanted))]) rfl ?_
      refine r_ic_ne hX hP rfl (tgt := 32) rfl (by omega) (by omega) (by omega) (by omega) (fun c4 => ?_) (fun c4 => ?_)
      · skip
        refine r_ex hX hP 1 (pc' := 33) (st' := [(0, 2), (2, this)]) (lo' := [(0, (2, this)), (1, (0, wanted))]) rfl ?_
        refine r_callV gd hX hP rfl cv_X6_44_131 hS (d' := 0) (mc' := 0) (ms' := 0) (as' := [(0, 2)]) (st := []) (by omega) (by omega) (by omega) rfl rfl (Nat.le_of_ble_eq_true rfl) (c_X6_fail E S G this 2 hS (by omega) (by omega)) ?_
        rintro _ _ _ ⟨rfl, ⟨G5, rfl⟩, z6, rfl, flh7, flh7e, rfl, f8⟩
        refine r_peekI hX (tl_131 1 rfl (by decide)) hS (fun o9 o9e o9a o9b => ?_)
        obtain rfl : flh7 = o9 := flh7e.trans o9e.symm
        exact r_retZ hX hP rfl rfl (by omega) (by omega) (by omega) (by omega) ⟨rfl, ⟨_, (hw_sub (hw_refl _ _) rfl).symm⟩, 0, rfl, flh7, flh7e, (by omega)⟩
      · skip
        refine r_ex hX hP 2 (pc' := 33) (st' := [(0, 1), (2, this)]) (lo' := [(0, (2, this)), (1, (0, wanted))]) rfl ?_
        refine r_callV gd hX hP rfl cv_X6_44_131 hS (d' := 0) (mc' := 0) (ms' := 0) (as' := [(0, 1)]) (st := []) (by omega) (by omega) (by omega) rfl rfl (Nat.le_of_ble_eq_true rfl) (c_X6_fail E S G this 1 hS (by omega) (by omega)) ?_
        rintro _ _ _ ⟨rfl, ⟨G10, rfl⟩, z11, rfl, flh12, flh12e, rfl, f13⟩
        refine r_peekI hX (tl_131 1 rfl (by decide)) hS (fun o14 o14e o14a o14b => ?_)
        obtain rfl : flh12 = o14 := flh12e.trans o14e.symm
        exact r_retZ hX hP rfl rfl (by omega) (by omega) (by omega) (by omega) ⟨rfl, ⟨_, (hw_sub (hw_refl _ _) rfl).symm⟩, 0, rfl, flh12, flh12e, (by omega)⟩
    · skip
      refine r_ex hX hP 1 (pc' := 18) (st' := [(0, 1)]) (lo' := [(0, (2, this)), (1, (0, wanted))]) rfl ?_
      exact r_retZ hX hP rfl rfl (by omega) (by omega) (by omega) (by omega) ⟨rfl, ⟨_, (hw_refl _ _).symm⟩, 1, rfl, f0, f0_e, (by omega)⟩
  · skip
    refine r_ex hX hP 1 (pc' := 8) (st' := [(0, 0)]) (lo' := [(0, (2, this)), (1, (0, wanted))]) rfl ?_
    exact r_retZ hX hP rfl rfl (by omega) (by omega) (by omega) (by omega) ⟨rfl, ⟨_, (hw_refl _ _).symm⟩, 0, rfl, f0, f0_e, (by omega)⟩
set_option maxRecDepth 100000 in
set_option maxHeartbeats 4000000 in
theorem c_X6_sign (E : En) (S : Sg) (G : Gh) (this : Int) (wanted : Int) (hS : S this = 131) (f0 : Int) (f0_e : f0 = G 131 this 1) (wanted_a : (-2147483648) ≤ wanted) (wanted_b : wanted ≤ 2147483647) : Calls E mX6_sign [(2, this), (0, wanted)] S G 2 0 0 (fun r S' G' => S = S' ∧ (∃ G1, hw [(131, 1), (131, 2), (131, 5), (131, 6), (131, 7), (131, 8)] G G1 = G') ∧ ∃ z : Int, r = some (0, z) ∧ ∃ f1 : Int, f1 = G' 131 this 1 ∧ 0 ≤ z ∧ z ≤ 1 ∧ (f0 = 0 ∨ f1 ≠ 0)) := by
  refine calls_by [(0, (2, this)), (1, (0, wanted))] rfl rfl (Nat.le_of_ble_eq_true rfl) (fun X hX => ?_)
  have hP := hPX6_sign
  refine r_peekI hX (tl_131 1 rfl (by decide)) hS (fun f0_o f0_oe f0_oa f0_ob => ?_)
  obtain rfl : f0 = f0_o := f0_e.trans f0_oe.symm
  refine r_ex hX hP 2 (pc' := 2) (st' := [(0, wanted), (2, this)]) (lo' := [(0, (2, this)), (1, (0, wanted))]) rfl ?_
  refine r_callV gd hX hP rfl cv_X6_95_131 hS (d' := 1) (mc' := 0) (ms' := 0) (as' := [(0, wanted)]) (st := []) (by omega) (by omega) (by omega) rfl rfl (Nat.le_of_ble_eq_true rfl) (c_X6_expect E S G this wanted hS f0 f0_e (by omega) (by omega)) ?_
  rintro _ _ _ ⟨rfl, ⟨G1, rfl⟩, z2, rfl, flh3, flh3e, (⟨rfl, f4, f5⟩ | ⟨rfl, f6⟩)⟩
  · skip
    refine r_peekI hX (tl_131 1 rfl (by decide)) hS (fun o7 o7e o7a o7b => ?_)
    obtain rfl : flh3 = o7 := flh3e.trans o7e.symm
    refine r_if_ne hX hP rfl (tgt := 10) rfl (by omega) (by omega) (fun c8 => ?_) (fun c8 => ?_)
    · skip
      refine r_ex hX hP 1 (pc' := 11) (st' := [(2, this)]) (lo' := [(0, (2, this)), (1, (0, wanted))]) rfl ?_
      refine r_callV gd hX hP rfl cv_X6_80_131 hS (d' := 1) (mc' := 0) (ms' := 0) (as' := []) (st := []) (by omega) (by omega) (by omega) rfl rfl (Nat.le_of_ble_eq_true rfl) (c_X6_advance E S (hw [(131, 1), (131, 2)] G G1) this  hS) ?_
      rintro _ _ _ ⟨rfl, ⟨G9, rfl⟩, rfl, -⟩
      refine r_ex hX hP 1 (pc' := 15) (st' := [(0, 1)]) (lo' := [(0, (2, this)), (1, (0, wanted))]) rfl ?_
      exact r_retZ hX hP rfl rfl (by omega) (by omega) (by omega) (by omega) ⟨rfl, ⟨_, (hw_sub (hw_sub (hw_refl _ _) rfl) rfl).symm⟩, 1, rfl, flh3, flh3e, (by omega), (by omega), (by omega)⟩
    · skip
      exfalso; omega
  · skip
    refine r_peekI hX (tl_131 1 rfl (by decide)) hS (fun o10 o10e o10a o10b => ?_)
    obtain rfl : flh3 = o10 := flh3e.trans o10e.symm
    refine r_if_ne hX hP rfl (tgt := 10) rfl (by omega) (by omega) (fun c11 => ?_) (fun c11 => ?_)
    · skip
      exfalso; omega
    · skip
      refine r_ex hX hP 1 (pc' := 9) (st' := [(0, 0)]) (lo' := [(0, (2, this)), (1, (0, wanted))]) rfl ?_
      exact r_retZ hX hP rfl rfl (by omega) (by omega) (by omega) (by omega) ⟨rfl, ⟨_, (hw_sub (hw_refl _ _) rfl).symm⟩, 0, rfl, flh3, flh3e, (by omega), (by omega), (by omega)⟩
set_option maxRecDepth 100000 in
set_option maxHeartbeats 4000000 in
theorem c_X6_is (E : En) (S : Sg) (G : Gh) (this : Int) (wanted : Nat) (hS : S this = 131) (wanted_h : wanted < 20) (atv : Int) (atv_e : atv = G 131 this 5) (stv : Int) (stv_e : stv = G 131 this 7) : Calls E mX6_is [(2, this), (2, (sK E wanted))] S G 4 0 0 (fun r S' G' => S = S' ∧ G = G' ∧ ∃ z : Int, r = some (0, z) ∧ 0 ≤ z ∧ z ≤ 1) := by
  refine calls_by [(0, (2, this)), (1, (2, (sK E wanted)))] rfl rfl (Nat.le_of_ble_eq_true rfl) (fun X hX => ?_)
  have hP := hPX6_is
  have wanted_l := ksl8 wanted wanted_h
  refine r_peekI hX (tl_131 5 rfl (by decide)) hS (fun atv_o atv_oe atv_oa atv_ob => ?_)
  obtain rfl : atv = atv_o := atv_e.trans atv_oe.symm
  refine r_peekI hX (tl_131 7 rfl (by decide)) hS (fun stv_o stv_oe stv_oa stv_ob => ?_)
  obtain rfl : stv = stv_o := stv_e.trans stv_oe.symm
  refine r_ex hX hP 1 (pc' := 1) (st' := [(2, this)]) (lo' := [(0, (2, this)), (1, (2, (sK E wanted)))]) rfl ?_
  refine r_getI hX hP rfl fl_X6_38_131 hS (fun tf1 tf1e tf1a tf1b => ?_)
  refine r_ex hX hP 1 (pc' := 5) (st' := [(0, 1), (0, tf1)]) (lo' := [(0, (2, this)), (1, (2, (sK E wanted)))]) rfl ?_
  refine r_ic_ne hX hP rfl (tgt := 28) rfl (by omega) (by omega) (by omega) (by omega) (fun c2 => ?_) (fun c2 => ?_)
  · skip
    refine r_ex hX hP 4 (pc' := 32) (st' := []) (lo' := [(0, (2, this)), (1, (2, (sK E wanted))), (2, (0, 0)), (3, (0, 0))]) rfl ?_
    have x75 : ∀ (l2_x75 l3_x75 : Int), 0 ≤ l2_x75 → l2_x75 ≤ 1 → 0 ≤ l3_x75 → l3_x75 ≤ 8 → (l2_x75 = 0 ∨ atv - stv = ((ksL.getD wanted 0 : Nat) : Int)) → X 0 0 75 [] [(0, (2, this)), (1, (2, (sK E wanted))), (2, (0, l2_x75)), (3, (0, l3_x75))] S G := by
      intro l2_x75 l3_x75 yx75_0 yx75_1 yx75_2 yx75_3 yx75_4
      refine r_ex hX hP 1 (pc' := 76) (st' := [(0, l2_x75)]) (lo' := [(0, (2, this)), (1, (2, (sK E wanted))), (2, (0, l2_x75)), (3, (0, l3_x75))]) rfl ?_
      exact r_retZ hX hP rfl rfl (by omega) (by omega) (by omega) (by omega) ⟨rfl, rfl, l2_x75, rfl, (by omega)⟩
    have loop32 : ∀ (nF : Nat) (l2_h32 l3_h32 : Int), 0 ≤ l2_h32 → l2_h32 ≤ 1 → 0 ≤ l3_h32 → l3_h32 ≤ 8 → (l2_h32 = 0 ∨ atv - stv = ((ksL.getD wanted 0 : Nat) : Int)) → 8 - l3_h32 < (nF : Int) → X 0 0 32 [] [(0, (2, this)), (1, (2, (sK E wanted))), (2, (0, l2_h32)), (3, (0, l3_h32))] S G := by
      intro nF
      induction nF with
      | zero => intro l2_h32 l3_h32 yh32_0 yh32_1 yh32_2 yh32_3 yh32_4 ym32; exfalso; omega
      | succ nF ih32 =>
        intro l2_h32 l3_h32 yh32_0 yh32_1 yh32_2 yh32_3 yh32_4 ym32
        refine r_ex hX hP 1 (pc' := 33) (st' := [(0, l2_h32)]) (lo' := [(0, (2, this)), (1, (2, (sK E wanted))), (2, (0, l2_h32)), (3, (0, l3_h32))]) rfl ?_
        refine r_if_eq hX hP rfl (tgt := 75) rfl (by omega) (by omega) (fun c3 => ?_) (fun c3 => ?_)
        · skip
          exact x75 l2_h32 l3_h32 (by omega) (by omega) (by omega) (by omega) (by omega)
        · skip
          refine r_ex hX hP 2 (pc' := 38) (st' := [(2, (sK E wanted)), (0, l3_h32)]) (lo' := [(0, (2, this)), (1, (2, (sK E wanted))), (2, (0, l2_h32)), (3, (0, l3_h32))]) rfl ?_
          refine r_callT gd hX hP rfl ct_X6_102 wanted_h (d' := 1) (mc' := 0) (ms' := 0) (as' := []) (st := [(0, l3_h32)]) (by omega) (by omega) (by omega) rfl rfl (Nat.le_of_ble_eq_true rfl) (c_J0_length_8abf5 E S G wanted  wanted_h) ?_
          rintro _ _ _ ⟨rfl, rfl, z4, rfl, z4a, z4b, f5⟩
          refine r_ic_ge hX hP rfl (tgt := 75) rfl (by omega) (by omega) (by omega) (by omega) (fun c6 => ?_) (fun c6 => ?_)
          · skip
            exact x75 l2_h32 l3_h32 (by omega) (by omega) (by omega) (by omega) (by omega)
          · skip
            refine r_ex hX hP 1 (pc' := 45) (st' := [(2, this)]) (lo' := [(0, (2, this)), (1, (2, (sK E wanted))), (2, (0, l2_h32)), (3, (0, l3_h32))]) rfl ?_
            refine r_getR hX hP rfl fl_X6_18_131 hS (fun tf7 tf7e tf7s => ?_)
            refine r_ex hX hP 1 (pc' := 49) (st' := [(2, this), (2, tf7)]) (lo' := [(0, (2, this)), (1, (2, (sK E wanted))), (2, (0, l2_h32)), (3, (0, l3_h32))]) rfl ?_
            refine r_getKI hX hP rfl fl_X6_83_131 hS (x := stv) stv_e ?_
            refine r_ex hX hP 2 (pc' := 54) (st' := [(0, (stv + l3_h32)), (2, tf7)]) (lo' := [(0, (2, this)), (1, (2, (sK E wanted))), (2, (0, l2_h32)), (3, (0, l3_h32))]) rfl ?_
            refine r_iald hX hP rfl al_105 tf7s (by omega) (by omega) (fun x8 x8e x8a x8b => ?_)
            refine r_ex hX hP 2 (pc' := 57) (st' := [(0, l3_h32), (2, (sK E wanted)), (0, x8)]) (lo' := [(0, (2, this)), (1, (2, (sK E wanted))), (2, (0, l2_h32)), (3, (0, l3_h32))]) rfl ?_
            refine r_callT gd hX hP rfl ct_X6_107 wanted_h (d' := 3) (mc' := 0) (ms' := 0) (as' := [(0, l3_h32)]) (st := [(0, x8)]) (by omega) (by omega) (by omega) rfl rfl (Nat.le_of_ble_eq_true rfl) (c_J0_charAt_5068e E S G wanted l3_h32 wanted_h (by omega) (by omega) (by omega)) ?_
            rintro _ _ _ ⟨rfl, rfl, z9, rfl, z9a, z9b⟩
            refine r_ic_ne hX hP rfl (tgt := 67) rfl (by omega) (by omega) (by omega) (by omega) (fun c10 => ?_) (fun c10 => ?_)
            · skip
              refine r_ex hX hP 4 (pc' := 32) (st' := []) (lo' := [(0, (2, this)), (1, (2, (sK E wanted))), (2, (0, 0)), (3, (0, (l3_h32 + 1)))]) rfl ?_
              exact ih32 0 (l3_h32 + 1) (by omega) (by omega) (by omega) (by omega) (by omega) (by omega)
            · skip
              refine r_ex hX hP 5 (pc' := 32) (st' := []) (lo' := [(0, (2, this)), (1, (2, (sK E wanted))), (2, (0, 1)), (3, (0, (l3_h32 + 1)))]) rfl ?_
              exact ih32 1 (l3_h32 + 1) (by omega) (by omega) (by omega) (by omega) (by omega) (by omega)
    exact loop32 ((8 - 0) + 1 : Int).toNat 0 0 (by omega) (by omega) (by omega) (by omega) (by omega) (by omega)
  · skip
    refine r_ex hX hP 1 (pc' := 9) (st' := [(2, this)]) (lo' := [(0, (2, this)), (1, (2, (sK E wanted)))]) rfl ?_
    refine r_getKI hX hP rfl fl_X6_67_131 hS (x := atv) atv_e ?_
    refine r_ex hX hP 1 (pc' := 13) (st' := [(2, this), (0, atv)]) (lo' := [(0, (2, this)), (1, (2, (sK E wanted)))]) rfl ?_
    refine r_getKI hX hP rfl fl_X6_83_131 hS (x := stv) stv_e ?_
    refine r_ex hX hP 2 (pc' := 18) (st' := [(2, (sK E wanted)), (0, (atv - stv))]) (lo' := [(0, (2, this)), (1, (2, (sK E wanted)))]) rfl ?_
    refine r_callT gd hX hP rfl ct_X6_102 wanted_h (d' := 1) (mc' := 0) (ms' := 0) (as' := []) (st := [(0, (atv - stv))]) (by omega) (by omega) (by omega) rfl rfl (Nat.le_of_ble_eq_true rfl) (c_J0_length_8abf5 E S G wanted  wanted_h) ?_
    rintro _ _ _ ⟨rfl, rfl, z11, rfl, z11a, z11b, f12⟩
    refine r_ic_ne hX hP rfl (tgt := 28) rfl (by omega) (by omega) (by omega) (by omega) (fun c13 => ?_) (fun c13 => ?_)
    · skip
      refine r_ex hX hP 4 (pc' := 32) (st' := []) (lo' := [(0, (2, this)), (1, (2, (sK E wanted))), (2, (0, 0)), (3, (0, 0))]) rfl ?_
      have x75 : ∀ (l2_x75 l3_x75 : Int), 0 ≤ l2_x75 → l2_x75 ≤ 1 → 0 ≤ l3_x75 → l3_x75 ≤ 8 → (l2_x75 = 0 ∨ atv - stv = ((ksL.getD wanted 0 : Nat) : Int)) → X 0 0 75 [] [(0, (2, this)), (1, (2, (sK E wanted))), (2, (0, l2_x75)), (3, (0, l3_x75))] S G := by
        intro l2_x75 l3_x75 yx75_0 yx75_1 yx75_2 yx75_3 yx75_4
        refine r_ex hX hP 1 (pc' := 76) (st' := [(0, l2_x75)]) (lo' := [(0, (2, this)), (1, (2, (sK E wanted))), (2, (0, l2_x75)), (3, (0, l3_x75))]) rfl ?_
        exact r_retZ hX hP rfl rfl (by omega) (by omega) (by omega) (by omega) ⟨rfl, rfl, l2_x75, rfl, (by omega)⟩
      have loop32 : ∀ (nF : Nat) (l2_h32 l3_h32 : Int), 0 ≤ l2_h32 → l2_h32 ≤ 1 → 0 ≤ l3_h32 → l3_h32 ≤ 8 → (l2_h32 = 0 ∨ atv - stv = ((ksL.getD wanted 0 : Nat) : Int)) → 8 - l3_h32 < (nF : Int) → X 0 0 32 [] [(0, (2, this)), (1, (2, (sK E wanted))), (2, (0, l2_h32)), (3, (0, l3_h32))] S G := by
        intro nF
        induction nF with
        | zero => intro l2_h32 l3_h32 yh32_0 yh32_1 yh32_2 yh32_3 yh32_4 ym32; exfalso; omega
        | succ nF ih32 =>
          intro l2_h32 l3_h32 yh32_0 yh32_1 yh32_2 yh32_3 yh32_4 ym32
          refine r_ex hX hP 1 (pc' := 33) (st' := [(0, l2_h32)]) (lo' := [(0, (2, this)), (1, (2, (sK E wanted))), (2, (0, l2_h32)), (3, (0, l3_h32))]) rfl ?_
          refine r_if_eq hX hP rfl (tgt := 75) rfl (by omega) (by omega) (fun c14 => ?_) (fun c14 => ?_)
          · skip
            exact x75 l2_h32 l3_h32 (by omega) (by omega) (by omega) (by omega) (by omega)
          · skip
            refine r_ex hX hP 2 (pc' := 38) (st' := [(2, (sK E wanted)), (0, l3_h32)]) (lo' := [(0, (2, this)), (1, (2, (sK E wanted))), (2, (0, l2_h32)), (3, (0, l3_h32))]) rfl ?_
            refine r_callT gd hX hP rfl ct_X6_102 wanted_h (d' := 1) (mc' := 0) (ms' := 0) (as' := []) (st := [(0, l3_h32)]) (by omega) (by omega) (by omega) rfl rfl (Nat.le_of_ble_eq_true rfl) (c_J0_length_8abf5 E S G wanted  wanted_h) ?_
            rintro _ _ _ ⟨rfl, rfl, z15, rfl, z15a, z15b, f16⟩
            refine r_ic_ge hX hP rfl (tgt := 75) rfl (by omega) (by omega) (by omega) (by omega) (fun c17 => ?_) (fun c17 => ?_)
            · skip
              exact x75 l2_h32 l3_h32 (by omega) (by omega) (by omega) (by omega) (by omega)
            · skip
              refine r_ex hX hP 1 (pc' := 45) (st' := [(2, this)]) (lo' := [(0, (2, this)), (1, (2, (sK E wanted))), (2, (0, l2_h32)), (3, (0, l3_h32))]) rfl ?_
              refine r_getR hX hP rfl fl_X6_18_131 hS (fun tf18 tf18e tf18s => ?_)
              refine r_ex hX hP 1 (pc' := 49) (st' := [(2, this), (2, tf18)]) (lo' := [(0, (2, this)), (1, (2, (sK E wanted))), (2, (0, l2_h32)), (3, (0, l3_h32))]) rfl ?_
              refine r_getKI hX hP rfl fl_X6_83_131 hS (x := stv) stv_e ?_
              refine r_ex hX hP 2 (pc' := 54) (st' := [(0, (stv + l3_h32)), (2, tf18)]) (lo' := [(0, (2, this)), (1, (2, (sK E wanted))), (2, (0, l2_h32)), (3, (0, l3_h32))]) rfl ?_
              refine r_iald hX hP rfl al_105 tf18s (by omega) (by omega) (fun x19 x19e x19a x19b => ?_)
              refine r_ex hX hP 2 (pc' := 57) (st' := [(0, l3_h32), (2, (sK E wanted)), (0, x19)]) (lo' := [(0, (2, this)), (1, (2, (sK E wanted))), (2, (0, l2_h32)), (3, (0, l3_h32))]) rfl ?_
              refine r_callT gd hX hP rfl ct_X6_107 wanted_h (d' := 3) (mc' := 0) (ms' := 0) (as' := [(0, l3_h32)]) (st := [(0, x19)]) (by omega) (by omega) (by omega) rfl rfl (Nat.le_of_ble_eq_true rfl) (c_J0_charAt_5068e E S G wanted l3_h32 wanted_h (by omega) (by omega) (by omega)) ?_
              rintro _ _ _ ⟨rfl, rfl, z20, rfl, z20a, z20b⟩
              refine r_ic_ne hX hP rfl (tgt := 67) rfl (by omega) (by omega) (by omega) (by omega) (fun c21 => ?_) (fun c21 => ?_)
              · skip
                refine r_ex hX hP 4 (pc' := 32) (st' := []) (lo' := [(0, (2, this)), (1, (2, (sK E wanted))), (2, (0, 0)), (3, (0, (l3_h32 + 1)))]) rfl ?_
                exact ih32 0 (l3_h32 + 1) (by omega) (by omega) (by omega) (by omega) (by omega) (by omega)
              · skip
                refine r_ex hX hP 5 (pc' := 32) (st' := []) (lo' := [(0, (2, this)), (1, (2, (sK E wanted))), (2, (0, 1)), (3, (0, (l3_h32 + 1)))]) rfl ?_
                exact ih32 1 (l3_h32 + 1) (by omega) (by omega) (by omega) (by omega) (by omega) (by omega)
      exact loop32 ((8 - 0) + 1 : Int).toNat 0 0 (by omega) (by omega) (by omega) (by omega) (by omega) (by omega)
    · skip
      refine r_ex hX hP 5 (pc' := 32) (st' := []) (lo' := [(0, (2, this)), (1, (2, (sK E wanted))), (2, (0, 1)), (3, (0, 0))]) rfl ?_
      have x75 : ∀ (l2_x75 l3_x75 : Int), 0 ≤ l2_x75 → l2_x75 ≤ 1 → 0 ≤ l3_x75 → l3_x75 ≤ 8 → (l2_x75 = 0 ∨ atv - stv = ((ksL.getD wanted 0 : Nat) : Int)) → X 0 0 75 [] [(0, (2, this)), (1, (2, (sK E wanted))), (2, (0, l2_x75)), (3, (0, l3_x75))] S G := by
        intro l2_x75 l3_x75 yx75_0 yx75_1 yx75_2 yx75_3 yx75_4
        refine r_ex hX hP 1 (pc' := 76) (st' := [(0, l2_x75)]) (lo' := [(0, (2, this)), (1, (2, (sK E wanted))), (2, (0, l2_x75)), (3, (0, l3_x75))]) rfl ?_
        exact r_retZ hX hP rfl rfl (by omega) (by omega) (by omega) (by omega) ⟨rfl, rfl, l2_x75, rfl, (by omega)⟩
      have loop32 : ∀ (nF : Nat) (l2_h32 l3_h32 : Int), 0 ≤ l2_h32 → l2_h32 ≤ 1 → 0 ≤ l3_h32 → l3_h32 ≤ 8 → (l2_h32 = 0 ∨ atv - stv = ((ksL.getD wanted 0 : Nat) : Int)) → 8 - l3_h32 < (nF : Int) → X 0 0 32 [] [(0, (2, this)), (1, (2, (sK E wanted))), (2, (0, l2_h32)), (3, (0, l3_h32))] S G := by
        intro nF
        induction nF with
        | zero => intro l2_h32 l3_h32 yh32_0 yh32_1 yh32_2 yh32_3 yh32_4 ym32; exfalso; omega
        | succ nF ih32 =>
          intro l2_h32 l3_h32 yh32_0 yh32_1 yh32_2 yh32_3 yh32_4 ym32
          refine r_ex hX hP 1 (pc' := 33) (st' := [(0, l2_h32)]) (lo' := [(0, (2, this)), (1, (2, (sK E wanted))), (2, (0, l2_h32)), (3, (0, l3_h32))]) rfl ?_
          refine r_if_eq hX hP rfl (tgt := 75) rfl (by omega) (by omega) (fun c22 => ?_) (fun c22 => ?_)
          · skip
            exact x75 l2_h32 l3_h32 (by omega) (by omega) (by omega) (by omega) (by omega)
          · skip
            refine r_ex hX hP 2 (pc' := 38) (st' := [(2, (sK E wanted)), (0, l3_h32)]) (lo' := [(0, (2, this)), (1, (2, (sK E wanted))), (2, (0, l2_h32)), (3, (0, l3_h32))]) rfl ?_
            refine r_callT gd hX hP rfl ct_X6_102 wanted_h (d' := 1) (mc' := 0) (ms' := 0) (as' := []) (st := [(0, l3_h32)]) (by omega) (by omega) (by omega) rfl rfl (Nat.le_of_ble_eq_true rfl) (c_J0_length_8abf5 E S G wanted  wanted_h) ?_
            rintro _ _ _ ⟨rfl, rfl, z23, rfl, z23a, z23b, f24⟩
            refine r_ic_ge hX hP rfl (tgt := 75) rfl (by omega) (by omega) (by omega) (by omega) (fun c25 => ?_) (fun c25 => ?_)
            · skip
              exact x75 l2_h32 l3_h32 (by omega) (by omega) (by omega) (by omega) (by omega)
            · skip
              refine r_ex hX hP 1 (pc' := 45) (st' := [(2, this)]) (lo' := [(0, (2, this)), (1, (2, (sK E wanted))), (2, (0, l2_h32)), (3, (0, l3_h32))]) rfl ?_
              refine r_getR hX hP rfl fl_X6_18_131 hS (fun tf26 tf26e tf26s => ?_)
              refine r_ex hX hP 1 (pc' := 49) (st' := [(2, this), (2, tf26)]) (lo' := [(0, (2, this)), (1, (2, (sK E wanted))), (2, (0, l2_h32)), (3, (0, l3_h32))]) rfl ?_
              refine r_getKI hX hP rfl fl_X6_83_131 hS (x := stv) stv_e ?_
              refine r_ex hX hP 2 (pc' := 54) (st' := [(0, (stv + l3_h32)), (2, tf26)]) (lo' := [(0, (2, this)), (1, (2, (sK E wanted))), (2, (0, l2_h32)), (3, (0, l3_h32))]) rfl ?_
              refine r_iald hX hP rfl al_105 tf26s (by omega) (by omega) (fun x27 x27e x27a x27b => ?_)
              refine r_ex hX hP 2 (pc' := 57) (st' := [(0, l3_h32), (2, (sK E wanted)), (0, x27)]) (lo' := [(0, (2, this)), (1, (2, (sK E wanted))), (2, (0, l2_h32)), (3, (0, l3_h32))]) rfl ?_
              refine r_callT gd hX hP rfl ct_X6_107 wanted_h (d' := 3) (mc' := 0) (ms' := 0) (as' := [(0, l3_h32)]) (st := [(0, x27)]) (by omega) (by omega) (by omega) rfl rfl (Nat.le_of_ble_eq_true rfl) (c_J0_charAt_5068e E S G wanted l3_h32 wanted_h (by omega) (by omega) (by omega)) ?_
              rintro _ _ _ ⟨rfl, rfl, z28, rfl, z28a, z28b⟩
              refine r_ic_ne hX hP rfl (tgt := 67) rfl (by omega) (by omega) (by omega) (by omega) (fun c29 => ?_) (fun c29 => ?_)
              · skip
                refine r_ex hX hP 4 (pc' := 32) (st' := []) (lo' := [(0, (2, this)), (1, (2, (sK E wanted))), (2, (0, 0)), (3, (0, (l3_h32 + 1)))]) rfl ?_
                exact ih32 0 (l3_h32 + 1) (by omega) (by omega) (by omega) (by omega) (by omega) (by omega)
              · skip
                refine r_ex hX hP 5 (pc' := 32) (st' := []) (lo' := [(0, (2, this)), (1, (2, (sK E wanted))), (2, (0, 1)), (3, (0, (l3_h32 + 1)))]) rfl ?_
                exact ih32 1 (l3_h32 + 1) (by omega) (by omega) (by omega) (by omega) (by omega) (by omega)
      exact loop32 ((8 - 0) + 1 : Int).toNat 1 0 (by omega) (by omega) (by omega) (by omega) (by omega) (by omega)
set_option maxRecDepth 100000 in
set_option maxHeartbeats 4000000 in
theorem c_X6_keyword (E : En) (S : Sg) (G : Gh) (this : Int) (wanted : Nat) (hS : S this = 131) (wanted_h : wanted < 20) (f0 : Int) (f0_e : f0 = G 131 this 1) : Calls E mX6_keyword [(2, this), (2, (sK E wanted))] S G 5 0 0 (fun r S' G' => S = S' ∧ (∃ G1, hw [(131, 1), (131, 2), (131, 5), (131, 6), (131, 7), (131, 8)] G G1 = G') ∧ r = none ∧ ∃ f1 : Int, f1 = G' 131 this 1 ∧ (f0 = 0 ∨ f1 ≠ 0)) := by
  refine calls_by [(0, (2, this)), (1, (2, (sK E wanted)))] rfl rfl (Nat.le_of_ble_eq_true rfl) (fun X hX => ?_)
  have hP := hPX6_keyword
  have wanted_l := ksl8 wanted wanted_h
  refine r_peekI hX (tl_131 1 rfl (by decide)) hS (fun f0_o f0_oe f0_oa f0_ob => ?_)
  obtain rfl : f0 = f0_o := f0_e.trans f0_oe.symm
  refine r_ex hX hP 2 (pc' := 2) (st' := [(0, 1), (2, this)]) (lo' := [(0, (2, this)), (1, (2, (sK E wanted)))]) rfl ?_
  refine r_callV gd hX hP rfl cv_X6_95_131 hS (d' := 1) (mc' := 0) (ms' := 0) (as' := [(0, 1)]) (st := []) (by omega) (by omega) (by omega) rfl rfl (Nat.le_of_ble_eq_true rfl) (c_X6_expect E S G this 1 hS f0 f0_e (by omega) (by omega)) ?_
  rintro _ _ _ ⟨rfl, ⟨G1, rfl⟩, z2, rfl, flh3, flh3e, (⟨rfl, f4, f5⟩ | ⟨rfl, f6⟩)⟩
  · skip
    refine r_peekI hX (tl_131 1 rfl (by decide)) hS (fun o7 o7e o7a o7b => ?_)
    obtain rfl : flh3 = o7 := flh3e.trans o7e.symm
    refine r_if_ne hX hP rfl (tgt := 9) rfl (by omega) (by omega) (fun c8 => ?_) (fun c8 => ?_)
    · skip
      refine r_ex hX hP 2 (pc' := 11) (st' := [(2, (sK E wanted)), (2, this)]) (lo' := [(0, (2, this)), (1, (2, (sK E wanted)))]) rfl ?_
      refine r_peekI hX (tl_131 5 rfl (by decide)) hS (fun atp9 atp9e atp9a atp9b => ?_)
      refine r_peekI hX (tl_131 7 rfl (by decide)) hS (fun stp10 stp10e stp10a stp10b => ?_)
      refine r_callV gd hX hP rfl cv_X6_98_131 hS (d' := 4) (mc' := 0) (ms' := 0) (as' := [(2, (sK E wanted))]) (st := []) (by omega) (by omega) (by omega) rfl rfl (Nat.le_of_ble_eq_true rfl) (c_X6_is E S (hw [(131, 1), (131, 2)] G G1) this wanted hS wanted_h atp9 atp9e stp10 stp10e) ?_
      rintro _ _ _ ⟨rfl, rfl, z11, rfl, z11a, z11b⟩
      refine r_if_eq hX hP rfl (tgt := 24) rfl (by omega) (by omega) (fun c12 => ?_) (fun c12 => ?_)
      · skip
        refine r_ex hX hP 2 (pc' := 26) (st' := [(0, 2), (2, this)]) (lo' := [(0, (2, this)), (1, (2, (sK E wanted)))]) rfl ?_
        refine r_callV gd hX hP rfl cv_X6_44_131 hS (d' := 0) (mc' := 0) (ms' := 0) (as' := [(0, 2)]) (st := []) (by omega) (by omega) (by omega) rfl rfl (Nat.le_of_ble_eq_true rfl) (c_X6_fail E S (hw [(131, 1), (131, 2)] G G1) this 2 hS (by omega) (by omega)) ?_
        rintro _ _ _ ⟨rfl, ⟨G13, rfl⟩, z14, rfl, flh15, flh15e, rfl, f16⟩
        refine r_peekI hX (tl_131 1 rfl (by decide)) hS (fun o17 o17e o17a o17b => ?_)
        obtain rfl : flh15 = o17 := flh15e.trans o17e.symm
        refine r_ex hX hP 1 (pc' := 30) (st' := []) (lo' := [(0, (2, this)), (1, (2, (sK E wanted)))]) rfl ?_
        exact r_retV hX hP rfl rfl (by omega) (by omega) ⟨rfl, ⟨_, (hw_sub (hw_sub (hw_refl _ _) rfl) rfl).symm⟩, rfl, flh15, flh15e, (by omega)⟩
      · skip
        refine r_ex hX hP 1 (pc' := 18) (st' := [(2, this)]) (lo' := [(0, (2, this)), (1, (2, (sK E wanted)))]) rfl ?_
        refine r_callV gd hX hP rfl cv_X6_80_131 hS (d' := 1) (mc' := 0) (ms' := 0) (as' := []) (st := []) (by omega) (by omega) (by omega) rfl rfl (Nat.le_of_ble_eq_true rfl) (c_X6_advance E S (hw [(131, 1), (131, 2)] G G1) this  hS) ?_
        rintro _ _ _ ⟨rfl, ⟨G18, rfl⟩, rfl, -⟩
        refine r_ex hX hP 1 (pc' := 30) (st' := []) (lo' := [(0, (2, this)), (1, (2, (sK E wanted)))]) rfl ?_
        exact r_retV hX hP rfl rfl (by omega) (by omega) ⟨rfl, ⟨_, (hw_sub (hw_sub (hw_refl _ _) rfl) rfl).symm⟩, rfl, flh3, flh3e, (by omega)⟩
    · skip
      exfalso; omega
  · skip
    refine r_peekI hX (tl_131 1 rfl (by decide)) hS (fun o19 o19e o19a o19b => ?_)
    obtain rfl : flh3 = o19 := flh3e.trans o19e.symm
    refine r_if_ne hX hP rfl (tgt := 9) rfl (by omega) (by omega) (fun c20 => ?_) (fun c20 => ?_)
    · skip
      exfalso; omega
    · skip
      exact r_retV hX hP rfl rfl (by omega) (by omega) ⟨rfl, ⟨_, (hw_sub (hw_refl _ _) rfl).symm⟩, rfl, flh3, flh3e, (by omega)⟩
set_option maxRecDepth 100000 in
set_option maxHeartbeats 4000000 in
theorem c_X6_number (E : En) (S : Sg) (G : Gh) (this : Int) (least : Int) (greatest : Int) (hS : S this = 131) (f0 : Int) (f0_e : f0 = G 131 this 1) (least_a : (-2147483648) ≤ least) (least_b : least ≤ 2147483647) (greatest_a : (-2147483648) ≤ greatest) (greatest_b : greatest ≤ 2147483647) : Calls E mX6_number [(2, this), (0, least), (0, greatest)] S G 2 0 0 (fun r S' G' => S = S' ∧ (∃ G1, hw [(131, 1), (131, 2), (131, 5), (131, 6), (131, 7), (131, 8)] G G1 = G') ∧ ∃ z : Int, r = some (0, z) ∧ ∃ f1 : Int, f1 = G' 131 this 1 ∧ ((z = (-1) ∧ f1 ≠ 0) ∨ ((-2147483648) ≤ z ∧ z ≤ 2147483647 ∧ least ≤ z ∧ z ≤ greatest ∧ f0 = 0 ∧ f1 = 0))) := by
  refine calls_by [(0, (2, this)), (1, (0, least)), (2, (0, greatest))] rfl rfl (Nat.le_of_ble_eq_true rfl) (fun X hX => ?_)
  have hP := hPX6_number
  refine r_peekI hX (tl_131 1 rfl (by decide)) hS (fun f0_o f0_oe f0_oa f0_ob => ?_)
  obtain rfl : f0 = f0_o := f0_e.trans f0_oe.symm
  refine r_ex hX hP 2 (pc' := 2) (st' := [(0, 2), (2, this)]) (lo' := [(0, (2, this)), (1, (0, least)), (2, (0, greatest))]) rfl ?_
  refine r_callV gd hX hP rfl cv_X6_95_131 hS (d' := 1) (mc' := 0) (ms' := 0) (as' := [(0, 2)]) (st := []) (by omega) (by omega) (by omega) rfl rfl (Nat.le_of_ble_eq_true rfl) (c_X6_expect E S G this 2 hS f0 f0_e (by omega) (by omega)) ?_
  rintro _ _ _ ⟨rfl, ⟨G1, rfl⟩, z2, rfl, flh3, flh3e, (⟨rfl, f4, f5⟩ | ⟨rfl, f6⟩)⟩
  · skip
    refine r_peekI hX (tl_131 1 rfl (by decide)) hS (fun o7 o7e o7a o7b => ?_)
    obtain rfl : flh3 = o7 := flh3e.trans o7e.symm
    refine r_if_ne hX hP rfl (tgt := 10) rfl (by omega) (by omega) (fun c8 => ?_) (fun c8 => ?_)
    · skip
      refine r_ex hX hP 1 (pc' := 11) (st' := [(2, this)]) (lo' := [(0, (2, this)), (1, (0, least)), (2, (0, greatest))]) rfl ?_
      refine r_getI hX hP rfl fl_X6_92_131 hS (fun vf9 vf9e vf9a vf9b => ?_)
      refine r_ex hX hP 1 (pc' := 15) (st' := [(0, least), (0, vf9)]) (lo' := [(0, (2, this)), (1, (0, least)), (2, (0, greatest))]) rfl ?_
      refine r_ic_lt hX hP rfl (tgt := 26) rfl (by omega) (by omega) (by omega) (by omega) (fun c10 => ?_) (fun c10 => ?_)
      · skip
        refine r_ex hX hP 2 (pc' := 28) (st' := [(0, 4), (2, this)]) (lo' := [(0, (2, this)), (1, (0, least)), (2, (0, greatest))]) rfl ?_
        refine r_callV gd hX hP rfl cv_X6_44_131 hS (d' := 0) (mc' := 0) (ms' := 0) (as' := [(0, 4)]) (st := []) (by omega) (by omega) (by omega) rfl rfl (Nat.le_of_ble_eq_true rfl) (c_X6_fail E S (hw [(131, 1), (131, 2)] G G1) this 4 hS (by omega) (by omega)) ?_
        rintro _ _ _ ⟨rfl, ⟨G11, rfl⟩, z12, rfl, flh13, flh13e, rfl, f14⟩
        refine r_peekI hX (tl_131 1 rfl (by decide)) hS (fun o15 o15e o15a o15b => ?_)
        obtain rfl : flh13 = o15 := flh13e.trans o15e.symm
        refine r_ex hX hP 2 (pc' := 33) (st' := [(0, (-1))]) (lo' := [(0, (2, this)), (1, (0, least)), (2, (0, greatest))]) rfl ?_
        exact r_retI hX hP rfl rfl (by omega) (by omega) ⟨rfl, ⟨_, (hw_sub (hw_sub (hw_refl _ _) rfl) rfl).symm⟩, (-1), rfl, flh13, flh13e, (by omega)⟩
      · skip
        refine r_ex hX hP 1 (pc' := 19) (st' := [(2, this)]) (lo' := [(0, (2, this)), (1, (0, least)), (2, (0, greatest))]) rfl ?_
        refine r_getKI hX hP rfl fl_X6_92_131 hS (x := vf9) vf9e ?_
        refine r_ex hX hP 1 (pc' := 23) (st' := [(0, greatest), (0, vf9)]) (lo' := [(0, (2, this)), (1, (0, least)), (2, (0, greatest))]) rfl ?_
        refine r_ic_le hX hP rfl (tgt := 34) rfl (by omega) (by omega) (by omega) (by omega) (fun c16 => ?_) (fun c16 => ?_)
        · skip
          refine r_ex hX hP 1 (pc' := 35) (st' := [(2, this)]) (lo' := [(0, (2, this)), (1, (0, least)), (2, (0, greatest))]) rfl ?_
          refine r_getKI hX hP rfl fl_X6_92_131 hS (x := vf9) vf9e ?_
          refine r_ex hX hP 2 (pc' := 40) (st' := [(2, this)]) (lo' := [(0, (2, this)), (1, (0, least)), (2, (0, greatest)), (3, (0, vf9))]) rfl ?_
          refine r_callV gd hX hP rfl cv_X6_80_131 hS (d' := 1) (mc' := 0) (ms' := 0) (as' := []) (st := []) (by omega) (by omega) (by omega) rfl rfl (Nat.le_of_ble_eq_true rfl) (c_X6_advance E S (hw [(131, 1), (131, 2)] G G1) this  hS) ?_
          rintro _ _ _ ⟨rfl, ⟨G17, rfl⟩, rfl, -⟩
          refine r_ex hX hP 1 (pc' := 44) (st' := [(0, vf9)]) (lo' := [(0, (2, this)), (1, (0, least)), (2, (0, greatest)), (3, (0, vf9))]) rfl ?_
          exact r_retI hX hP rfl rfl (by omega) (by omega) ⟨rfl, ⟨_, (hw_sub (hw_sub (hw_refl _ _) rfl) rfl).symm⟩, vf9, rfl, flh3, flh3e, (by omega)⟩
        · skip
          refine r_ex hX hP 2 (pc' := 28) (st' := [(0, 4), (2, this)]) (lo' := [(0, (2, this)), (1, (0, least)), (2, (0, greatest))]) rfl ?_
          refine r_callV gd hX hP rfl cv_X6_44_131 hS (d' := 0) (mc' := 0) (ms' := 0) (as' := [(0, 4)]) (st := []) (by omega) (by omega) (by omega) rfl rfl (Nat.le_of_ble_eq_true rfl) (c_X6_fail E S (hw [(131, 1), (131, 2)] G G1) this 4 hS (by omega) (by omega)) ?_
          rintro _ _ _ ⟨rfl, ⟨G18, rfl⟩, z19, rfl, flh20, flh20e, rfl, f21⟩
          refine r_peekI hX (tl_131 1 rfl (by decide)) hS (fun o22 o22e o22a o22b => ?_)
          obtain rfl : flh20 = o22 := flh20e.trans o22e.symm
          refine r_ex hX hP 2 (pc' := 33) (st' := [(0, (-1))]) (lo' := [(0, (2, this)), (1, (0, least)), (2, (0, greatest))]) rfl ?_
          exact r_retI hX hP rfl rfl (by omega) (by omega) ⟨rfl, ⟨_, (hw_sub (hw_sub (hw_refl _ _) rfl) rfl).symm⟩, (-1), rfl, flh20, flh20e, (by omega)⟩
    · skip
      exfalso; omega
  · skip
    refine r_peekI hX (tl_131 1 rfl (by decide)) hS (fun o23 o23e o23a o23b => ?_)
    obtain rfl : flh3 = o23 := flh3e.trans o23e.symm
    refine r_if_ne hX hP rfl (tgt := 10) rfl (by omega) (by omega) (fun c24 => ?_) (fun c24 => ?_)
    · skip
      exfalso; omega
    · skip
      refine r_ex hX hP 1 (pc' := 9) (st' := [(0, (-1))]) (lo' := [(0, (2, this)), (1, (0, least)), (2, (0, greatest))]) rfl ?_
      exact r_retI hX hP rfl rfl (by omega) (by omega) ⟨rfl, ⟨_, (hw_sub (hw_refl _ _) rfl).symm⟩, (-1), rfl, flh3, flh3e, (by omega)⟩
set_option maxRecDepth 100000 in
set_option maxHeartbeats 4000000 in
theorem c_X6_push (E : En) (S : Sg) (G : Gh) (this : Int) (open_ : Int) (hS : S this = 131) (open__a : (-1) ≤ open_) (open__b : open_ ≤ 59) : Calls E mX6_push [(2, this), (0, open_)] S G 3 0 0 (fun r S' G' => S = S' ∧ (∃ G1, hw [(106, -1), (131, 1), (131, 2), (131, 5), (131, 6), (131, 7), (131, 8), (131, 11)] G G1 = G') ∧ r = none ∧ True) := by
  refine calls_by [(0, (2, this)), (1, (0, open_))] rfl rfl (Nat.le_of_ble_eq_true rfl) (fun X hX => ?_)
  have hP := hPX6_push
  refine r_ex hX hP 2 (pc' := 3) (st' := [(0, 123), (2, this)]) (lo' := [(0, (2, this)), (1, (0, open_))]) rfl ?_
  refine r_peekI hX (tl_131 1 rfl (by decide)) hS (fun flp1 flp1e flp1a flp1b => ?_)
  refine r_callV gd hX hP rfl cv_X6_116_131 hS (d' := 2) (mc' := 0) (ms' := 0) (as' := [(0, 123)]) (st := []) (by omega) (by omega) (by omega) rfl rfl (Nat.le_of_ble_eq_true rfl) (c_X6_sign E S G this 123 hS flp1 flp1e (by omega) (by omega)) ?_
  rintro _ _ _ ⟨rfl, ⟨G2, rfl⟩, z3, rfl, flh4, flh4e, z3a, z3b, f5⟩
  refine r_peekI hX (tl_131 1 rfl (by decide)) hS (fun o6 o6e o6a o6b => ?_)
  obtain rfl : flh4 = o6 := flh4e.trans o6e.symm
  refine r_if_eq hX hP rfl (tgt := 37) rfl (by omega) (by omega) (fun c7 => ?_) (fun c7 => ?_)
  · skip
    exact r_retV hX hP rfl rfl (by omega) (by omega) ⟨rfl, ⟨_, (hw_sub (hw_refl _ _) rfl).symm⟩, rfl, trivial⟩
  · skip
    refine r_ex hX hP 1 (pc' := 10) (st' := [(2, this)]) (lo' := [(0, (2, this)), (1, (0, open_))]) rfl ?_
    refine r_getI hX hP rfl fl_X6_41_131 hS (fun df8 df8e df8a df8b => ?_)
    refine r_ex hX hP 1 (pc' := 14) (st' := [(0, 3), (0, df8)]) (lo' := [(0, (2, this)), (1, (0, open_))]) rfl ?_
    refine r_ic_ge hX hP rfl (tgt := 37) rfl (by omega) (by omega) (by omega) (by omega) (fun c9 => ?_) (fun c9 => ?_)
    · skip
      exact r_retV hX hP rfl rfl (by omega) (by omega) ⟨rfl, ⟨_, (hw_sub (hw_refl _ _) rfl).symm⟩, rfl, trivial⟩
    · skip
      refine r_ex hX hP 1 (pc' := 18) (st' := [(2, this)]) (lo' := [(0, (2, this)), (1, (0, open_))]) rfl ?_
      refine r_getR hX hP rfl fl_X6_22_131 hS (fun of10 of10e of10s => ?_)
      refine r_ex hX hP 1 (pc' := 22) (st' := [(2, this), (2, of10)]) (lo' := [(0, (2, this)), (1, (0, open_))]) rfl ?_
      refine r_getKI hX hP rfl fl_X6_41_131 hS (x := df8) df8e ?_
      refine r_ex hX hP 1 (pc' := 26) (st' := [(0, open_), (0, df8), (2, of10)]) (lo' := [(0, (2, this)), (1, (0, open_))]) rfl ?_
      refine r_iastK hX hP rfl al_106 of10s (by omega) (by omega) (by omega) (by omega) (fun h11 => ?_)
      refine r_ex hX hP 2 (pc' := 29) (st' := [(2, this), (2, this)]) (lo' := [(0, (2, this)), (1, (0, open_))]) rfl ?_
      refine r_getKI hX hP rfl fl_X6_41_131 hS (x := df8) df8e ?_
      refine r_ex hX hP 2 (pc' := 34) (st' := [(0, (df8 + 1)), (2, this)]) (lo' := [(0, (2, this)), (1, (0, open_))]) rfl ?_
      refine r_putIK hX hP rfl fp_X6_41_131 hS (by omega) (by omega) (fun h12 => ?_)
      exact r_retV hX hP rfl rfl (by omega) (by omega) ⟨rfl, ⟨_, (hw_up (hw_up (hw_sub (hw_refl _ _) rfl) rfl) rfl).symm⟩, rfl, trivial⟩
set_option maxRecDepth 100000 in
set_option maxHeartbeats 4000000 in
theorem c_X6_close (E : En) (S : Sg) (G : Gh) (this : Int) (hS : S this = 131) (dp : Int) (dp_e : dp = G 131 this 11) (pre0 : 1 ≤ dp) : Calls E mX6_close [(2, this)] S G 5 0 0 (fun r S' G' => S = S' ∧ (∃ G1, hw [(106, -1), (131, 1), (131, 2), (131, 5), (131, 6), (131, 7), (131, 8), (131, 11)] G G1 = G') ∧ r = none ∧ True) := by
  refine calls_by [(0, (2, this))] rfl rfl (Nat.le_of_ble_eq_true rfl) (fun X hX => ?_)
  have hP := hPX6_close
  refine r_peekI hX (tl_131 11 rfl (by decide)) hS (fun dp_o dp_oe dp_oa dp_ob => ?_)
  obtain rfl : dp = dp_o := dp_e.trans dp_oe.symm
  refine r_ex hX hP 2 (pc' := 2) (st' := [(2, this), (2, this)]) (lo' := [(0, (2, this))]) rfl ?_
  refine r_getKI hX hP rfl fl_X6_41_131 hS (x := dp) dp_e ?_
  refine r_ex hX hP 2 (pc' := 7) (st' := [(0, (dp - 1)), (2, this)]) (lo' := [(0, (2, this))]) rfl ?_
  refine r_putIK hX hP rfl fp_X6_41_131 hS (by omega) (by omega) (fun h1 => ?_)
  refine r_ex hX hP 1 (pc' := 11) (st' := [(2, this)]) (lo' := [(0, (2, this))]) rfl ?_
  refine r_getR hX hP rfl fl_X6_22_131 hS (fun of2 of2e of2s => ?_)
  refine r_ex hX hP 1 (pc' := 15) (st' := [(2, this), (2, of2)]) (lo' := [(0, (2, this))]) rfl ?_
  refine r_getKI hX hP rfl fl_X6_41_131 hS (x := (dp - 1)) h1 ?_
  refine r_iald hX hP rfl al_106 of2s (by omega) (by omega) (fun x3 x3e x3a x3b => ?_)
  refine r_ex hX hP 2 (pc' := 21) (st' := [(2, this)]) (lo' := [(0, (2, this)), (1, (0, x3))]) rfl ?_
  refine r_callV gd hX hP rfl cv_X6_80_131 hS (d' := 1) (mc' := 0) (ms' := 0) (as' := []) (st := []) (by omega) (by omega) (by omega) rfl rfl (Nat.le_of_ble_eq_true rfl) (c_X6_advance E S (up G 131 this 11 (dp - 1)) this  hS) ?_
  rintro _ _ _ ⟨rfl, ⟨G4, rfl⟩, rfl, -⟩
  refine r_ex hX hP 2 (pc' := 26) (st' := [(0, (-1)), (0, x3)]) (lo' := [(0, (2, this)), (1, (0, x3))]) rfl ?_
  refine r_ic_eq hX hP rfl (tgt := 39) rfl (by omega) (by omega) (by omega) (by omega) (fun c5 => ?_) (fun c5 => ?_)
  · skip
    refine r_ex hX hP 3 (pc' := 42) (st' := [(0, 0)]) (lo' := [(0, (2, this)), (1, (0, x3)), (2, (0, 0))]) rfl ?_
    refine r_if_eq hX hP rfl (tgt := 65) rfl (by omega) (by omega) (fun c6 => ?_) (fun c6 => ?_)
    · skip
      exact r_retV hX hP rfl rfl (by omega) (by omega) ⟨rfl, ⟨_, (hw_sub (hw_up (hw_refl _ _) rfl) rfl).symm⟩, rfl, trivial⟩
    · skip
      exfalso; omega
  · skip
    refine r_ex hX hP 2 (pc' := 31) (st' := [(0, 2), (0, x3)]) (lo' := [(0, (2, this)), (1, (0, x3))]) rfl ?_
    refine r_irem hX hP rfl (by omega) (by omega) (by omega) (by omega) (by omega) ?_
    obtain ⟨q7, q7e⟩ : ∃ q : Int, q = (Int.tmod x3 2) := ⟨_, rfl⟩
    rw [← q7e]
    have q7b := tm_pos q7e (by omega) (by omega)
    have q7f := tm_em q7e (by omega)
    refine r_if_ne hX hP rfl (tgt := 39) rfl (by omega) (by omega) (fun c8 => ?_) (fun c8 => ?_)
    · skip
      refine r_ex hX hP 3 (pc' := 42) (st' := [(0, 0)]) (lo' := [(0, (2, this)), (1, (0, x3)), (2, (0, 0))]) rfl ?_
      refine r_if_eq hX hP rfl (tgt := 65) rfl (by omega) (by omega) (fun c9 => ?_) (fun c9 => ?_)
      · skip
        exact r_retV hX hP rfl rfl (by omega) (by omega) ⟨rfl, ⟨_, (hw_sub (hw_up (hw_refl _ _) rfl) rfl).symm⟩, rfl, trivial⟩
      · skip
        exfalso; omega
    · skip
      refine r_ex hX hP 4 (pc' := 42) (st' := [(0, 1)]) (lo' := [(0, (2, this)), (1, (0, x3)), (2, (0, 1))]) rfl ?_
      refine r_if_eq hX hP rfl (tgt := 65) rfl (by omega) (by omega) (fun c10 => ?_) (fun c10 => ?_)
      · skip
        exfalso; omega
      · skip
        refine r_ex hX hP 1 (pc' := 46) (st' := [(2, this)]) (lo' := [(0, (2, this)), (1, (0, x3)), (2, (0, 1))]) rfl ?_
        refine r_ldcS hX hP rfl (k := 0) (by decide) rfl rfl ?_
        refine r_peekI hX (tl_131 5 rfl (by decide)) hS (fun atp11 atp11e atp11a atp11b => ?_)
        refine r_peekI hX (tl_131 7 rfl (by decide)) hS (fun stp12 stp12e stp12a stp12b => ?_)
        refine r_callV gd hX hP rfl cv_X6_98_131 hS (d' := 4) (mc' := 0) (ms' := 0) (as' := [(2, (sK E 0))]) (st := []) (by omega) (by omega) (by omega) rfl rfl (Nat.le_of_ble_eq_true rfl) (c_X6_is E S (hw [(131, 5), (131, 6), (131, 7), (131, 8)] (up G 131 this 11 (dp - 1)) G4) this 0 hS (by decide) atp11 atp11e stp12 stp12e) ?_
        rintro _ _ _ ⟨rfl, rfl, z13, rfl, z13a, z13b⟩
        refine r_if_eq hX hP rfl (tgt := 65) rfl (by omega) (by omega) (fun c14 => ?_) (fun c14 => ?_)
        · skip
          exact r_retV hX hP rfl rfl (by omega) (by omega) ⟨rfl, ⟨_, (hw_sub (hw_up (hw_refl _ _) rfl) rfl).symm⟩, rfl, trivial⟩
        · skip
          refine r_ex hX hP 1 (pc' := 55) (st' := [(2, this)]) (lo' := [(0, (2, this)), (1, (0, x3)), (2, (0, 1))]) rfl ?_
          refine r_callV gd hX hP rfl cv_X6_80_131 hS (d' := 1) (mc' := 0) (ms' := 0) (as' := []) (st := []) (by omega) (by omega) (by omega) rfl rfl (Nat.le_of_ble_eq_true rfl) (c_X6_advance E S (hw [(131, 5), (131, 6), (131, 7), (131, 8)] (up G 131 this 11 (dp - 1)) G4) this  hS) ?_
          rintro _ _ _ ⟨rfl, ⟨G15, rfl⟩, rfl, -⟩
          refine r_ex hX hP 4 (pc' := 62) (st' := [(0, (x3 + 1)), (2, this)]) (lo' := [(0, (2, this)), (1, (0, x3)), (2, (0, 1))]) rfl ?_
          refine r_callV gd hX hP rfl cv_X6_113_131 hS (d' := 3) (mc' := 0) (ms' := 0) (as' := [(0, (x3 + 1))]) (st := []) (by omega) (by omega) (by omega) rfl rfl (Nat.le_of_ble_eq_true rfl) (c_X6_push E S (hw [(131, 5), (131, 6), (131, 7), (131, 8)] (hw [(131, 5), (131, 6), (131, 7), (131, 8)] (up G 131 this 11 (dp - 1)) G4) G15) this (x3 + 1) hS (by omega) (by omega)) ?_
          rintro _ _ _ ⟨rfl, ⟨G16, rfl⟩, rfl, -⟩
          exact r_retV hX hP rfl rfl (by omega) (by omega) ⟨rfl, ⟨_, (hw_sub (hw_sub (hw_sub (hw_up (hw_refl _ _) rfl) rfl) rfl) rfl).symm⟩, rfl, trivial⟩
set_option maxRecDepth 100000 in
set_option maxHeartbeats 4000000 in
theorem c_X6_row (E : En) (S : Sg) (G : Gh) (this : Int) (hS : S this = 131) (tx : Int) (tx_e : tx = G 131 this 9) (tx_s : S tx = 136) : Calls E mX6_row [(2, this)] S G 0 0 0 (fun r S' G' => S = S' ∧ G = G' ∧ ∃ z : Int, r = some (0, z) ∧ 0 ≤ z ∧ z ≤ 3) := by
  refine calls_by [(0, (2, this))] rfl rfl (Nat.le_of_ble_eq_true rfl) (fun X hX => ?_)
  have hP := hPX6_row
  refine r_ex hX hP 1 (pc' := 1) (st' := [(2, this)]) (lo' := [(0, (2, this))]) rfl ?_
  refine r_getI hX hP rfl fl_X6_41_131 hS (fun df1 df1e df1a df1b => ?_)
  refine r_if_le hX hP rfl (tgt := 31) rfl (by omega) (by omega) (fun c2 => ?_) (fun c2 => ?_)
  · skip
    refine r_ex hX hP 3 (pc' := 34) (st' := [(0, 0)]) (lo' := [(0, (2, this)), (1, (0, 0))]) rfl ?_
    refine r_if_eq hX hP rfl (tgt := 49) rfl (by omega) (by omega) (fun c3 => ?_) (fun c3 => ?_)
    · skip
      refine r_ex hX hP 1 (pc' := 50) (st' := [(0, 3)]) (lo' := [(0, (2, this)), (1, (0, 0))]) rfl ?_
      exact r_retI hX hP rfl rfl (by omega) (by omega) ⟨rfl, rfl, 3, rfl, (by omega)⟩
    · skip
      exfalso; omega
  · skip
    refine r_ex hX hP 1 (pc' := 8) (st' := [(2, this)]) (lo' := [(0, (2, this))]) rfl ?_
    refine r_getR hX hP rfl fl_X6_22_131 hS (fun of4 of4e of4s => ?_)
    refine r_ex hX hP 1 (pc' := 12) (st' := [(0, 0), (2, of4)]) (lo' := [(0, (2, this))]) rfl ?_
    refine r_iald hX hP rfl al_106 of4s (by omega) (by omega) (fun x5 x5e x5a x5b => ?_)
    refine r_ex hX hP 1 (pc' := 14) (st' := [(0, (-1)), (0, x5)]) (lo' := [(0, (2, this))]) rfl ?_
    refine r_ic_ne hX hP rfl (tgt := 31) rfl (by omega) (by omega) (by omega) (by omega) (fun c6 => ?_) (fun c6 => ?_)
    · skip
      refine r_ex hX hP 3 (pc' := 34) (st' := [(0, 0)]) (lo' := [(0, (2, this)), (1, (0, 0))]) rfl ?_
      refine r_if_eq hX hP rfl (tgt := 49) rfl (by omega) (by omega) (fun c7 => ?_) (fun c7 => ?_)
      · skip
        refine r_ex hX hP 1 (pc' := 50) (st' := [(0, 3)]) (lo' := [(0, (2, this)), (1, (0, 0))]) rfl ?_
        exact r_retI hX hP rfl rfl (by omega) (by omega) ⟨rfl, rfl, 3, rfl, (by omega)⟩
      · skip
        exfalso; omega
    · skip
      refine r_ex hX hP 1 (pc' := 18) (st' := [(2, this)]) (lo' := [(0, (2, this))]) rfl ?_
      refine r_getKN hX hP rfl fl_X6_54_131 hS (x := tx) tx_e ?_
      refine r_getI hX hP rfl fl_X6_173_136 tx_s (fun cf8 cf8e cf8a cf8b => ?_)
      refine r_if_le hX hP rfl (tgt := 31) rfl (by omega) (by omega) (fun c9 => ?_) (fun c9 => ?_)
      · skip
        refine r_ex hX hP 3 (pc' := 34) (st' := [(0, 0)]) (lo' := [(0, (2, this)), (1, (0, 0))]) rfl ?_
        refine r_if_eq hX hP rfl (tgt := 49) rfl (by omega) (by omega) (fun c10 => ?_) (fun c10 => ?_)
        · skip
          refine r_ex hX hP 1 (pc' := 50) (st' := [(0, 3)]) (lo' := [(0, (2, this)), (1, (0, 0))]) rfl ?_
          exact r_retI hX hP rfl rfl (by omega) (by omega) ⟨rfl, rfl, 3, rfl, (by omega)⟩
        · skip
          exfalso; omega
      · skip
        refine r_ex hX hP 4 (pc' := 34) (st' := [(0, 1)]) (lo' := [(0, (2, this)), (1, (0, 1))]) rfl ?_
        refine r_if_eq hX hP rfl (tgt := 49) rfl (by omega) (by omega) (fun c11 => ?_) (fun c11 => ?_)
        · skip
          exfalso; omega
        · skip
          refine r_ex hX hP 1 (pc' := 38) (st' := [(2, this)]) (lo' := [(0, (2, this)), (1, (0, 1))]) rfl ?_
          refine r_getKN hX hP rfl fl_X6_54_131 hS (x := tx) tx_e ?_
          refine r_getKI hX hP rfl fl_X6_173_136 tx_s (x := cf8) cf8e ?_
          refine r_ex hX hP 3 (pc' := 50) (st' := [(0, (cf8 - 1))]) (lo' := [(0, (2, this)), (1, (0, 1))]) rfl ?_
          exact r_retI hX hP rfl rfl (by omega) (by omega) ⟨rfl, rfl, (cf8 - 1), rfl, (by omega)⟩
set_option maxRecDepth 100000 in
set_option maxHeartbeats 4000000 in
theorem c_X6_isMisplaced (E : En) (S : Sg) (G : Gh) (this : Int) (what : Int) (hS : S this = 131) (tx : Int) (tx_e : tx = G 131 this 9) (tx_s : S tx = 136) (what_a : (-2147483648) ≤ what) (what_b : what ≤ 2147483647) : Calls E mX6_isMisplaced [(2, this), (0, what)] S G 1 0 0 (fun r S' G' => S = S' ∧ G = G' ∧ ∃ z : Int, r = some (0, z) ∧ 0 ≤ z ∧ z ≤ 1) := by
  refine calls_by [(0, (2, this)), (1, (0, what))] rfl rfl (Nat.le_of_ble_eq_true rfl) (fun X hX => ?_)
  have hP := hPX6_isMisplaced
  refine r_ex hX hP 1 (pc' := 1) (st' := [(2, this)]) (lo' := [(0, (2, this)), (1, (0, what))]) rfl ?_
  refine r_callV gd hX hP rfl cv_X6_168_131 hS (d' := 0) (mc' := 0) (ms' := 0) (as' := []) (st := []) (by omega) (by omega) (by omega) rfl rfl (Nat.le_of_ble_eq_true rfl) (c_X6_row E S G this  hS tx tx_e tx_s) ?_
  rintro _ _ _ ⟨rfl, rfl, z1, rfl, z1a, z1b⟩
  refine r_ex hX hP 3 (pc' := 8) (st' := [(0, 7), (0, what)]) (lo' := [(0, (2, this)), (1, (0, what)), (2, (0, z1))]) rfl ?_
  refine r_ic_eq hX hP rfl (tgt := 17) rfl (by omega) (by omega) (by omega) (by omega) (fun c2 => ?_) (fun c2 => ?_)
  · skip
    refine r_ex hX hP 1 (pc' := 18) (st' := [(2, this)]) (lo' := [(0, (2, this)), (1, (0, what)), (2, (0, z1))]) rfl ?_
    refine r_getI hX hP rfl fl_X6_41_131 hS (fun df3 df3e df3a df3b => ?_)
    refine r_if_le hX hP rfl (tgt := 28) rfl (by omega) (by omega) (fun c4 => ?_) (fun c4 => ?_)
    · skip
      refine r_ex hX hP 1 (pc' := 29) (st' := [(0, 0)]) (lo' := [(0, (2, this)), (1, (0, what)), (2, (0, z1))]) rfl ?_
      exact r_retZ hX hP rfl rfl (by omega) (by omega) (by omega) (by omega) ⟨rfl, rfl, 0, rfl, (by omega)⟩
    · skip
      refine r_ex hX hP 2 (pc' := 29) (st' := [(0, 1)]) (lo' := [(0, (2, this)), (1, (0, what)), (2, (0, z1))]) rfl ?_
      exact r_retZ hX hP rfl rfl (by omega) (by omega) (by omega) (by omega) ⟨rfl, rfl, 1, rfl, (by omega)⟩
  · skip
    refine r_ex hX hP 2 (pc' := 14) (st' := [(0, 8), (0, what)]) (lo' := [(0, (2, this)), (1, (0, what)), (2, (0, z1))]) rfl ?_
    refine r_ic_ne hX hP rfl (tgt := 30) rfl (by omega) (by omega) (by omega) (by omega) (fun c5 => ?_) (fun c5 => ?_)
    · skip
      refine r_ex hX hP 2 (pc' := 33) (st' := [(0, 9), (0, what)]) (lo' := [(0, (2, this)), (1, (0, what)), (2, (0, z1))]) rfl ?_
      refine r_ic_ne hX hP rfl (tgt := 68) rfl (by omega) (by omega) (by omega) (by omega) (fun c6 => ?_) (fun c6 => ?_)
      · skip
        refine r_ex hX hP 2 (pc' := 70) (st' := [(0, 1), (0, what)]) (lo' := [(0, (2, this)), (1, (0, what)), (2, (0, z1))]) rfl ?_
        refine r_ic_ne hX hP rfl (tgt := 99) rfl (by omega) (by omega) (by omega) (by omega) (fun c7 => ?_) (fun c7 => ?_)
        · skip
          refine r_ex hX hP 1 (pc' := 100) (st' := [(0, 0)]) (lo' := [(0, (2, this)), (1, (0, what)), (2, (0, z1))]) rfl ?_
          exact r_retZ hX hP rfl rfl (by omega) (by omega) (by omega) (by omega) ⟨rfl, rfl, 0, rfl, (by omega)⟩
        · skip
          refine r_ex hX hP 2 (pc' := 75) (st' := [(0, 3), (0, z1)]) (lo' := [(0, (2, this)), (1, (0, what)), (2, (0, z1))]) rfl ?_
          refine r_ic_ne hX hP rfl (tgt := 88) rfl (by omega) (by omega) (by omega) (by omega) (fun c8 => ?_) (fun c8 => ?_)
          · skip
            refine r_ex hX hP 1 (pc' := 89) (st' := [(2, this)]) (lo' := [(0, (2, this)), (1, (0, what)), (2, (0, z1))]) rfl ?_
            refine r_getI hX hP rfl fl_X6_77_131 hS (fun tf9 tf9e tf9a tf9b => ?_)
            refine r_if_eq hX hP rfl (tgt := 99) rfl (by omega) (by omega) (fun c10 => ?_) (fun c10 => ?_)
            · skip
              refine r_ex hX hP 1 (pc' := 100) (st' := [(0, 0)]) (lo' := [(0, (2, this)), (1, (0, what)), (2, (0, z1))]) rfl ?_
              exact r_retZ hX hP rfl rfl (by omega) (by omega) (by omega) (by omega) ⟨rfl, rfl, 0, rfl, (by omega)⟩
            · skip
              refine r_ex hX hP 2 (pc' := 100) (st' := [(0, 1)]) (lo' := [(0, (2, this)), (1, (0, what)), (2, (0, z1))]) rfl ?_
              exact r_retZ hX hP rfl rfl (by omega) (by omega) (by omega) (by omega) ⟨rfl, rfl, 1, rfl, (by omega)⟩
          · skip
            refine r_ex hX hP 1 (pc' := 79) (st' := [(2, this)]) (lo' := [(0, (2, this)), (1, (0, what)), (2, (0, z1))]) rfl ?_
            refine r_getI hX hP rfl fl_X6_73_131 hS (fun tf11 tf11e tf11a tf11b => ?_)
            refine r_if_eq hX hP rfl (tgt := 99) rfl (by omega) (by omega) (fun c12 => ?_) (fun c12 => ?_)
            · skip
              refine r_ex hX hP 1 (pc' := 100) (st' := [(0, 0)]) (lo' := [(0, (2, this)), (1, (0, what)), (2, (0, z1))]) rfl ?_
              exact r_retZ hX hP rfl rfl (by omega) (by omega) (by omega) (by omega) ⟨rfl, rfl, 0, rfl, (by omega)⟩
            · skip
              refine r_ex hX hP 3 (pc' := 100) (st' := [(0, 1)]) (lo' := [(0, (2, this)), (1, (0, what)), (2, (0, z1))]) rfl ?_
              exact r_retZ hX hP rfl rfl (by omega) (by omega) (by omega) (by omega) ⟨rfl, rfl, 1, rfl, (by omega)⟩
      · skip
        refine r_ex hX hP 1 (pc' := 37) (st' := [(2, this)]) (lo' := [(0, (2, this)), (1, (0, what)), (2, (0, z1))]) rfl ?_
        refine r_getI hX hP rfl fl_X6_41_131 hS (fun df13 df13e df13a df13b => ?_)
        refine r_ex hX hP 1 (pc' := 41) (st' := [(0, 1), (0, df13)]) (lo' := [(0, (2, this)), (1, (0, what)), (2, (0, z1))]) rfl ?_
        refine r_ic_ne hX hP rfl (tgt := 62) rfl (by omega) (by omega) (by omega) (by omega) (fun c14 => ?_) (fun c14 => ?_)
        · skip
          refine r_ex hX hP 2 (pc' := 67) (st' := [(0, 1)]) (lo' := [(0, (2, this)), (1, (0, what)), (2, (0, z1))]) rfl ?_
          exact r_retZ hX hP rfl rfl (by omega) (by omega) (by omega) (by omega) ⟨rfl, rfl, 1, rfl, (by omega)⟩
        · skip
          refine r_ex hX hP 2 (pc' := 46) (st' := [(0, 3), (0, z1)]) (lo' := [(0, (2, this)), (1, (0, what)), (2, (0, z1))]) rfl ?_
          refine r_ic_eq hX hP rfl (tgt := 62) rfl (by omega) (by omega) (by omega) (by omega) (fun c15 => ?_) (fun c15 => ?_)
          · skip
            refine r_ex hX hP 2 (pc' := 67) (st' := [(0, 1)]) (lo' := [(0, (2, this)), (1, (0, what)), (2, (0, z1))]) rfl ?_
            exact r_retZ hX hP rfl rfl (by omega) (by omega) (by omega) (by omega) ⟨rfl, rfl, 1, rfl, (by omega)⟩
          · skip
            refine r_ex hX hP 1 (pc' := 50) (st' := [(2, this)]) (lo' := [(0, (2, this)), (1, (0, what)), (2, (0, z1))]) rfl ?_
            refine r_getKN hX hP rfl fl_X6_54_131 hS (x := tx) tx_e ?_
            refine r_getR hX hP rfl fl_X6_171_136 tx_s (fun mf16 mf16e mf16s => ?_)
            refine r_ex hX hP 1 (pc' := 57) (st' := [(0, z1), (2, mf16)]) (lo' := [(0, (2, this)), (1, (0, what)), (2, (0, z1))]) rfl ?_
            refine r_iald hX hP rfl al_124 mf16s (by omega) (by omega) (fun x17 x17e x17a x17b => ?_)
            refine r_ex hX hP 1 (pc' := 59) (st' := [(0, (-1)), (0, x17)]) (lo' := [(0, (2, this)), (1, (0, what)), (2, (0, z1))]) rfl ?_
            refine r_ic_eq hX hP rfl (tgt := 66) rfl (by omega) (by omega) (by omega) (by omega) (fun c18 => ?_) (fun c18 => ?_)
            · skip
              refine r_ex hX hP 1 (pc' := 67) (st' := [(0, 0)]) (lo' := [(0, (2, this)), (1, (0, what)), (2, (0, z1))]) rfl ?_
              exact r_retZ hX hP rfl rfl (by omega) (by omega) (by omega) (by omega) ⟨rfl, rfl, 0, rfl, (by omega)⟩
            · skip
              refine r_ex hX hP 2 (pc' := 67) (st' := [(0, 1)]) (lo' := [(0, (2, this)), (1, (0, what)), (2, (0, z1))]) rfl ?_
              exact r_retZ hX hP rfl rfl (by omega) (by omega) (by omega) (by omega) ⟨rfl, rfl, 1, rfl, (by omega)⟩
    · skip
      refine r_ex hX hP 1 (pc' := 18) (st' := [(2, this)]) (lo' := [(0, (2, this)), (1, (0, what)), (2, (0, z1))]) rfl ?_
      refine r_getI hX hP rfl fl_X6_41_131 hS (fun df19 df19e df19a df19b => ?_)
      refine r_if_le hX hP rfl (tgt := 28) rfl (by omega) (by omega) (fun c20 => ?_) (fun c20 => ?_)
      · skip
        refine r_ex hX hP 1 (pc' := 29) (st' := [(0, 0)]) (lo' := [(0, (2, this)), (1, (0, what)), (2, (0, z1))]) rfl ?_
        exact r_retZ hX hP rfl rfl (by omega) (by omega) (by omega) (by omega) ⟨rfl, rfl, 0, rfl, (by omega)⟩
      · skip
        refine r_ex hX hP 2 (pc' := 29) (st' := [(0, 1)]) (lo' := [(0, (2, this)), (1, (0, what)), (2, (0, z1))]) rfl ?_
        exact r_retZ hX hP rfl rfl (by omega) (by omega) (by omega) (by omega) ⟨rfl, rfl, 1, rfl, (by omega)⟩
set_option maxRecDepth 100000 in
set_option maxHeartbeats 4000000 in
theorem c_X6_wordFault (E : En) (S : Sg) (G : Gh) (this : Int) (what : Int) (hS : S this = 131) (tx : Int) (tx_e : tx = G 131 this 9) (tx_s : S tx = 136) (td : Int) (td_e : td = G 131 this 10) (dp : Int) (dp_e : dp = G 131 this 11) (what_a : (-2147483648) ≤ what) (what_b : what ≤ 2147483647) : Calls E mX6_wordFault [(2, this), (0, what)] S G 2 0 0 (fun r S' G' => S = S' ∧ G = G' ∧ ∃ z : Int, r = some (0, z) ∧ ((z = 0 ∧ what ≠ -1 ∧ td ≤ 29 ∧ dp ≤ 2) ∨ (1 ≤ z ∧ z ≤ 6))) := by
  refine calls_by [(0, (2, this)), (1, (0, what))] rfl rfl (Nat.le_of_ble_eq_true rfl) (fun X hX => ?_)
  have hP := hPX6_wordFault
  refine r_peekI hX (tl_131 10 rfl (by decide)) hS (fun td_o td_oe td_oa td_ob => ?_)
  obtain rfl : td = td_o := td_e.trans td_oe.symm
  refine r_peekI hX (tl_131 11 rfl (by decide)) hS (fun dp_o dp_oe dp_oa dp_ob => ?_)
  obtain rfl : dp = dp_o := dp_e.trans dp_oe.symm
  refine r_ex hX hP 2 (pc' := 2) (st' := [(0, (-1)), (0, what)]) (lo' := [(0, (2, this)), (1, (0, what))]) rfl ?_
  refine r_ic_ne hX hP rfl (tgt := 7) rfl (by omega) (by omega) (by omega) (by omega) (fun c1 => ?_) (fun c1 => ?_)
  · skip
    refine r_ex hX hP 1 (pc' := 8) (st' := [(2, this)]) (lo' := [(0, (2, this)), (1, (0, what))]) rfl ?_
    refine r_getKI hX hP rfl fl_X6_70_131 hS (x := td) td_e ?_
    refine r_ex hX hP 1 (pc' := 13) (st' := [(0, 30), (0, td)]) (lo' := [(0, (2, this)), (1, (0, what))]) rfl ?_
    refine r_ic_ge hX hP rfl (tgt := 24) rfl (by omega) (by omega) (by omega) (by omega) (fun c2 => ?_) (fun c2 => ?_)
    · skip
      refine r_ex hX hP 1 (pc' := 25) (st' := [(0, 3)]) (lo' := [(0, (2, this)), (1, (0, what))]) rfl ?_
      exact r_retI hX hP rfl rfl (by omega) (by omega) ⟨rfl, rfl, 3, rfl, (by omega)⟩
    · skip
      refine r_ex hX hP 1 (pc' := 17) (st' := [(2, this)]) (lo' := [(0, (2, this)), (1, (0, what))]) rfl ?_
      refine r_getKI hX hP rfl fl_X6_41_131 hS (x := dp) dp_e ?_
      refine r_ex hX hP 1 (pc' := 21) (st' := [(0, 3), (0, dp)]) (lo' := [(0, (2, this)), (1, (0, what))]) rfl ?_
      refine r_ic_lt hX hP rfl (tgt := 26) rfl (by omega) (by omega) (by omega) (by omega) (fun c3 => ?_) (fun c3 => ?_)
      · skip
        refine r_ex hX hP 2 (pc' := 29) (st' := [(0, 8), (0, what)]) (lo' := [(0, (2, this)), (1, (0, what))]) rfl ?_
        refine r_ic_ne hX hP rfl (tgt := 45) rfl (by omega) (by omega) (by omega) (by omega) (fun c4 => ?_) (fun c4 => ?_)
        · skip
          refine r_ex hX hP 2 (pc' := 47) (st' := [(0, what), (2, this)]) (lo' := [(0, (2, this)), (1, (0, what))]) rfl ?_
          refine r_callV gd hX hP rfl cv_X6_165_131 hS (d' := 1) (mc' := 0) (ms' := 0) (as' := [(0, what)]) (st := []) (by omega) (by omega) (by omega) rfl rfl (Nat.le_of_ble_eq_true rfl) (c_X6_isMisplaced E S G this what hS tx tx_e tx_s (by omega) (by omega)) ?_
          rintro _ _ _ ⟨rfl, rfl, z5, rfl, z5a, z5b⟩
          refine r_if_eq hX hP rfl (tgt := 58) rfl (by omega) (by omega) (fun c6 => ?_) (fun c6 => ?_)
          · skip
            refine r_ex hX hP 1 (pc' := 59) (st' := [(0, 0)]) (lo' := [(0, (2, this)), (1, (0, what))]) rfl ?_
            exact r_retI hX hP rfl rfl (by omega) (by omega) ⟨rfl, rfl, 0, rfl, (by omega)⟩
          · skip
            refine r_ex hX hP 2 (pc' := 59) (st' := [(0, 6)]) (lo' := [(0, (2, this)), (1, (0, what))]) rfl ?_
            exact r_retI hX hP rfl rfl (by omega) (by omega) ⟨rfl, rfl, 6, rfl, (by omega)⟩
        · skip
          refine r_ex hX hP 1 (pc' := 33) (st' := [(2, this)]) (lo' := [(0, (2, this)), (1, (0, what))]) rfl ?_
          refine r_getKN hX hP rfl fl_X6_54_131 hS (x := tx) tx_e ?_
          refine r_getI hX hP rfl fl_X6_163_136 tx_s (fun ff7 ff7e ff7a ff7b => ?_)
          refine r_ex hX hP 1 (pc' := 40) (st' := [(0, (-1)), (0, ff7)]) (lo' := [(0, (2, this)), (1, (0, what))]) rfl ?_
          refine r_ic_eq hX hP rfl (tgt := 45) rfl (by omega) (by omega) (by omega) (by omega) (fun c8 => ?_) (fun c8 => ?_)
          · skip
            refine r_ex hX hP 2 (pc' := 47) (st' := [(0, what), (2, this)]) (lo' := [(0, (2, this)), (1, (0, what))]) rfl ?_
            refine r_callV gd hX hP rfl cv_X6_165_131 hS (d' := 1) (mc' := 0) (ms' := 0) (as' := [(0, what)]) (st := []) (by omega) (by omega) (by omega) rfl rfl (Nat.le_of_ble_eq_true rfl) (c_X6_isMisplaced E S G this what hS tx tx_e tx_s (by omega) (by omega)) ?_
            rintro _ _ _ ⟨rfl, rfl, z9, rfl, z9a, z9b⟩
            refine r_if_eq hX hP rfl (tgt := 58) rfl (by omega) (by omega) (fun c10 => ?_) (fun c10 => ?_)
            · skip
              refine r_ex hX hP 1 (pc' := 59) (st' := [(0, 0)]) (lo' := [(0, (2, this)), (1, (0, what))]) rfl ?_
              exact r_retI hX hP rfl rfl (by omega) (by omega) ⟨rfl, rfl, 0, rfl, (by omega)⟩
            · skip
              refine r_ex hX hP 2 (pc' := 59) (st' := [(0, 6)]) (lo' := [(0, (2, this)), (1, (0, what))]) rfl ?_
              exact r_retI hX hP rfl rfl (by omega) (by omega) ⟨rfl, rfl, 6, rfl, (by omega)⟩
          · skip
            refine r_ex hX hP 1 (pc' := 44) (st' := [(0, 5)]) (lo' := [(0, (2, this)), (1, (0, what))]) rfl ?_
            exact r_retI hX hP rfl rfl (by omega) (by omega) ⟨rfl, rfl, 5, rfl, (by omega)⟩
      · skip
        refine r_ex hX hP 1 (pc' := 25) (st' := [(0, 3)]) (lo' := [(0, (2, this)), (1, (0, what))]) rfl ?_
        exact r_retI hX hP rfl rfl (by omega) (by omega) ⟨rfl, rfl, 3, rfl, (by omega)⟩
  · skip
    refine r_ex hX hP 1 (pc' := 6) (st' := [(0, 2)]) (lo' := [(0, (2, this)), (1, (0, what))]) rfl ?_
    exact r_retI hX hP rfl rfl (by omega) (by omega) ⟨rfl, rfl, 2, rfl, (by omega)⟩
set_option maxRecDepth 100000 in
set_option maxHeartbeats 4000000 in
theorem c_X6_clauseWord (E : En) (S : Sg) (G : Gh) (this : Int) (hS : S this = 131) : Calls E mX6_clauseWord [(2, this)] S G 5 0 0 (fun r S' G' => S = S' ∧ G = G' ∧ ∃ z : Int, r = some (0, z) ∧ (-1) ≤ z ∧ z ≤ 9) := by
  refine calls_by [(0, (2, this))] rfl rfl (Nat.le_of_ble_eq_true rfl) (fun X hX => ?_)
  have hP := hPX6_clauseWord
  refine r_ex hX hP 1 (pc' := 1) (st' := [(2, this)]) (lo' := [(0, (2, this))]) rfl ?_
  refine r_ldcS hX hP rfl (k := 1) (by decide) rfl rfl ?_
  refine r_peekI hX (tl_131 5 rfl (by decide)) hS (fun atp1 atp1e atp1a atp1b => ?_)
  refine r_peekI hX (tl_131 7 rfl (by decide)) hS (fun stp2 stp2e stp2a stp2b => ?_)
  refine r_callV gd hX hP rfl cv_X6_98_131 hS (d' := 4) (mc' := 0) (ms' := 0) (as' := [(2, (sK E 1))]) (st := []) (by omega) (by omega) (by omega) rfl rfl (Nat.le_of_ble_eq_true rfl) (c_X6_is E S G this 1 hS (by decide) atp1 atp1e stp2 stp2e) ?_
  rintro _ _ _ ⟨rfl, rfl, z3, rfl, z3a, z3b⟩
  refine r_if_eq hX hP rfl (tgt := 11) rfl (by omega) (by omega) (fun c4 => ?_) (fun c4 => ?_)
  · skip
    refine r_ex hX hP 1 (pc' := 12) (st' := [(2, this)]) (lo' := [(0, (2, this))]) rfl ?_
    refine r_ldcS hX hP rfl (k := 2) (by decide) rfl rfl ?_
    refine r_callV gd hX hP rfl cv_X6_98_131 hS (d' := 4) (mc' := 0) (ms' := 0) (as' := [(2, (sK E 2))]) (st := []) (by omega) (by omega) (by omega) rfl rfl (Nat.le_of_ble_eq_true rfl) (c_X6_is E S G this 2 hS (by decide) atp1 atp1e stp2 stp2e) ?_
    rintro _ _ _ ⟨rfl, rfl, z5, rfl, z5a, z5b⟩
    refine r_if_eq hX hP rfl (tgt := 22) rfl (by omega) (by omega) (fun c6 => ?_) (fun c6 => ?_)
    · skip
      refine r_ex hX hP 1 (pc' := 23) (st' := [(2, this)]) (lo' := [(0, (2, this))]) rfl ?_
      refine r_ldcS hX hP rfl (k := 3) (by decide) rfl rfl ?_
      refine r_callV gd hX hP rfl cv_X6_98_131 hS (d' := 4) (mc' := 0) (ms' := 0) (as' := [(2, (sK E 3))]) (st := []) (by omega) (by omega) (by omega) rfl rfl (Nat.le_of_ble_eq_true rfl) (c_X6_is E S G this 3 hS (by decide) atp1 atp1e stp2 stp2e) ?_
      rintro _ _ _ ⟨rfl, rfl, z7, rfl, z7a, z7b⟩
      refine r_if_eq hX hP rfl (tgt := 33) rfl (by omega) (by omega) (fun c8 => ?_) (fun c8 => ?_)
      · skip
        refine r_ex hX hP 1 (pc' := 34) (st' := [(2, this)]) (lo' := [(0, (2, this))]) rfl ?_
        refine r_ldcS hX hP rfl (k := 4) (by decide) rfl rfl ?_
        refine r_callV gd hX hP rfl cv_X6_98_131 hS (d' := 4) (mc' := 0) (ms' := 0) (as' := [(2, (sK E 4))]) (st := []) (by omega) (by omega) (by omega) rfl rfl (Nat.le_of_ble_eq_true rfl) (c_X6_is E S G this 4 hS (by decide) atp1 atp1e stp2 stp2e) ?_
        rintro _ _ _ ⟨rfl, rfl, z9, rfl, z9a, z9b⟩
        refine r_if_eq hX hP rfl (tgt := 44) rfl (by omega) (by omega) (fun c10 => ?_) (fun c10 => ?_)
        · skip
          refine r_ex hX hP 1 (pc' := 45) (st' := [(2, this)]) (lo' := [(0, (2, this))]) rfl ?_
          refine r_ldcS hX hP rfl (k := 5) (by decide) rfl rfl ?_
          refine r_callV gd hX hP rfl cv_X6_98_131 hS (d' := 4) (mc' := 0) (ms' := 0) (as' := [(2, (sK E 5))]) (st := []) (by omega) (by omega) (by omega) rfl rfl (Nat.le_of_ble_eq_true rfl) (c_X6_is E S G this 5 hS (by decide) atp1 atp1e stp2 stp2e) ?_
          rintro _ _ _ ⟨rfl, rfl, z11, rfl, z11a, z11b⟩
          refine r_if_eq hX hP rfl (tgt := 55) rfl (by omega) (by omega) (fun c12 => ?_) (fun c12 => ?_)
          · skip
            refine r_ex hX hP 1 (pc' := 56) (st' := [(2, this)]) (lo' := [(0, (2, this))]) rfl ?_
            refine r_ldcS hX hP rfl (k := 6) (by decide) rfl rfl ?_
            refine r_callV gd hX hP rfl cv_X6_98_131 hS (d' := 4) (mc' := 0) (ms' := 0) (as' := [(2, (sK E 6))]) (st := []) (by omega) (by omega) (by omega) rfl rfl (Nat.le_of_ble_eq_true rfl) (c_X6_is E S G this 6 hS (by decide) atp1 atp1e stp2 stp2e) ?_
            rintro _ _ _ ⟨rfl, rfl, z13, rfl, z13a, z13b⟩
            refine r_if_eq hX hP rfl (tgt := 66) rfl (by omega) (by omega) (fun c14 => ?_) (fun c14 => ?_)
            · skip
              refine r_ex hX hP 1 (pc' := 67) (st' := [(2, this)]) (lo' := [(0, (2, this))]) rfl ?_
              refine r_ldcS hX hP rfl (k := 7) (by decide) rfl rfl ?_
              refine r_callV gd hX hP rfl cv_X6_98_131 hS (d' := 4) (mc' := 0) (ms' := 0) (as' := [(2, (sK E 7))]) (st := []) (by omega) (by omega) (by omega) rfl rfl (Nat.le_of_ble_eq_true rfl) (c_X6_is E S G this 7 hS (by decide) atp1 atp1e stp2 stp2e) ?_
              rintro _ _ _ ⟨rfl, rfl, z15, rfl, z15a, z15b⟩
              refine r_if_eq hX hP rfl (tgt := 78) rfl (by omega) (by omega) (fun c16 => ?_) (fun c16 => ?_)
              · skip
                refine r_ex hX hP 1 (pc' := 79) (st' := [(2, this)]) (lo' := [(0, (2, this))]) rfl ?_
                refine r_ldcS hX hP rfl (k := 8) (by decide) rfl rfl ?_
                refine r_callV gd hX hP rfl cv_X6_98_131 hS (d' := 4) (mc' := 0) (ms' := 0) (as' := [(2, (sK E 8))]) (st := []) (by omega) (by omega) (by omega) rfl rfl (Nat.le_of_ble_eq_true rfl) (c_X6_is E S G this 8 hS (by decide) atp1 atp1e stp2 stp2e) ?_
                rintro _ _ _ ⟨rfl, rfl, z17, rfl, z17a, z17b⟩
                refine r_if_eq hX hP rfl (tgt := 90) rfl (by omega) (by omega) (fun c18 => ?_) (fun c18 => ?_)
                · skip
                  refine r_ex hX hP 1 (pc' := 91) (st' := [(2, this)]) (lo' := [(0, (2, this))]) rfl ?_
                  refine r_ldcS hX hP rfl (k := 9) (by decide) rfl rfl ?_
                  refine r_callV gd hX hP rfl cv_X6_98_131 hS (d' := 4) (mc' := 0) (ms' := 0) (as' := [(2, (sK E 9))]) (st := []) (by omega) (by omega) (by omega) rfl rfl (Nat.le_of_ble_eq_true rfl) (c_X6_is E S G this 9 hS (by decide) atp1 atp1e stp2 stp2e) ?_
                  rintro _ _ _ ⟨rfl, rfl, z19, rfl, z19a, z19b⟩
                  refine r_if_eq hX hP rfl (tgt := 102) rfl (by omega) (by omega) (fun c20 => ?_) (fun c20 => ?_)
                  · skip
                    refine r_ex hX hP 1 (pc' := 103) (st' := [(2, this)]) (lo' := [(0, (2, this))]) rfl ?_
                    refine r_ldcS hX hP rfl (k := 10) (by decide) rfl rfl ?_
                    refine r_callV gd hX hP rfl cv_X6_98_131 hS (d' := 4) (mc' := 0) (ms' := 0) (as' := [(2, (sK E 10))]) (st := []) (by omega) (by omega) (by omega) rfl rfl (Nat.le_of_ble_eq_true rfl) (c_X6_is E S G this 10 hS (by decide) atp1 atp1e stp2 stp2e) ?_
                    rintro _ _ _ ⟨rfl, rfl, z21, rfl, z21a, z21b⟩
                    refine r_if_eq hX hP rfl (tgt := 116) rfl (by omega) (by omega) (fun c22 => ?_) (fun c22 => ?_)
                    · skip
                      refine r_ex hX hP 1 (pc' := 117) (st' := [(0, (-1))]) (lo' := [(0, (2, this))]) rfl ?_
                      exact r_retI hX hP rfl rfl (by omega) (by omega) ⟨rfl, rfl, (-1), rfl, (by omega)⟩
                    · skip
                      refine r_ex hX hP 2 (pc' := 117) (st' := [(0, 9)]) (lo' := [(0, (2, this))]) rfl ?_
                      exact r_retI hX hP rfl rfl (by omega) (by omega) ⟨rfl, rfl, 9, rfl, (by omega)⟩
                  · skip
                    refine r_ex hX hP 1 (pc' := 101) (st' := [(0, 8)]) (lo' := [(0, (2, this))]) rfl ?_
                    exact r_retI hX hP rfl rfl (by omega) (by omega) ⟨rfl, rfl, 8, rfl, (by omega)⟩
                · skip
                  refine r_ex hX hP 1 (pc' := 89) (st' := [(0, 7)]) (lo' := [(0, (2, this))]) rfl ?_
                  exact r_retI hX hP rfl rfl (by omega) (by omega) ⟨rfl, rfl, 7, rfl, (by omega)⟩
              · skip
                refine r_ex hX hP 1 (pc' := 77) (st' := [(0, 6)]) (lo' := [(0, (2, this))]) rfl ?_
                exact r_retI hX hP rfl rfl (by omega) (by omega) ⟨rfl, rfl, 6, rfl, (by omega)⟩
            · skip
              refine r_ex hX hP 1 (pc' := 65) (st' := [(0, 5)]) (lo' := [(0, (2, this))]) rfl ?_
              exact r_retI hX hP rfl rfl (by omega) (by omega) ⟨rfl, rfl, 5, rfl, (by omega)⟩
          · skip
            refine r_ex hX hP 1 (pc' := 54) (st' := [(0, 4)]) (lo' := [(0, (2, this))]) rfl ?_
            exact r_retI hX hP rfl rfl (by omega) (by omega) ⟨rfl, rfl, 4, rfl, (by omega)⟩
        · skip
          refine r_ex hX hP 1 (pc' := 43) (st' := [(0, 3)]) (lo' := [(0, (2, this))]) rfl ?_
          exact r_retI hX hP rfl rfl (by omega) (by omega) ⟨rfl, rfl, 3, rfl, (by omega)⟩
      · skip
        refine r_ex hX hP 1 (pc' := 32) (st' := [(0, 2)]) (lo' := [(0, (2, this))]) rfl ?_
        exact r_retI hX hP rfl rfl (by omega) (by omega) ⟨rfl, rfl, 2, rfl, (by omega)⟩
    · skip
      refine r_ex hX hP 1 (pc' := 21) (st' := [(0, 1)]) (lo' := [(0, (2, this))]) rfl ?_
      exact r_retI hX hP rfl rfl (by omega) (by omega) ⟨rfl, rfl, 1, rfl, (by omega)⟩
  · skip
    refine r_ex hX hP 1 (pc' := 10) (st' := [(0, 0)]) (lo' := [(0, (2, this))]) rfl ?_
    exact r_retI hX hP rfl rfl (by omega) (by omega) ⟨rfl, rfl, 0, rfl, (by omega)⟩
set_option maxRecDepth 100000 in
set_option maxHeartbeats 4000000 in
theorem c_X6_store (E : En) (S : Sg) (G : Gh) (this : Int) (what : Int) (m : Int) (q : Int) (n : Int) (hS : S this = 131) (tx : Int) (tx_e : tx = G 131 this 9) (tx_s : S tx = 136) (s0 : Int) (s0_e : s0 = G 136 tx 0) (f0 : Int) (f0_e : f0 = G 131 this 1) (what_a : (-2147483648) ≤ what) (what_b : what ≤ 2147483647) (m_a : (-2147483648) ≤ m) (m_b : m ≤ 2147483647) (q_a : (-2147483648) ≤ q) (q_b : q ≤ 2147483647) (n_a : (-2147483648) ≤ n) (n_b : n ≤ 2147483647) (pre0 : (f0 ≠ 0 ∨ (what ≠ 0 ∧ what ≠ 4) ∨ (0 ≤ q ∧ q ≤ 19))) (ci : CI E S G) : Calls E mX6_store [(2, this), (0, what), (0, m), (0, q), (0, n)] S G 1 0 0 (fun r S' G' => S = S' ∧ (∃ G1, hw [(119, -1), (120, -1), (121, -1), (122, -1), (123, -1), (136, 0)] G G1 = G') ∧ r = none ∧ ∃ s1 : Int, s1 = G' 136 tx 0 ∧ s1 ≤ s0 + 1 ∧ CI E S G') := by
  refine calls_by [(0, (2, this)), (1, (0, what)), (2, (0, m)), (3, (0, q)), (4, (0, n))] rfl rfl (Nat.le_of_ble_eq_true rfl) (fun X hX => ?_)
  have hP := hPX6_store
  refine r_peekI hX (tl_136 0 rfl (by decide)) tx_s (fun s0_o s0_oe s0_oa s0_ob => ?_)
  obtain rfl : s0 = s0_o := s0_e.trans s0_oe.symm
  refine r_peekI hX (tl_131 1 rfl (by decide)) hS (fun f0_o f0_oe f0_oa f0_ob => ?_)
  obtain rfl : f0 = f0_o := f0_e.trans f0_oe.symm
  refine r_ex hX hP 1 (pc' := 1) (st' := [(2, this)]) (lo' := [(0, (2, this)), (1, (0, what)), (2, (0, m)), (3, (0, q)), (4, (0, n))]) rfl ?_
  refine r_getKN hX hP rfl fl_X6_54_131 hS (x := tx) tx_e ?_
  refine r_getKI hX hP rfl fl_X6_176_136 tx_s (x := s0) s0_e ?_
  refine r_ex hX hP 2 (pc' := 10) (st' := [(2, this)]) (lo' := [(0, (2, this)), (1, (0, what)), (2, (0, m)), (3, (0, q)), (4, (0, n)), (5, (0, s0))]) rfl ?_
  refine r_getKI hX hP rfl fl_X6_9_131 hS (x := f0) f0_e ?_
  refine r_if_ne hX hP rfl (tgt := 23) rfl (by omega) (by omega) (fun c1 => ?_) (fun c1 => ?_)
  · skip
    exact r_retV hX hP rfl rfl (by omega) (by omega) ⟨rfl, ⟨_, (hw_refl _ _).symm⟩, rfl, s0, s0_e, (by omega), ci⟩
  · skip
    refine r_ex hX hP 2 (pc' := 20) (st' := [(0, 30), (0, s0)]) (lo' := [(0, (2, this)), (1, (0, what)), (2, (0, m)), (3, (0, q)), (4, (0, n)), (5, (0, s0))]) rfl ?_
    refine r_ic_lt hX hP rfl (tgt := 24) rfl (by omega) (by omega) (by omega) (by omega) (fun c2 => ?_) (fun c2 => ?_)
    · skip
      refine r_ex hX hP 1 (pc' := 25) (st' := [(2, this)]) (lo' := [(0, (2, this)), (1, (0, what)), (2, (0, m)), (3, (0, q)), (4, (0, n)), (5, (0, s0))]) rfl ?_
      refine r_getKN hX hP rfl fl_X6_54_131 hS (x := tx) tx_e ?_
      refine r_getR hX hP rfl fl_X6_179_136 tx_s (fun rf3 rf3e rf3s => ?_)
      refine r_ex hX hP 2 (pc' := 34) (st' := [(2, this), (0, s0), (2, rf3)]) (lo' := [(0, (2, this)), (1, (0, what)), (2, (0, m)), (3, (0, q)), (4, (0, n)), (5, (0, s0))]) rfl ?_
      refine r_callV gd hX hP rfl cv_X6_168_131 hS (d' := 0) (mc' := 0) (ms' := 0) (as' := []) (st := [(0, s0), (2, rf3)]) (by omega) (by omega) (by omega) rfl rfl (Nat.le_of_ble_eq_true rfl) (c_X6_row E S G this  hS tx tx_e tx_s) ?_
      rintro _ _ _ ⟨rfl, rfl, z4, rfl, z4a, z4b⟩
      refine r_iastK hX hP rfl al_122 rf3s (by omega) (by omega) (by omega) (by omega) (fun h5 => ?_)
      refine r_ex hX hP 1 (pc' := 39) (st' := [(2, this)]) (lo' := [(0, (2, this)), (1, (0, what)), (2, (0, m)), (3, (0, q)), (4, (0, n)), (5, (0, s0))]) rfl ?_
      refine r_getKN hX hP rfl fl_X6_54_131 hS (x := tx) tx_e ?_
      refine r_getR hX hP rfl fl_X6_181_136 tx_s (fun if6 if6e if6s => ?_)
      refine r_ex hX hP 2 (pc' := 48) (st' := [(2, this), (0, s0), (2, if6)]) (lo' := [(0, (2, this)), (1, (0, what)), (2, (0, m)), (3, (0, q)), (4, (0, n)), (5, (0, s0))]) rfl ?_
      refine r_getI hX hP rfl fl_X6_41_131 hS (fun df7 df7e df7a df7b => ?_)
      refine r_if_le hX hP rfl (tgt := 68) rfl (by omega) (by omega) (fun c8 => ?_) (fun c8 => ?_)
      · skip
        refine r_ex hX hP 1 (pc' := 69) (st' := [(0, (-1)), (0, s0), (2, if6)]) (lo' := [(0, (2, this)), (1, (0, what)), (2, (0, m)), (3, (0, q)), (4, (0, n)), (5, (0, s0))]) rfl ?_
        refine r_iastK hX hP rfl al_123 if6s (by omega) (by omega) (by omega) (by omega) (fun h9 => ?_)
        refine r_ex hX hP 1 (pc' := 71) (st' := [(2, this)]) (lo' := [(0, (2, this)), (1, (0, what)), (2, (0, m)), (3, (0, q)), (4, (0, n)), (5, (0, s0))]) rfl ?_
        refine r_getKN hX hP rfl fl_X6_54_131 hS (x := tx) tx_e ?_
        refine r_getR hX hP rfl fl_X6_184_136 tx_s (fun kf10 kf10e kf10s => ?_)
        refine r_ex hX hP 2 (pc' := 80) (st' := [(0, what), (0, s0), (2, kf10)]) (lo' := [(0, (2, this)), (1, (0, what)), (2, (0, m)), (3, (0, q)), (4, (0, n)), (5, (0, s0))]) rfl ?_
        refine r_iastK hX hP rfl al_120 kf10s (by omega) (by omega) (by omega) (by omega) (fun h11 => ?_)
        refine r_ex hX hP 1 (pc' := 82) (st' := [(2, this)]) (lo' := [(0, (2, this)), (1, (0, what)), (2, (0, m)), (3, (0, q)), (4, (0, n)), (5, (0, s0))]) rfl ?_
        refine r_getKN hX hP rfl fl_X6_54_131 hS (x := tx) tx_e ?_
        refine r_getR hX hP rfl fl_X6_187_136 tx_s (fun mf12 mf12e mf12s => ?_)
        refine r_ex hX hP 2 (pc' := 91) (st' := [(0, m), (0, s0), (2, mf12)]) (lo' := [(0, (2, this)), (1, (0, what)), (2, (0, m)), (3, (0, q)), (4, (0, n)), (5, (0, s0))]) rfl ?_
        refine r_iastK hX hP rfl al_119 mf12s (by omega) (by omega) (by omega) (by omega) (fun h13 => ?_)
        refine r_ex hX hP 1 (pc' := 93) (st' := [(2, this)]) (lo' := [(0, (2, this)), (1, (0, what)), (2, (0, m)), (3, (0, q)), (4, (0, n)), (5, (0, s0))]) rfl ?_
        refine r_getKN hX hP rfl fl_X6_54_131 hS (x := tx) tx_e ?_
        refine r_getR hX hP rfl fl_X6_190_136 tx_s (fun qf14 qf14e qf14s => ?_)
        refine r_ex hX hP 2 (pc' := 102) (st' := [(0, q), (0, s0), (2, qf14)]) (lo' := [(0, (2, this)), (1, (0, what)), (2, (0, m)), (3, (0, q)), (4, (0, n)), (5, (0, s0))]) rfl ?_
        refine r_iastK hX hP rfl al_121 qf14s (by omega) (by omega) (by omega) (by omega) (fun h15 => ?_)
        refine r_ex hX hP 1 (pc' := 104) (st' := [(2, this)]) (lo' := [(0, (2, this)), (1, (0, what)), (2, (0, m)), (3, (0, q)), (4, (0, n)), (5, (0, s0))]) rfl ?_
        refine r_getKN hX hP rfl fl_X6_54_131 hS (x := tx) tx_e ?_
        refine r_getR hX hP rfl fl_X6_193_136 tx_s (fun nf16 nf16e nf16s => ?_)
        refine r_ex hX hP 2 (pc' := 114) (st' := [(0, n), (0, s0), (2, nf16)]) (lo' := [(0, (2, this)), (1, (0, what)), (2, (0, m)), (3, (0, q)), (4, (0, n)), (5, (0, s0))]) rfl ?_
        refine r_iastK hX hP rfl al_119 nf16s (by omega) (by omega) (by omega) (by omega) (fun h17 => ?_)
        refine r_ex hX hP 1 (pc' := 116) (st' := [(2, this)]) (lo' := [(0, (2, this)), (1, (0, what)), (2, (0, m)), (3, (0, q)), (4, (0, n)), (5, (0, s0))]) rfl ?_
        refine r_getKN hX hP rfl fl_X6_54_131 hS (x := tx) tx_e ?_
        refine r_ex hX hP 1 (pc' := 120) (st' := [(2, tx), (2, tx)]) (lo' := [(0, (2, this)), (1, (0, what)), (2, (0, m)), (3, (0, q)), (4, (0, n)), (5, (0, s0))]) rfl ?_
        refine r_getKI hX hP rfl fl_X6_176_136 tx_s (x := s0) s0_e ?_
        refine r_ex hX hP 2 (pc' := 125) (st' := [(0, (s0 + 1)), (2, tx)]) (lo' := [(0, (2, this)), (1, (0, what)), (2, (0, m)), (3, (0, q)), (4, (0, n)), (5, (0, s0))]) rfl ?_
        refine r_putIK hX hP rfl fp_X6_176_136 tx_s (by omega) (by omega) (fun h18 => ?_)
        exact r_retV hX hP rfl rfl (by omega) (by omega) ⟨rfl, ⟨_, (hw_up (hw_up (hw_up (hw_up (hw_up (hw_up (hw_up (hw_refl _ _) rfl) rfl) rfl) rfl) rfl) rfl) rfl).symm⟩, rfl, (s0 + 1), h18, (by omega), (ci_st (t := tx) (ka := kf10) (qa := qf14) (ix := s0) (w := what) (u := q) ci tx_s kf10e qf14e (by omega) (fun _ _ => rfl) (fun _ _ => rfl) (fun _ => rfl) (fun _ => rfl) (fun _ => rfl) (fun _ => rfl) (fun _ => rfl) (fun _ => rfl) (fun _ => rfl) (fun _ => rfl) (fun _ => rfl) (fun _ => rfl) (fun _ => rfl) (fun _ => rfl) (fun _ => rfl) (fun _ => rfl) (fun _ => rfl) (fun _ _ => rfl) (fun _ _ => rfl) (fun _ _ => rfl) (fun _ _ => rfl) (fun _ _ => rfl) (fun _ _ => rfl) (fun _ _ => rfl) (fun _ _ => rfl) (fun _ _ => rfl) (fun _ _ => rfl) (fun _ _ => rfl) (fun _ _ => rfl) (fun _ _ => rfl) (fun _ _ => rfl) (fun _ _ => rfl) (fun _ _ => rfl) (fun _ _ => rfl) (fun _ _ => rfl) (fun _ _ => rfl) (fun _ _ => rfl) (fun _ _ => rfl) (fun _ _ => rfl) (fun _ _ => rfl) (fun _ _ => rfl) (fun _ _ => rfl) (fun _ _ => rfl))⟩
      · skip
        refine r_ex hX hP 1 (pc' := 55) (st' := [(2, this), (0, s0), (2, if6)]) (lo' := [(0, (2, this)), (1, (0, what)), (2, (0, m)), (3, (0, q)), (4, (0, n)), (5, (0, s0))]) rfl ?_
        refine r_getR hX hP rfl fl_X6_22_131 hS (fun of19 of19e of19s => ?_)
        refine r_ex hX hP 1 (pc' := 59) (st' := [(2, this), (2, of19), (0, s0), (2, if6)]) (lo' := [(0, (2, this)), (1, (0, what)), (2, (0, m)), (3, (0, q)), (4, (0, n)), (5, (0, s0))]) rfl ?_
        refine r_getKI hX hP rfl fl_X6_41_131 hS (x := df7) df7e ?_
        refine r_ex hX hP 2 (pc' := 64) (st' := [(0, (df7 - 1)), (2, of19), (0, s0), (2, if6)]) (lo' := [(0, (2, this)), (1, (0, what)), (2, (0, m)), (3, (0, q)), (4, (0, n)), (5, (0, s0))]) rfl ?_
        refine r_iald hX hP rfl al_106 of19s (by omega) (by omega) (fun x20 x20e x20a x20b => ?_)
        refine r_ex hX hP 1 (pc' := 69) (st' := [(0, x20), (0, s0), (2, if6)]) (lo' := [(0, (2, this)), (1, (0, what)), (2, (0, m)), (3, (0, q)), (4, (0, n)), (5, (0, s0))]) rfl ?_
        refine r_iastK hX hP rfl al_123 if6s (by omega) (by omega) (by omega) (by omega) (fun h21 => ?_)
        refine r_ex hX hP 1 (pc' := 71) (st' := [(2, this)]) (lo' := [(0, (2, this)), (1, (0, what)), (2, (0, m)), (3, (0, q)), (4, (0, n)), (5, (0, s0))]) rfl ?_
        refine r_getKN hX hP rfl fl_X6_54_131 hS (x := tx) tx_e ?_
        refine r_getR hX hP rfl fl_X6_184_136 tx_s (fun kf22 kf22e kf22s => ?_)
        refine r_ex hX hP 2 (pc' := 80) (st' := [(0, what), (0, s0), (2, kf22)]) (lo' := [(0, (2, this)), (1, (0, what)), (2, (0, m)), (3, (0, q)), (4, (0, n)), (5, (0, s0))]) rfl ?_
        refine r_iastK hX hP rfl al_120 kf22s (by omega) (by omega) (by omega) (by omega) (fun h23 => ?_)
        refine r_ex hX hP 1 (pc' := 82) (st' := [(2, this)]) (lo' := [(0, (2, this)), (1, (0, what)), (2, (0, m)), (3, (0, q)), (4, (0, n)), (5, (0, s0))]) rfl ?_
        refine r_getKN hX hP rfl fl_X6_54_131 hS (x := tx) tx_e ?_
        refine r_getR hX hP rfl fl_X6_187_136 tx_s (fun mf24 mf24e mf24s => ?_)
        refine r_ex hX hP 2 (pc' := 91) (st' := [(0, m), (0, s0), (2, mf24)]) (lo' := [(0, (2, this)), (1, (0, what)), (2, (0, m)), (3, (0, q)), (4, (0, n)), (5, (0, s0))]) rfl ?_
        refine r_iastK hX hP rfl al_119 mf24s (by omega) (by omega) (by omega) (by omega) (fun h25 => ?_)
        refine r_ex hX hP 1 (pc' := 93) (st' := [(2, this)]) (lo' := [(0, (2, this)), (1, (0, what)), (2, (0, m)), (3, (0, q)), (4, (0, n)), (5, (0, s0))]) rfl ?_
        refine r_getKN hX hP rfl fl_X6_54_131 hS (x := tx) tx_e ?_
        refine r_getR hX hP rfl fl_X6_190_136 tx_s (fun qf26 qf26e qf26s => ?_)
        refine r_ex hX hP 2 (pc' := 102) (st' := [(0, q), (0, s0), (2, qf26)]) (lo' := [(0, (2, this)), (1, (0, what)), (2, (0, m)), (3, (0, q)), (4, (0, n)), (5, (0, s0))]) rfl ?_
        refine r_iastK hX hP rfl al_121 qf26s (by omega) (by omega) (by omega) (by omega) (fun h27 => ?_)
        refine r_ex hX hP 1 (pc' := 104) (st' := [(2, this)]) (lo' := [(0, (2, this)), (1, (0, what)), (2, (0, m)), (3, (0, q)), (4, (0, n)), (5, (0, s0))]) rfl ?_
        refine r_getKN hX hP rfl fl_X6_54_131 hS (x := tx) tx_e ?_
        refine r_getR hX hP rfl fl_X6_193_136 tx_s (fun nf28 nf28e nf28s => ?_)
        refine r_ex hX hP 2 (pc' := 114) (st' := [(0, n), (0, s0), (2, nf28)]) (lo' := [(0, (2, this)), (1, (0, what)), (2, (0, m)), (3, (0, q)), (4, (0, n)), (5, (0, s0))]) rfl ?_
        refine r_iastK hX hP rfl al_119 nf28s (by omega) (by omega) (by omega) (by omega) (fun h29 => ?_)
        refine r_ex hX hP 1 (pc' := 116) (st' := [(2, this)]) (lo' := [(0, (2, this)), (1, (0, what)), (2, (0, m)), (3, (0, q)), (4, (0, n)), (5, (0, s0))]) rfl ?_
        refine r_getKN hX hP rfl fl_X6_54_131 hS (x := tx) tx_e ?_
        refine r_ex hX hP 1 (pc' := 120) (st' := [(2, tx), (2, tx)]) (lo' := [(0, (2, this)), (1, (0, what)), (2, (0, m)), (3, (0, q)), (4, (0, n)), (5, (0, s0))]) rfl ?_
        refine r_getKI hX hP rfl fl_X6_176_136 tx_s (x := s0) s0_e ?_
        refine r_ex hX hP 2 (pc' := 125) (st' := [(0, (s0 + 1)), (2, tx)]) (lo' := [(0, (2, this)), (1, (0, what)), (2, (0, m)), (3, (0, q)), (4, (0, n)), (5, (0, s0))]) rfl ?_
        refine r_putIK hX hP rfl fp_X6_176_136 tx_s (by omega) (by omega) (fun h30 => ?_)
        exact r_retV hX hP rfl rfl (by omega) (by omega) ⟨rfl, ⟨_, (hw_up (hw_up (hw_up (hw_up (hw_up (hw_up (hw_up (hw_refl _ _) rfl) rfl) rfl) rfl) rfl) rfl) rfl).symm⟩, rfl, (s0 + 1), h30, (by omega), (ci_st (t := tx) (ka := kf22) (qa := qf26) (ix := s0) (w := what) (u := q) ci tx_s kf22e qf26e (by omega) (fun _ _ => rfl) (fun _ _ => rfl) (fun _ => rfl) (fun _ => rfl) (fun _ => rfl) (fun _ => rfl) (fun _ => rfl) (fun _ => rfl) (fun _ => rfl) (fun _ => rfl) (fun _ => rfl) (fun _ => rfl) (fun _ => rfl) (fun _ => rfl) (fun _ => rfl) (fun _ => rfl) (fun _ => rfl) (fun _ _ => rfl) (fun _ _ => rfl) (fun _ _ => rfl) (fun _ _ => rfl) (fun _ _ => rfl) (fun _ _ => rfl) (fun _ _ => rfl) (fun _ _ => rfl) (fun _ _ => rfl) (fun _ _ => rfl) (fun _ _ => rfl) (fun _ _ => rfl) (fun _ _ => rfl) (fun _ _ => rfl) (fun _ _ => rfl) (fun _ _ => rfl) (fun _ _ => rfl) (fun _ _ => rfl) (fun _ _ => rfl) (fun _ _ => rfl) (fun _ _ => rfl) (fun _ _ => rfl) (fun _ _ => rfl) (fun _ _ => rfl) (fun _ _ => rfl) (fun _ _ => rfl))⟩
    · skip
      exact r_retV hX hP rfl rfl (by omega) (by omega) ⟨rfl, ⟨_, (hw_refl _ _).symm⟩, rfl, s0, s0_e, (by omega), ci⟩
set_option maxRecDepth 100000 in
set_option maxHeartbeats 4000000 in
theorem c_X6_moveWorth (E : En) (S : Sg) (G : Gh) (this : Int) (hS : S this = 131) (tx : Int) (tx_e : tx = G 131 this 9) (tx_s : S tx = 136) (s0 : Int) (s0_e : s0 = G 136 tx 0) (td : Int) (td_e : td = G 131 this 10) (pre0 : s0 + 1 ≤ td) (ci : CI E S G) : Calls E mX6_moveWorth [(2, this)] S G 6 0 0 (fun r S' G' => S = S' ∧ (∃ G1, hw [(119, -1), (120, -1), (121, -1), (122, -1), (123, -1), (131, 1), (131, 2), (131, 5), (131, 6), (131, 7), (131, 8), (136, 0)] G G1 = G') ∧ r = none ∧ ∃ s1 : Int, s1 = G' 136 tx 0 ∧ s1 ≤ s0 + 1 ∧ CI E S G') := by
  refine calls_by [(0, (2, this))] rfl rfl (Nat.le_of_ble_eq_true rfl) (fun X hX => ?_)
  have hP := hPX6_moveWorth
  refine r_peekI hX (tl_136 0 rfl (by decide)) tx_s (fun s0_o s0_oe s0_oa s0_ob => ?_)
  obtain rfl : s0 = s0_o := s0_e.trans s0_oe.symm
  refine r_peekI hX (tl_131 10 rfl (by decide)) hS (fun td_o td_oe td_oa td_ob => ?_)
  obtain rfl : td = td_o := td_e.trans td_oe.symm
  refine r_ex hX hP 3 (pc' := 5) (st' := [(0, 1000), (0, 0), (2, this)]) (lo' := [(0, (2, this))]) rfl ?_
  refine r_peekI hX (tl_131 1 rfl (by decide)) hS (fun flp1 flp1e flp1a flp1b => ?_)
  refine r_callV gd hX hP rfl cv_X6_196_131 hS (d' := 2) (mc' := 0) (ms' := 0) (as' := [(0, 0), (0, 1000)]) (st := []) (by omega) (by omega) (by omega) rfl rfl (Nat.le_of_ble_eq_true rfl) (c_X6_number E S G this 0 1000 hS flp1 flp1e (by omega) (by omega) (by omega) (by omega)) ?_
  rintro _ _ _ ⟨rfl, ⟨G2, rfl⟩, z3, rfl, flh4, flh4e, (⟨rfl, f5⟩ | ⟨z3a, z3b, f6, f7, f8, f9⟩)⟩
  · skip
    refine r_peekI hX (tl_131 1 rfl (by decide)) hS (fun o10 o10e o10a o10b => ?_)
    obtain rfl : flh4 = o10 := flh4e.trans o10e.symm
    refine r_ex hX hP 2 (pc' := 10) (st' := [(2, this)]) (lo' := [(0, (2, this)), (1, (0, (-1)))]) rfl ?_
    refine r_ldcS hX hP rfl (k := 11) (by decide) rfl rfl ?_
    refine r_callV gd hX hP rfl cv_X6_202_131 hS (d' := 5) (mc' := 0) (ms' := 0) (as' := [(2, (sK E 11))]) (st := []) (by omega) (by omega) (by omega) rfl rfl (Nat.le_of_ble_eq_true rfl) (c_X6_keyword E S (hw [(131, 1), (131, 2), (131, 5), (131, 6), (131, 7), (131, 8)] G G2) this 11 hS (by decide) flh4 flh4e) ?_
    rintro _ _ _ ⟨rfl, ⟨G11, rfl⟩, rfl, flh12, flh12e, f13⟩
    refine r_peekI hX (tl_131 1 rfl (by decide)) hS (fun o14 o14e o14a o14b => ?_)
    obtain rfl : flh12 = o14 := flh12e.trans o14e.symm
    refine r_ex hX hP 3 (pc' := 19) (st' := [(0, 19), (0, 0), (2, this)]) (lo' := [(0, (2, this)), (1, (0, (-1)))]) rfl ?_
    refine r_callV gd hX hP rfl cv_X6_196_131 hS (d' := 2) (mc' := 0) (ms' := 0) (as' := [(0, 0), (0, 19)]) (st := []) (by omega) (by omega) (by omega) rfl rfl (Nat.le_of_ble_eq_true rfl) (c_X6_number E S (hw [(131, 1), (131, 2), (131, 5), (131, 6), (131, 7), (131, 8)] (hw [(131, 1), (131, 2), (131, 5), (131, 6), (131, 7), (131, 8)] G G2) G11) this 0 19 hS flh12 flh12e (by omega) (by omega) (by omega) (by omega)) ?_
    rintro _ _ _ ⟨rfl, ⟨G15, rfl⟩, z16, rfl, flh17, flh17e, (⟨rfl, f18⟩ | ⟨z16a, z16b, f19, f20, f21, f22⟩)⟩
    · skip
      refine r_peekI hX (tl_131 1 rfl (by decide)) hS (fun o23 o23e o23a o23b => ?_)
      obtain rfl : flh17 = o23 := flh17e.trans o23e.symm
      refine r_ex hX hP 3 (pc' := 26) (st' := [(0, 59), (2, this)]) (lo' := [(0, (2, this)), (1, (0, (-1))), (2, (0, (-1)))]) rfl ?_
      refine r_callV gd hX hP rfl cv_X6_116_131 hS (d' := 2) (mc' := 0) (ms' := 0) (as' := [(0, 59)]) (st := []) (by omega) (by omega) (by omega) rfl rfl (Nat.le_of_ble_eq_true rfl) (c_X6_sign E S (hw [(131, 1), (131, 2), (131, 5), (131, 6), (131, 7), (131, 8)] (hw [(131, 1), (131, 2), (131, 5), (131, 6), (131, 7), (131, 8)] (hw [(131, 1), (131, 2), (131, 5), (131, 6), (131, 7), (131, 8)] G G2) G11) G15) this 59 hS flh17 flh17e (by omega) (by omega)) ?_
      rintro _ _ _ ⟨rfl, ⟨G24, rfl⟩, z25, rfl, flh26, flh26e, z25a, z25b, f27⟩
      refine r_peekI hX (tl_131 1 rfl (by decide)) hS (fun o28 o28e o28a o28b => ?_)
      obtain rfl : flh26 = o28 := flh26e.trans o28e.symm
      refine r_ex hX hP 6 (pc' := 35) (st' := [(0, 0), (0, (-1)), (0, (-1)), (0, 4), (2, this)]) (lo' := [(0, (2, this)), (1, (0, (-1))), (2, (0, (-1)))]) rfl ?_
      have ci29 : CI E S (hw [(131, 1), (131, 2), (131, 5), (131, 6), (131, 7), (131, 8)] (hw [(131, 1), (131, 2), (131, 5), (131, 6), (131, 7), (131, 8)] (hw [(131, 1), (131, 2), (131, 5), (131, 6), (131, 7), (131, 8)] (hw [(131, 1), (131, 2), (131, 5), (131, 6), (131, 7), (131, 8)] G G2) G11) G15) G24) := (ci_hw (ci_hw (ci_hw (ci_hw ci rfl) rfl) rfl) rfl)
      refine r_callV gd hX hP rfl cv_X6_206_131 hS (d' := 1) (mc' := 0) (ms' := 0) (as' := [(0, 4), (0, (-1)), (0, (-1)), (0, 0)]) (st := []) (by omega) (by omega) (by omega) rfl rfl (Nat.le_of_ble_eq_true rfl) (c_X6_store E S (hw [(131, 1), (131, 2), (131, 5), (131, 6), (131, 7), (131, 8)] (hw [(131, 1), (131, 2), (131, 5), (131, 6), (131, 7), (131, 8)] (hw [(131, 1), (131, 2), (131, 5), (131, 6), (131, 7), (131, 8)] (hw [(131, 1), (131, 2), (131, 5), (131, 6), (131, 7), (131, 8)] G G2) G11) G15) G24) this 4 (-1) (-1) 0 hS tx tx_e tx_s s0 s0_e flh26 flh26e (by omega) (by omega) (by omega) (by omega) (by omega) (by omega) (by omega) (by omega) (by omega) ci29) ?_
      rintro _ _ _ ⟨rfl, ⟨G30, rfl⟩, rfl, sih31, sih31e, f32, ci33⟩
      refine r_peekI hX (tl_136 0 rfl (by decide)) tx_s (fun o34 o34e o34a o34b => ?_)
      obtain rfl : sih31 = o34 := sih31e.trans o34e.symm
      exact r_retV hX hP rfl rfl (by omega) (by omega) ⟨rfl, ⟨_, (hw_sub (hw_sub (hw_sub (hw_sub (hw_sub (hw_refl _ _) rfl) rfl) rfl) rfl) rfl).symm⟩, rfl, sih31, sih31e, (by omega), ci33⟩
    · skip
      refine r_peekI hX (tl_131 1 rfl (by decide)) hS (fun o35 o35e o35a o35b => ?_)
      obtain rfl : flh17 = o35 := flh17e.trans o35e.symm
      refine r_ex hX hP 3 (pc' := 26) (st' := [(0, 59), (2, this)]) (lo' := [(0, (2, this)), (1, (0, (-1))), (2, (0, z16))]) rfl ?_
      refine r_callV gd hX hP rfl cv_X6_116_131 hS (d' := 2) (mc' := 0) (ms' := 0) (as' := [(0, 59)]) (st := []) (by omega) (by omega) (by omega) rfl rfl (Nat.le_of_ble_eq_true rfl) (c_X6_sign E S (hw [(131, 1), (131, 2), (131, 5), (131, 6), (131, 7), (131, 8)] (hw [(131, 1), (131, 2), (131, 5), (131, 6), (131, 7), (131, 8)] (hw [(131, 1), (131, 2), (131, 5), (131, 6), (131, 7), (131, 8)] G G2) G11) G15) this 59 hS flh17 flh17e (by omega) (by omega)) ?_
      rintro _ _ _ ⟨rfl, ⟨G36, rfl⟩, z37, rfl, flh38, flh38e, z37a, z37b, f39⟩
      refine r_peekI hX (tl_131 1 rfl (by decide)) hS (fun o40 o40e o40a o40b => ?_)
      obtain rfl : flh38 = o40 := flh38e.trans o40e.symm
      refine r_ex hX hP 6 (pc' := 35) (st' := [(0, 0), (0, z16), (0, (-1)), (0, 4), (2, this)]) (lo' := [(0, (2, this)), (1, (0, (-1))), (2, (0, z16))]) rfl ?_
      have ci41 : CI E S (hw [(131, 1), (131, 2), (131, 5), (131, 6), (131, 7), (131, 8)] (hw [(131, 1), (131, 2), (131, 5), (131, 6), (131, 7), (131, 8)] (hw [(131, 1), (131, 2), (131, 5), (131, 6), (131, 7), (131, 8)] (hw [(131, 1), (131, 2), (131, 5), (131, 6), (131, 7), (131, 8)] G G2) G11) G15) G36) := (ci_hw (ci_hw (ci_hw (ci_hw ci rfl) rfl) rfl) rfl)
      refine r_callV gd hX hP rfl cv_X6_206_131 hS (d' := 1) (mc' := 0) (ms' := 0) (as' := [(0, 4), (0, (-1)), (0, z16), (0, 0)]) (st := []) (by omega) (by omega) (by omega) rfl rfl (Nat.le_of_ble_eq_true rfl) (c_X6_store E S (hw [(131, 1), (131, 2), (131, 5), (131, 6), (131, 7), (131, 8)] (hw [(131, 1), (131, 2), (131, 5), (131, 6), (131, 7), (131, 8)] (hw [(131, 1), (131, 2), (131, 5), (131, 6), (131, 7), (131, 8)] (hw [(131, 1), (131, 2), (131, 5), (131, 6), (131, 7), (131, 8)] G G2) G11) G15) G36) this 4 (-1) z16 0 hS tx tx_e tx_s s0 s0_e flh38 flh38e (by omega) (by omega) (by omega) (by omega) (by omega) (by omega) (by omega) (by omega) (by omega) ci41) ?_
      rintro _ _ _ ⟨rfl, ⟨G42, rfl⟩, rfl, sih43, sih43e, f44, ci45⟩
      refine r_peekI hX (tl_136 0 rfl (by decide)) tx_s (fun o46 o46e o46a o46b => ?_)
      obtain rfl : sih43 = o46 := sih43e.trans o46e.symm
      exact r_retV hX hP rfl rfl (by omega) (by omega) ⟨rfl, ⟨_, (hw_sub (hw_sub (hw_sub (hw_sub (hw_sub (hw_refl _ _) rfl) rfl) rfl) rfl) rfl).symm⟩, rfl, sih43, sih43e, (by omega), ci45⟩
  · skip
    refine r_peekI hX (tl_131 1 rfl (by decide)) hS (fun o47 o47e o47a o47b => ?_)
    obtain rfl : flh4 = o47 := flh4e.trans o47e.symm
    refine r_ex hX hP 2 (pc' := 10) (st' := [(2, this)]) (lo' := [(0, (2, this)), (1, (0, z3))]) rfl ?_
    refine r_ldcS hX hP rfl (k := 11) (by decide) rfl rfl ?_
    refine r_callV gd hX hP rfl cv_X6_202_131 hS (d' := 5) (mc' := 0) (ms' := 0) (as' := [(2, (sK E 11))]) (st := []) (by omega) (by omega) (by omega) rfl rfl (Nat.le_of_ble_eq_true rfl) (c_X6_keyword E S (hw [(131, 1), (131, 2), (131, 5), (131, 6), (131, 7), (131, 8)] G G2) this 11 hS (by decide) flh4 flh4e) ?_
    rintro _ _ _ ⟨rfl, ⟨G48, rfl⟩, rfl, flh49, flh49e, f50⟩
    refine r_peekI hX (tl_131 1 rfl (by decide)) hS (fun o51 o51e o51a o51b => ?_)
    obtain rfl : flh49 = o51 := flh49e.trans o51e.symm
    refine r_ex hX hP 3 (pc' := 19) (st' := [(0, 19), (0, 0), (2, this)]) (lo' := [(0, (2, this)), (1, (0, z3))]) rfl ?_
    refine r_callV gd hX hP rfl cv_X6_196_131 hS (d' := 2) (mc' := 0) (ms' := 0) (as' := [(0, 0), (0, 19)]) (st := []) (by omega) (by omega) (by omega) rfl rfl (Nat.le_of_ble_eq_true rfl) (c_X6_number E S (hw [(131, 1), (131, 2), (131, 5), (131, 6), (131, 7), (131, 8)] (hw [(131, 1), (131, 2), (131, 5), (131, 6), (131, 7), (131, 8)] G G2) G48) this 0 19 hS flh49 flh49e (by omega) (by omega) (by omega) (by omega)) ?_
    rintro _ _ _ ⟨rfl, ⟨G52, rfl⟩, z53, rfl, flh54, flh54e, (⟨rfl, f55⟩ | ⟨z53a, z53b, f56, f57, f58, f59⟩)⟩
    · skip
      refine r_peekI hX (tl_131 1 rfl (by decide)) hS (fun o60 o60e o60a o60b => ?_)
      obtain rfl : flh54 = o60 := flh54e.trans o60e.symm
      refine r_ex hX hP 3 (pc' := 26) (st' := [(0, 59), (2, this)]) (lo' := [(0, (2, this)), (1, (0, z3)), (2, (0, (-1)))]) rfl ?_
      refine r_callV gd hX hP rfl cv_X6_116_131 hS (d' := 2) (mc' := 0) (ms' := 0) (as' := [(0, 59)]) (st := []) (by omega) (by omega) (by omega) rfl rfl (Nat.le_of_ble_eq_true rfl) (c_X6_sign E S (hw [(131, 1), (131, 2), (131, 5), (131, 6), (131, 7), (131, 8)] (hw [(131, 1), (131, 2), (131, 5), (131, 6), (131, 7), (131, 8)] (hw [(131, 1), (131, 2), (131, 5), (131, 6), (131, 7), (131, 8)] G G2) G48) G52) this 59 hS flh54 flh54e (by omega) (by omega)) ?_
      rintro _ _ _ ⟨rfl, ⟨G61, rfl⟩, z62, rfl, flh63, flh63e, z62a, z62b, f64⟩
      refine r_peekI hX (tl_131 1 rfl (by decide)) hS (fun o65 o65e o65a o65b => ?_)
      obtain rfl : flh63 = o65 := flh63e.trans o65e.symm
      refine r_ex hX hP 6 (pc' := 35) (st' := [(0, 0), (0, (-1)), (0, z3), (0, 4), (2, this)]) (lo' := [(0, (2, this)), (1, (0, z3)), (2, (0, (-1)))]) rfl ?_
      have ci66 : CI E S (hw [(131, 1), (131, 2), (131, 5), (131, 6), (131, 7), (131, 8)] (hw [(131, 1), (131, 2), (131, 5), (131, 6), (131, 7), (131, 8)] (hw [(131, 1), (131, 2), (131, 5), (131, 6), (131, 7), (131, 8)] (hw [(131, 1), (131, 2), (131, 5), (131, 6), (131, 7), (131, 8)] G G2) G48) G52) G61) := (ci_hw (ci_hw (ci_hw (ci_hw ci rfl) rfl) rfl) rfl)
      refine r_callV gd hX hP rfl cv_X6_206_131 hS (d' := 1) (mc' := 0) (ms' := 0) (as' := [(0, 4), (0, z3), (0, (-1)), (0, 0)]) (st := []) (by omega) (by omega) (by omega) rfl rfl (Nat.le_of_ble_eq_true rfl) (c_X6_store E S (hw [(131, 1), (131, 2), (131, 5), (131, 6), (131, 7), (131, 8)] (hw [(131, 1), (131, 2), (131, 5), (131, 6), (131, 7), (131, 8)] (hw [(131, 1), (131, 2), (131, 5), (131, 6), (131, 7), (131, 8)] (hw [(131, 1), (131, 2), (131, 5), (131, 6), (131, 7), (131, 8)] G G2) G48) G52) G61) this 4 z3 (-1) 0 hS tx tx_e tx_s s0 s0_e flh63 flh63e (by omega) (by omega) (by omega) (by omega) (by omega) (by omega) (by omega) (by omega) (by omega) ci66) ?_
      rintro _ _ _ ⟨rfl, ⟨G67, rfl⟩, rfl, sih68, sih68e, f69, ci70⟩
      refine r_peekI hX (tl_136 0 rfl (by decide)) tx_s (fun o71 o71e o71a o71b => ?_)
      obtain rfl : sih68 = o71 := sih68e.trans o71e.symm
      exact r_retV hX hP rfl rfl (by omega) (by omega) ⟨rfl, ⟨_, (hw_sub (hw_sub (hw_sub (hw_sub (hw_sub (hw_refl _ _) rfl) rfl) rfl) rfl) rfl).symm⟩, rfl, sih68, sih68e, (by omega), ci70⟩
    · skip
      refine r_peekI hX (tl_131 1 rfl (by decide)) hS (fun o72 o72e o72a o72b => ?_)
      obtain rfl : flh54 = o72 := flh54e.trans o72e.symm
      refine r_ex hX hP 3 (pc' := 26) (st' := [(0, 59), (2, this)]) (lo' := [(0, (2, this)), (1, (0, z3)), (2, (0, z53))]) rfl ?_
      refine r_callV gd hX hP rfl cv_X6_116_131 hS (d' := 2) (mc' := 0) (ms' := 0) (as' := [(0, 59)]) (st := []) (by omega) (by omega) (by omega) rfl rfl (Nat.le_of_ble_eq_true rfl) (c_X6_sign E S (hw [(131, 1), (131, 2), (131, 5), (131, 6), (131, 7), (131, 8)] (hw [(131, 1), (131, 2), (131, 5), (131, 6), (131, 7), (131, 8)] (hw [(131, 1), (131, 2), (131, 5), (131, 6), (131, 7), (131, 8)] G G2) G48) G52) this 59 hS flh54 flh54e (by omega) (by omega)) ?_
      rintro _ _ _ ⟨rfl, ⟨G73, rfl⟩, z74, rfl, flh75, flh75e, z74a, z74b, f76⟩
      refine r_peekI hX (tl_131 1 rfl (by decide)) hS (fun o77 o77e o77a o77b => ?_)
      obtain rfl : flh75 = o77 := flh75e.trans o77e.symm
      refine r_ex hX hP 6 (pc' := 35) (st' := [(0, 0), (0, z53), (0, z3), (0, 4), (2, this)]) (lo' := [(0, (2, this)), (1, (0, z3)), (2, (0, z53))]) rfl ?_
      have ci78 : CI E S (hw [(131, 1), (131, 2), (131, 5), (131, 6), (131, 7), (131, 8)] (hw [(131, 1), (131, 2), (131, 5), (131, 6), (131, 7), (131, 8)] (hw [(131, 1), (131, 2), (131, 5), (131, 6), (131, 7), (131, 8)] (hw [(131, 1), (131, 2), (131, 5), (131, 6), (131, 7), (131, 8)] G G2) G48) G52) G73) := (ci_hw (ci_hw (ci_hw (ci_hw ci rfl) rfl) rfl) rfl)
      refine r_callV gd hX hP rfl cv_X6_206_131 hS (d' := 1) (mc' := 0) (ms' := 0) (as' := [(0, 4), (0, z3), (0, z53), (0, 0)]) (st := []) (by omega) (by omega) (by omega) rfl rfl (Nat.le_of_ble_eq_true rfl) (c_X6_store E S (hw [(131, 1), (131, 2), (131, 5), (131, 6), (131, 7), (131, 8)] (hw [(131, 1), (131, 2), (131, 5), (131, 6), (131, 7), (131, 8)] (hw [(131, 1), (131, 2), (131, 5), (131, 6), (131, 7), (131, 8)] (hw [(131, 1), (131, 2), (131, 5), (131, 6), (131, 7), (131, 8)] G G2) G48) G52) G73) this 4 z3 z53 0 hS tx tx_e tx_s s0 s0_e flh75 flh75e (by omega) (by omega) (by omega) (by omega) (by omega) (by omega) (by omega) (by omega) (by omega) ci78) ?_
      rintro _ _ _ ⟨rfl, ⟨G79, rfl⟩, rfl, sih80, sih80e, f81, ci82⟩
      refine r_peekI hX (tl_136 0 rfl (by decide)) tx_s (fun o83 o83e o83a o83b => ?_)
      obtain rfl : sih80 = o83 := sih80e.trans o83e.symm
      exact r_retV hX hP rfl rfl (by omega) (by omega) ⟨rfl, ⟨_, (hw_sub (hw_sub (hw_sub (hw_sub (hw_sub (hw_refl _ _) rfl) rfl) rfl) rfl) rfl).symm⟩, rfl, sih80, sih80e, (by omega), ci82⟩
set_option maxRecDepth 100000 in
set_option maxHeartbeats 4000000 in
theorem c_X6_ratio (E : En) (S : Sg) (G : Gh) (this : Int) (what : Int) (hS : S this = 131) (tx : Int) (tx_e : tx = G 131 this 9) (tx_s : S tx = 136) (s0 : Int) (s0_e : s0 = G 136 tx 0) (td : Int) (td_e : td = G 131 this 10) (what_a : 0 ≤ what) (what_b : what ≤ 3) (pre0 : s0 + 1 ≤ td) (ci : CI E S G) : Calls E mX6_ratio [(2, this), (0, what)] S G 6 0 0 (fun r S' G' => S = S' ∧ (∃ G1, hw [(119, -1), (120, -1), (121, -1), (122, -1), (123, -1), (131, 1), (131, 2), (131, 5), (131, 6), (131, 7), (131, 8), (131, 13), (131, 14), (136, 0)] G G1 = G') ∧ r = none ∧ ∃ s1 : Int, s1 = G' 136 tx 0 ∧ s1 ≤ s0 + 1 ∧ CI E S G') := by
  refine calls_by [(0, (2, this)), (1, (0, what))] rfl rfl (Nat.le_of_ble_eq_true rfl) (fun X hX => ?_)
  have hP := hPX6_ratio
  refine r_peekI hX (tl_136 0 rfl (by decide)) tx_s (fun s0_o s0_oe s0_oa s0_ob => ?_)
  obtain rfl : s0 = s0_o := s0_e.trans s0_oe.symm
  refine r_peekI hX (tl_131 10 rfl (by decide)) hS (fun td_o td_oe td_oa td_ob => ?_)
  obtain rfl : td = td_o := td_e.trans td_oe.symm
  have j60 : ∀ (l2_j60 l3_j60 l4_j60 flaw_j60 : Int) (Gj60 : Gh), flaw_j60 = (hw [(131, 1), (131, 2), (131, 5), (131, 6), (131, 7), (131, 8)] G Gj60) 131 this 1 → 0 ≤ l2_j60 → l2_j60 ≤ 1 → (-2147483648) ≤ l3_j60 → l3_j60 ≤ 2147483647 → (-1) ≤ l4_j60 → l4_j60 ≤ 19 → (-2147483648) ≤ flaw_j60 → flaw_j60 ≤ 2147483647 → (flaw_j60 ≠ 0 ∨ what ≠ 0 ∨ 0 ≤ l4_j60) → X 0 0 60 [] [(0, (2, this)), (1, (0, what)), (2, (0, l2_j60)), (3, (0, l3_j60)), (4, (0, l4_j60))] S (hw [(131, 1), (131, 2), (131, 5), (131, 6), (131, 7), (131, 8)] G Gj60) := by
    intro l2_j60 l3_j60 l4_j60 flaw_j60 Gj60 flaw_j60_e yj60_0 yj60_1 yj60_2 yj60_3 yj60_4 yj60_5 yj60_6 yj60_7 yj60_8
    have j117 : ∀ (l6_j117 size_j117 : Int) (Gj117 : Gh), size_j117 = (hw [(119, -1), (120, -1), (121, -1), (122, -1), (123, -1), (131, 1), (131, 2), (131, 5), (131, 6), (131, 7), (131, 8), (136, 0)] (hw [(131, 1), (131, 2), (131, 5), (131, 6), (131, 7), (131, 8)] G Gj60) Gj117) 136 tx 0 → 0 ≤ l6_j117 → l6_j117 ≤ 1 → 0 ≤ size_j117 → size_j117 ≤ 30 → size_j117 ≤ s0 + 1 → CI E S (hw [(119, -1), (120, -1), (121, -1), (122, -1), (123, -1), (131, 1), (131, 2), (131, 5), (131, 6), (131, 7), (131, 8), (136, 0)] (hw [(131, 1), (131, 2), (131, 5), (131, 6), (131, 7), (131, 8)] G Gj60) Gj117) → X 0 0 117 [] [(0, (2, this)), (1, (0, what)), (6, (0, l6_j117))] S (hw [(119, -1), (120, -1), (121, -1), (122, -1), (123, -1), (131, 1), (131, 2), (131, 5), (131, 6), (131, 7), (131, 8), (136, 0)] (hw [(131, 1), (131, 2), (131, 5), (131, 6), (131, 7), (131, 8)] G Gj60) Gj117) := by
      intro l6_j117 size_j117 Gj117 size_j117_e yj117_0 yj117_1 yj117_2 yj117_3 yj117_4 yj117_5
      refine r_ex hX hP 2 (pc' := 119) (st' := [(2, this), (2, this)]) (lo' := [(0, (2, this)), (1, (0, what)), (6, (0, l6_j117))]) rfl ?_
      refine r_getI hX hP rfl fl_X6_77_131 hS (fun tf1 tf1e tf1a tf1b => ?_)
      refine r_if_ne hX hP rfl (tgt := 135) rfl (by omega) (by omega) (fun c2 => ?_) (fun c2 => ?_)
      · skip
        refine r_ex hX hP 2 (pc' := 140) (st' := [(0, 1), (2, this)]) (lo' := [(0, (2, this)), (1, (0, what)), (6, (0, l6_j117))]) rfl ?_
        refine r_putIK hX hP rfl fp_X6_77_131 hS (by omega) (by omega) (fun h3 => ?_)
        refine r_ex hX hP 2 (pc' := 145) (st' := [(2, this), (2, this)]) (lo' := [(0, (2, this)), (1, (0, what)), (6, (0, l6_j117))]) rfl ?_
        refine r_getI hX hP rfl fl_X6_73_131 hS (fun tf4 tf4e tf4a tf4b => ?_)
        refine r_if_ne hX hP rfl (tgt := 161) rfl (by omega) (by omega) (fun c5 => ?_) (fun c5 => ?_)
        · skip
          refine r_ex hX hP 2 (pc' := 166) (st' := [(0, 1), (2, this)]) (lo' := [(0, (2, this)), (1, (0, what)), (6, (0, l6_j117))]) rfl ?_
          refine r_putIK hX hP rfl fp_X6_73_131 hS (by omega) (by omega) (fun h6 => ?_)
          have ci7 : CI E S (up (up (hw [(119, -1), (120, -1), (121, -1), (122, -1), (123, -1), (131, 1), (131, 2), (131, 5), (131, 6), (131, 7), (131, 8), (136, 0)] (hw [(131, 1), (131, 2), (131, 5), (131, 6), (131, 7), (131, 8)] G Gj60) Gj117) 131 this 14 1) 131 this 13 1) := (ci_up (ci_up yj117_5 rfl) rfl)
          exact r_retV hX hP rfl rfl (by omega) (by omega) ⟨rfl, ⟨_, (hw_up (hw_up (hw_sub (hw_sub (hw_refl _ _) rfl) rfl) rfl) rfl).symm⟩, rfl, size_j117, size_j117_e, (by omega), ci7⟩
        · skip
          refine r_ex hX hP 2 (pc' := 153) (st' := [(0, 1), (0, what), (2, this)]) (lo' := [(0, (2, this)), (1, (0, what)), (6, (0, l6_j117))]) rfl ?_
          refine r_ic_ne hX hP rfl (tgt := 165) rfl (by omega) (by omega) (by omega) (by omega) (fun c8 => ?_) (fun c8 => ?_)
          · skip
            refine r_ex hX hP 1 (pc' := 166) (st' := [(0, 0), (2, this)]) (lo' := [(0, (2, this)), (1, (0, what)), (6, (0, l6_j117))]) rfl ?_
            refine r_putIK hX hP rfl fp_X6_73_131 hS (by omega) (by omega) (fun h9 => ?_)
            have ci10 : CI E S (up (up (hw [(119, -1), (120, -1), (121, -1), (122, -1), (123, -1), (131, 1), (131, 2), (131, 5), (131, 6), (131, 7), (131, 8), (136, 0)] (hw [(131, 1), (131, 2), (131, 5), (131, 6), (131, 7), (131, 8)] G Gj60) Gj117) 131 this 14 1) 131 this 13 0) := (ci_up (ci_up yj117_5 rfl) rfl)
            exact r_retV hX hP rfl rfl (by omega) (by omega) ⟨rfl, ⟨_, (hw_up (hw_up (hw_sub (hw_sub (hw_refl _ _) rfl) rfl) rfl) rfl).symm⟩, rfl, size_j117, size_j117_e, (by omega), ci10⟩
          · skip
            refine r_ex hX hP 1 (pc' := 158) (st' := [(0, l6_j117), (2, this)]) (lo' := [(0, (2, this)), (1, (0, what)), (6, (0, l6_j117))]) rfl ?_
            refine r_if_ne hX hP rfl (tgt := 165) rfl (by omega) (by omega) (fun c11 => ?_) (fun c11 => ?_)
            · skip
              refine r_ex hX hP 1 (pc' := 166) (st' := [(0, 0), (2, this)]) (lo' := [(0, (2, this)), (1, (0, what)), (6, (0, l6_j117))]) rfl ?_
              refine r_putIK hX hP rfl fp_X6_73_131 hS (by omega) (by omega) (fun h12 => ?_)
              have ci13 : CI E S (up (up (hw [(119, -1), (120, -1), (121, -1), (122, -1), (123, -1), (131, 1), (131, 2), (131, 5), (131, 6), (131, 7), (131, 8), (136, 0)] (hw [(131, 1), (131, 2), (131, 5), (131, 6), (131, 7), (131, 8)] G Gj60) Gj117) 131 this 14 1) 131 this 13 0) := (ci_up (ci_up yj117_5 rfl) rfl)
              exact r_retV hX hP rfl rfl (by omega) (by omega) ⟨rfl, ⟨_, (hw_up (hw_up (hw_sub (hw_sub (hw_refl _ _) rfl) rfl) rfl) rfl).symm⟩, rfl, size_j117, size_j117_e, (by omega), ci13⟩
            · skip
              refine r_ex hX hP 2 (pc' := 166) (st' := [(0, 1), (2, this)]) (lo' := [(0, (2, this)), (1, (0, what)), (6, (0, l6_j117))]) rfl ?_
              refine r_putIK hX hP rfl fp_X6_73_131 hS (by omega) (by omega) (fun h14 => ?_)
              have ci15 : CI E S (up (up (hw [(119, -1), (120, -1), (121, -1), (122, -1), (123, -1), (131, 1), (131, 2), (131, 5), (131, 6), (131, 7), (131, 8), (136, 0)] (hw [(131, 1), (131, 2), (131, 5), (131, 6), (131, 7), (131, 8)] G Gj60) Gj117) 131 this 14 1) 131 this 13 1) := (ci_up (ci_up yj117_5 rfl) rfl)
              exact r_retV hX hP rfl rfl (by omega) (by omega) ⟨rfl, ⟨_, (hw_up (hw_up (hw_sub (hw_sub (hw_refl _ _) rfl) rfl) rfl) rfl).symm⟩, rfl, size_j117, size_j117_e, (by omega), ci15⟩
      · skip
        refine r_ex hX hP 2 (pc' := 127) (st' := [(0, 1), (0, what), (2, this)]) (lo' := [(0, (2, this)), (1, (0, what)), (6, (0, l6_j117))]) rfl ?_
        refine r_ic_ne hX hP rfl (tgt := 139) rfl (by omega) (by omega) (by omega) (by omega) (fun c16 => ?_) (fun c16 => ?_)
        · skip
          refine r_ex hX hP 1 (pc' := 140) (st' := [(0, 0), (2, this)]) (lo' := [(0, (2, this)), (1, (0, what)), (6, (0, l6_j117))]) rfl ?_
          refine r_putIK hX hP rfl fp_X6_77_131 hS (by omega) (by omega) (fun h17 => ?_)
          refine r_ex hX hP 2 (pc' := 145) (st' := [(2, this), (2, this)]) (lo' := [(0, (2, this)), (1, (0, what)), (6, (0, l6_j117))]) rfl ?_
          refine r_getI hX hP rfl fl_X6_73_131 hS (fun tf18 tf18e tf18a tf18b => ?_)
          refine r_if_ne hX hP rfl (tgt := 161) rfl (by omega) (by omega) (fun c19 => ?_) (fun c19 => ?_)
          · skip
            refine r_ex hX hP 2 (pc' := 166) (st' := [(0, 1), (2, this)]) (lo' := [(0, (2, this)), (1, (0, what)), (6, (0, l6_j117))]) rfl ?_
            refine r_putIK hX hP rfl fp_X6_73_131 hS (by omega) (by omega) (fun h20 => ?_)
            have ci21 : CI E S (up (up (hw [(119, -1), (120, -1), (121, -1), (122, -1), (123, -1), (131, 1), (131, 2), (131, 5), (131, 6), (131, 7), (131, 8), (136, 0)] (hw [(131, 1), (131, 2), (131, 5), (131, 6), (131, 7), (131, 8)] G Gj60) Gj117) 131 this 14 0) 131 this 13 1) := (ci_up (ci_up yj117_5 rfl) rfl)
            exact r_retV hX hP rfl rfl (by omega) (by omega) ⟨rfl, ⟨_, (hw_up (hw_up (hw_sub (hw_sub (hw_refl _ _) rfl) rfl) rfl) rfl).symm⟩, rfl, size_j117, size_j117_e, (by omega), ci21⟩
          · skip
            refine r_ex hX hP 2 (pc' := 153) (st' := [(0, 1), (0, what), (2, this)]) (lo' := [(0, (2, this)), (1, (0, what)), (6, (0, l6_j117))]) rfl ?_
            refine r_ic_ne hX hP rfl (tgt := 165) rfl (by omega) (by omega) (by omega) (by omega) (fun c22 => ?_) (fun c22 => ?_)
            · skip
              refine r_ex hX hP 1 (pc' := 166) (st' := [(0, 0), (2, this)]) (lo' := [(0, (2, this)), (1, (0, what)), (6, (0, l6_j117))]) rfl ?_
              refine r_putIK hX hP rfl fp_X6_73_131 hS (by omega) (by omega) (fun h23 => ?_)
              have ci24 : CI E S (up (up (hw [(119, -1), (120, -1), (121, -1), (122, -1), (123, -1), (131, 1), (131, 2), (131, 5), (131, 6), (131, 7), (131, 8), (136, 0)] (hw [(131, 1), (131, 2), (131, 5), (131, 6), (131, 7), (131, 8)] G Gj60) Gj117) 131 this 14 0) 131 this 13 0) := (ci_up (ci_up yj117_5 rfl) rfl)
              exact r_retV hX hP rfl rfl (by omega) (by omega) ⟨rfl, ⟨_, (hw_up (hw_up (hw_sub (hw_sub (hw_refl _ _) rfl) rfl) rfl) rfl).symm⟩, rfl, size_j117, size_j117_e, (by omega), ci24⟩
            · skip
              refine r_ex hX hP 1 (pc' := 158) (st' := [(0, l6_j117), (2, this)]) (lo' := [(0, (2, this)), (1, (0, what)), (6, (0, l6_j117))]) rfl ?_
              refine r_if_ne hX hP rfl (tgt := 165) rfl (by omega) (by omega) (fun c25 => ?_) (fun c25 => ?_)
              · skip
                refine r_ex hX hP 1 (pc' := 166) (st' := [(0, 0), (2, this)]) (lo' := [(0, (2, this)), (1, (0, what)), (6, (0, l6_j117))]) rfl ?_
                refine r_putIK hX hP rfl fp_X6_73_131 hS (by omega) (by omega) (fun h26 => ?_)
                have ci27 : CI E S (up (up (hw [(119, -1), (120, -1), (121, -1), (122, -1), (123, -1), (131, 1), (131, 2), (131, 5), (131, 6), (131, 7), (131, 8), (136, 0)] (hw [(131, 1), (131, 2), (131, 5), (131, 6), (131, 7), (131, 8)] G Gj60) Gj117) 131 this 14 0) 131 this 13 0) := (ci_up (ci_up yj117_5 rfl) rfl)
                exact r_retV hX hP rfl rfl (by omega) (by omega) ⟨rfl, ⟨_, (hw_up (hw_up (hw_sub (hw_sub (hw_refl _ _) rfl) rfl) rfl) rfl).symm⟩, rfl, size_j117, size_j117_e, (by omega), ci27⟩
              · skip
                refine r_ex hX hP 2 (pc' := 166) (st' := [(0, 1), (2, this)]) (lo' := [(0, (2, this)), (1, (0, what)), (6, (0, l6_j117))]) rfl ?_
                refine r_putIK hX hP rfl fp_X6_73_131 hS (by omega) (by omega) (fun h28 => ?_)
                have ci29 : CI E S (up (up (hw [(119, -1), (120, -1), (121, -1), (122, -1), (123, -1), (131, 1), (131, 2), (131, 5), (131, 6), (131, 7), (131, 8), (136, 0)] (hw [(131, 1), (131, 2), (131, 5), (131, 6), (131, 7), (131, 8)] G Gj60) Gj117) 131 this 14 0) 131 this 13 1) := (ci_up (ci_up yj117_5 rfl) rfl)
                exact r_retV hX hP rfl rfl (by omega) (by omega) ⟨rfl, ⟨_, (hw_up (hw_up (hw_sub (hw_sub (hw_refl _ _) rfl) rfl) rfl) rfl).symm⟩, rfl, size_j117, size_j117_e, (by omega), ci29⟩
        · skip
          refine r_ex hX hP 1 (pc' := 132) (st' := [(0, l6_j117), (2, this)]) (lo' := [(0, (2, this)), (1, (0, what)), (6, (0, l6_j117))]) rfl ?_
          refine r_if_eq hX hP rfl (tgt := 139) rfl (by omega) (by omega) (fun c30 => ?_) (fun c30 => ?_)
          · skip
            refine r_ex hX hP 1 (pc' := 140) (st' := [(0, 0), (2, this)]) (lo' := [(0, (2, this)), (1, (0, what)), (6, (0, l6_j117))]) rfl ?_
            refine r_putIK hX hP rfl fp_X6_77_131 hS (by omega) (by omega) (fun h31 => ?_)
            refine r_ex hX hP 2 (pc' := 145) (st' := [(2, this), (2, this)]) (lo' := [(0, (2, this)), (1, (0, what)), (6, (0, l6_j117))]) rfl ?_
            refine r_getI hX hP rfl fl_X6_73_131 hS (fun tf32 tf32e tf32a tf32b => ?_)
            refine r_if_ne hX hP rfl (tgt := 161) rfl (by omega) (by omega) (fun c33 => ?_) (fun c33 => ?_)
            · skip
              refine r_ex hX hP 2 (pc' := 166) (st' := [(0, 1), (2, this)]) (lo' := [(0, (2, this)), (1, (0, what)), (6, (0, l6_j117))]) rfl ?_
              refine r_putIK hX hP rfl fp_X6_73_131 hS (by omega) (by omega) (fun h34 => ?_)
              have ci35 : CI E S (up (up (hw [(119, -1), (120, -1), (121, -1), (122, -1), (123, -1), (131, 1), (131, 2), (131, 5), (131, 6), (131, 7), (131, 8), (136, 0)] (hw [(131, 1), (131, 2), (131, 5), (131, 6), (131, 7), (131, 8)] G Gj60) Gj117) 131 this 14 0) 131 this 13 1) := (ci_up (ci_up yj117_5 rfl) rfl)
              exact r_retV hX hP rfl rfl (by omega) (by omega) ⟨rfl, ⟨_, (hw_up (hw_up (hw_sub (hw_sub (hw_refl _ _) rfl) rfl) rfl) rfl).symm⟩, rfl, size_j117, size_j117_e, (by omega), ci35⟩
            · skip
              refine r_ex hX hP 2 (pc' := 153) (st' := [(0, 1), (0, what), (2, this)]) (lo' := [(0, (2, this)), (1, (0, what)), (6, (0, l6_j117))]) rfl ?_
              refine r_ic_ne hX hP rfl (tgt := 165) rfl (by omega) (by omega) (by omega) (by omega) (fun c36 => ?_) (fun c36 => ?_)
              · skip
                exfalso; omega
              · skip
                refine r_ex hX hP 1 (pc' := 158) (st' := [(0, l6_j117), (2, this)]) (lo' := [(0, (2, this)), (1, (0, what)), (6, (0, l6_j117))]) rfl ?_
                refine r_if_ne hX hP rfl (tgt := 165) rfl (by omega) (by omega) (fun c37 => ?_) (fun c37 => ?_)
                · skip
                  exfalso; omega
                · skip
                  refine r_ex hX hP 2 (pc' := 166) (st' := [(0, 1), (2, this)]) (lo' := [(0, (2, this)), (1, (0, what)), (6, (0, l6_j117))]) rfl ?_
                  refine r_putIK hX hP rfl fp_X6_73_131 hS (by omega) (by omega) (fun h38 => ?_)
                  have ci39 : CI E S (up (up (hw [(119, -1), (120, -1), (121, -1), (122, -1), (123, -1), (131, 1), (131, 2), (131, 5), (131, 6), (131, 7), (131, 8), (136, 0)] (hw [(131, 1), (131, 2), (131, 5), (131, 6), (131, 7), (131, 8)] G Gj60) Gj117) 131 this 14 0) 131 this 13 1) := (ci_up (ci_up yj117_5 rfl) rfl)
                  exact r_retV hX hP rfl rfl (by omega) (by omega) ⟨rfl, ⟨_, (hw_up (hw_up (hw_sub (hw_sub (hw_refl _ _) rfl) rfl) rfl) rfl).symm⟩, rfl, size_j117, size_j117_e, (by omega), ci39⟩
          · skip
            refine r_ex hX hP 2 (pc' := 140) (st' := [(0, 1), (2, this)]) (lo' := [(0, (2, this)), (1, (0, what)), (6, (0, l6_j117))]) rfl ?_
            refine r_putIK hX hP rfl fp_X6_77_131 hS (by omega) (by omega) (fun h40 => ?_)
            refine r_ex hX hP 2 (pc' := 145) (st' := [(2, this), (2, this)]) (lo' := [(0, (2, this)), (1, (0, what)), (6, (0, l6_j117))]) rfl ?_
            refine r_getI hX hP rfl fl_X6_73_131 hS (fun tf41 tf41e tf41a tf41b => ?_)
            refine r_if_ne hX hP rfl (tgt := 161) rfl (by omega) (by omega) (fun c42 => ?_) (fun c42 => ?_)
            · skip
              refine r_ex hX hP 2 (pc' := 166) (st' := [(0, 1), (2, this)]) (lo' := [(0, (2, this)), (1, (0, what)), (6, (0, l6_j117))]) rfl ?_
              refine r_putIK hX hP rfl fp_X6_73_131 hS (by omega) (by omega) (fun h43 => ?_)
              have ci44 : CI E S (up (up (hw [(119, -1), (120, -1), (121, -1), (122, -1), (123, -1), (131, 1), (131, 2), (131, 5), (131, 6), (131, 7), (131, 8), (136, 0)] (hw [(131, 1), (131, 2), (131, 5), (131, 6), (131, 7), (131, 8)] G Gj60) Gj117) 131 this 14 1) 131 this 13 1) := (ci_up (ci_up yj117_5 rfl) rfl)
              exact r_retV hX hP rfl rfl (by omega) (by omega) ⟨rfl, ⟨_, (hw_up (hw_up (hw_sub (hw_sub (hw_refl _ _) rfl) rfl) rfl) rfl).symm⟩, rfl, size_j117, size_j117_e, (by omega), ci44⟩
            · skip
              refine r_ex hX hP 2 (pc' := 153) (st' := [(0, 1), (0, what), (2, this)]) (lo' := [(0, (2, this)), (1, (0, what)), (6, (0, l6_j117))]) rfl ?_
              refine r_ic_ne hX hP rfl (tgt := 165) rfl (by omega) (by omega) (by omega) (by omega) (fun c45 => ?_) (fun c45 => ?_)
              · skip
                exfalso; omega
              · skip
                refine r_ex hX hP 1 (pc' := 158) (st' := [(0, l6_j117), (2, this)]) (lo' := [(0, (2, this)), (1, (0, what)), (6, (0, l6_j117))]) rfl ?_
                refine r_if_ne hX hP rfl (tgt := 165) rfl (by omega) (by omega) (fun c46 => ?_) (fun c46 => ?_)
                · skip
                  refine r_ex hX hP 1 (pc' := 166) (st' := [(0, 0), (2, this)]) (lo' := [(0, (2, this)), (1, (0, what)), (6, (0, l6_j117))]) rfl ?_
                  refine r_putIK hX hP rfl fp_X6_73_131 hS (by omega) (by omega) (fun h47 => ?_)
                  have ci48 : CI E S (up (up (hw [(119, -1), (120, -1), (121, -1), (122, -1), (123, -1), (131, 1), (131, 2), (131, 5), (131, 6), (131, 7), (131, 8), (136, 0)] (hw [(131, 1), (131, 2), (131, 5), (131, 6), (131, 7), (131, 8)] G Gj60) Gj117) 131 this 14 1) 131 this 13 0) := (ci_up (ci_up yj117_5 rfl) rfl)
                  exact r_retV hX hP rfl rfl (by omega) (by omega) ⟨rfl, ⟨_, (hw_up (hw_up (hw_sub (hw_sub (hw_refl _ _) rfl) rfl) rfl) rfl).symm⟩, rfl, size_j117, size_j117_e, (by omega), ci48⟩
                · skip
                  exfalso; omega
    refine r_ex hX hP 1 (pc' := 61) (st' := [(2, this)]) (lo' := [(0, (2, this)), (1, (0, what)), (2, (0, l2_j60)), (3, (0, l3_j60)), (4, (0, l4_j60))]) rfl ?_
    refine r_ldcS hX hP rfl (k := 19) (by decide) rfl rfl ?_
    refine r_callV gd hX hP rfl cv_X6_202_131 hS (d' := 5) (mc' := 0) (ms' := 0) (as' := [(2, (sK E 19))]) (st := []) (by omega) (by omega) (by omega) rfl rfl (Nat.le_of_ble_eq_true rfl) (c_X6_keyword E S (hw [(131, 1), (131, 2), (131, 5), (131, 6), (131, 7), (131, 8)] G Gj60) this 19 hS (by decide) flaw_j60 flaw_j60_e) ?_
    rintro _ _ _ ⟨rfl, ⟨G49, rfl⟩, rfl, flh50, flh50e, f51⟩
    refine r_peekI hX (tl_131 1 rfl (by decide)) hS (fun o52 o52e o52a o52b => ?_)
    obtain rfl : flh50 = o52 := flh50e.trans o52e.symm
    refine r_ex hX hP 3 (pc' := 69) (st' := [(0, 1), (0, what), (2, this)]) (lo' := [(0, (2, this)), (1, (0, what)), (2, (0, l2_j60)), (3, (0, l3_j60)), (4, (0, l4_j60))]) rfl ?_
    refine r_ic_ne hX hP rfl (tgt := 76) rfl (by omega) (by omega) (by omega) (by omega) (fun c53 => ?_) (fun c53 => ?_)
    · skip
      refine r_ex hX hP 2 (pc' := 80) (st' := [(0, 1000), (0, 1), (2, this)]) (lo' := [(0, (2, this)), (1, (0, what)), (2, (0, l2_j60)), (3, (0, l3_j60)), (4, (0, l4_j60))]) rfl ?_
      refine r_callV gd hX hP rfl cv_X6_196_131 hS (d' := 2) (mc' := 0) (ms' := 0) (as' := [(0, 1), (0, 1000)]) (st := []) (by omega) (by omega) (by omega) rfl rfl (Nat.le_of_ble_eq_true rfl) (c_X6_number E S (hw [(131, 1), (131, 2), (131, 5), (131, 6), (131, 7), (131, 8)] (hw [(131, 1), (131, 2), (131, 5), (131, 6), (131, 7), (131, 8)] G Gj60) G49) this 1 1000 hS flh50 flh50e (by omega) (by omega) (by omega) (by omega)) ?_
      rintro _ _ _ ⟨rfl, ⟨G54, rfl⟩, z55, rfl, flh56, flh56e, (⟨rfl, f57⟩ | ⟨z55a, z55b, f58, f59, f60, f61⟩)⟩
      · skip
        refine r_peekI hX (tl_131 1 rfl (by decide)) hS (fun o62 o62e o62a o62b => ?_)
        obtain rfl : flh56 = o62 := flh56e.trans o62e.symm
        refine r_ex hX hP 3 (pc' := 88) (st' := [(0, 59), (2, this)]) (lo' := [(0, (2, this)), (1, (0, what)), (2, (0, l2_j60)), (3, (0, l3_j60)), (4, (0, l4_j60)), (5, (0, (-1)))]) rfl ?_
        refine r_callV gd hX hP rfl cv_X6_116_131 hS (d' := 2) (mc' := 0) (ms' := 0) (as' := [(0, 59)]) (st := []) (by omega) (by omega) (by omega) rfl rfl (Nat.le_of_ble_eq_true rfl) (c_X6_sign E S (hw [(131, 1), (131, 2), (131, 5), (131, 6), (131, 7), (131, 8)] (hw [(131, 1), (131, 2), (131, 5), (131, 6), (131, 7), (131, 8)] (hw [(131, 1), (131, 2), (131, 5), (131, 6), (131, 7), (131, 8)] G Gj60) G49) G54) this 59 hS flh56 flh56e (by omega) (by omega)) ?_
        rintro _ _ _ ⟨rfl, ⟨G63, rfl⟩, z64, rfl, flh65, flh65e, z64a, z64b, f66⟩
        refine r_peekI hX (tl_131 1 rfl (by decide)) hS (fun o67 o67e o67a o67b => ?_)
        obtain rfl : flh65 = o67 := flh65e.trans o67e.symm
        refine r_ex hX hP 6 (pc' := 99) (st' := [(0, (-1)), (0, l4_j60), (0, l3_j60), (0, what), (2, this)]) (lo' := [(0, (2, this)), (1, (0, what)), (2, (0, l2_j60)), (3, (0, l3_j60)), (4, (0, l4_j60)), (5, (0, (-1)))]) rfl ?_
        have ci68 : CI E S (hw [(131, 1), (131, 2), (131, 5), (131, 6), (131, 7), (131, 8)] (hw [(131, 1), (131, 2), (131, 5), (131, 6), (131, 7), (131, 8)] (hw [(131, 1), (131, 2), (131, 5), (131, 6), (131, 7), (131, 8)] (hw [(131, 1), (131, 2), (131, 5), (131, 6), (131, 7), (131, 8)] G Gj60) G49) G54) G63) := (ci_hw (ci_hw (ci_hw (ci_hw ci rfl) rfl) rfl) rfl)
        refine r_callV gd hX hP rfl cv_X6_206_131 hS (d' := 1) (mc' := 0) (ms' := 0) (as' := [(0, what), (0, l3_j60), (0, l4_j60), (0, (-1))]) (st := []) (by omega) (by omega) (by omega) rfl rfl (Nat.le_of_ble_eq_true rfl) (c_X6_store E S (hw [(131, 1), (131, 2), (131, 5), (131, 6), (131, 7), (131, 8)] (hw [(131, 1), (131, 2), (131, 5), (131, 6), (131, 7), (131, 8)] (hw [(131, 1), (131, 2), (131, 5), (131, 6), (131, 7), (131, 8)] (hw [(131, 1), (131, 2), (131, 5), (131, 6), (131, 7), (131, 8)] G Gj60) G49) G54) G63) this what l3_j60 l4_j60 (-1) hS tx tx_e tx_s s0 s0_e flh65 flh65e (by omega) (by omega) (by omega) (by omega) (by omega) (by omega) (by omega) (by omega) (by omega) ci68) ?_
        rintro _ _ _ ⟨rfl, ⟨G69, rfl⟩, rfl, sih70, sih70e, f71, ci72⟩
        refine r_peekI hX (tl_136 0 rfl (by decide)) tx_s (fun o73 o73e o73a o73b => ?_)
        obtain rfl : sih70 = o73 := sih70e.trans o73e.symm
        refine r_ex hX hP 1 (pc' := 103) (st' := [(2, this)]) (lo' := [(0, (2, this)), (1, (0, what)), (2, (0, l2_j60)), (3, (0, l3_j60)), (4, (0, l4_j60)), (5, (0, (-1)))]) rfl ?_
        refine r_callV gd hX hP rfl cv_X6_168_131 hS (d' := 0) (mc' := 0) (ms' := 0) (as' := []) (st := []) (by omega) (by omega) (by omega) rfl rfl (Nat.le_of_ble_eq_true rfl) (c_X6_row E S (hw [(119, -1), (120, -1), (121, -1), (122, -1), (123, -1), (136, 0)] (hw [(131, 1), (131, 2), (131, 5), (131, 6), (131, 7), (131, 8)] (hw [(131, 1), (131, 2), (131, 5), (131, 6), (131, 7), (131, 8)] (hw [(131, 1), (131, 2), (131, 5), (131, 6), (131, 7), (131, 8)] (hw [(131, 1), (131, 2), (131, 5), (131, 6), (131, 7), (131, 8)] G Gj60) G49) G54) G63) G69) this  hS tx tx_e tx_s) ?_
        rintro _ _ _ ⟨rfl, rfl, z74, rfl, z74a, z74b⟩
        refine r_ex hX hP 1 (pc' := 107) (st' := [(0, 3), (0, z74)]) (lo' := [(0, (2, this)), (1, (0, what)), (2, (0, l2_j60)), (3, (0, l3_j60)), (4, (0, l4_j60)), (5, (0, (-1)))]) rfl ?_
        refine r_ic_ne hX hP rfl (tgt := 114) rfl (by omega) (by omega) (by omega) (by omega) (fun c75 => ?_) (fun c75 => ?_)
        · skip
          refine r_ex hX hP 2 (pc' := 117) (st' := []) (lo' := [(0, (2, this)), (1, (0, what)), (2, (0, l2_j60)), (3, (0, l3_j60)), (4, (0, l4_j60)), (5, (0, (-1))), (6, (0, 0))]) rfl ?_
          refine r_pick hX [0, 1, 6] (lo' := [(0, (2, this)), (1, (0, what)), (6, (0, 0))]) rfl ?_
          refine r_eqG (X := X) (hw_sub (hw_sub (hw_sub (hw_sub (hw_refl [(119, -1), (120, -1), (121, -1), (122, -1), (123, -1), (131, 1), (131, 2), (131, 5), (131, 6), (131, 7), (131, 8), (136, 0)] _) rfl) rfl) rfl) rfl) ?_
          exact j117 0 sih70 _ sih70e (by omega) (by omega) (by omega) (by omega) (by omega) ci72
        · skip
          refine r_ex hX hP 3 (pc' := 117) (st' := []) (lo' := [(0, (2, this)), (1, (0, what)), (2, (0, l2_j60)), (3, (0, l3_j60)), (4, (0, l4_j60)), (5, (0, (-1))), (6, (0, 1))]) rfl ?_
          refine r_pick hX [0, 1, 6] (lo' := [(0, (2, this)), (1, (0, what)), (6, (0, 1))]) rfl ?_
          refine r_eqG (X := X) (hw_sub (hw_sub (hw_sub (hw_sub (hw_refl [(119, -1), (120, -1), (121, -1), (122, -1), (123, -1), (131, 1), (131, 2), (131, 5), (131, 6), (131, 7), (131, 8), (136, 0)] _) rfl) rfl) rfl) rfl) ?_
          exact j117 1 sih70 _ sih70e (by omega) (by omega) (by omega) (by omega) (by omega) ci72
      · skip
        refine r_peekI hX (tl_131 1 rfl (by decide)) hS (fun o76 o76e o76a o76b => ?_)
        obtain rfl : flh56 = o76 := flh56e.trans o76e.symm
        refine r_ex hX hP 3 (pc' := 88) (st' := [(0, 59), (2, this)]) (lo' := [(0, (2, this)), (1, (0, what)), (2, (0, l2_j60)), (3, (0, l3_j60)), (4, (0, l4_j60)), (5, (0, z55))]) rfl ?_
        refine r_callV gd hX hP rfl cv_X6_116_131 hS (d' := 2) (mc' := 0) (ms' := 0) (as' := [(0, 59)]) (st := []) (by omega) (by omega) (by omega) rfl rfl (Nat.le_of_ble_eq_true rfl) (c_X6_sign E S (hw [(131, 1), (131, 2), (131, 5), (131, 6), (131, 7), (131, 8)] (hw [(131, 1), (131, 2), (131, 5), (131, 6), (131, 7), (131, 8)] (hw [(131, 1), (131, 2), (131, 5), (131, 6), (131, 7), (131, 8)] G Gj60) G49) G54) this 59 hS flh56 flh56e (by omega) (by omega)) ?_
        rintro _ _ _ ⟨rfl, ⟨G77, rfl⟩, z78, rfl, flh79, flh79e, z78a, z78b, f80⟩
        refine r_peekI hX (tl_131 1 rfl (by decide)) hS (fun o81 o81e o81a o81b => ?_)
        obtain rfl : flh79 = o81 := flh79e.trans o81e.symm
        refine r_ex hX hP 6 (pc' := 99) (st' := [(0, z55), (0, l4_j60), (0, l3_j60), (0, what), (2, this)]) (lo' := [(0, (2, this)), (1, (0, what)), (2, (0, l2_j60)), (3, (0, l3_j60)), (4, (0, l4_j60)), (5, (0, z55))]) rfl ?_
        have ci82 : CI E S (hw [(131, 1), (131, 2), (131, 5), (131, 6), (131, 7), (131, 8)] (hw [(131, 1), (131, 2), (131, 5), (131, 6), (131, 7), (131, 8)] (hw [(131, 1), (131, 2), (131, 5), (131, 6), (131, 7), (131, 8)] (hw [(131, 1), (131, 2), (131, 5), (131, 6), (131, 7), (131, 8)] G Gj60) G49) G54) G77) := (ci_hw (ci_hw (ci_hw (ci_hw ci rfl) rfl) rfl) rfl)
        refine r_callV gd hX hP rfl cv_X6_206_131 hS (d' := 1) (mc' := 0) (ms' := 0) (as' := [(0, what), (0, l3_j60), (0, l4_j60), (0, z55)]) (st := []) (by omega) (by omega) (by omega) rfl rfl (Nat.le_of_ble_eq_true rfl) (c_X6_store E S (hw [(131, 1), (131, 2), (131, 5), (131, 6), (131, 7), (131, 8)] (hw [(131, 1), (131, 2), (131, 5), (131, 6), (131, 7), (131, 8)] (hw [(131, 1), (131, 2), (131, 5), (131, 6), (131, 7), (131, 8)] (hw [(131, 1), (131, 2), (131, 5), (131, 6), (131, 7), (131, 8)] G Gj60) G49) G54) G77) this what l3_j60 l4_j60 z55 hS tx tx_e tx_s s0 s0_e flh79 flh79e (by omega) (by omega) (by omega) (by omega) (by omega) (by omega) (by omega) (by omega) (by omega) ci82) ?_
        rintro _ _ _ ⟨rfl, ⟨G83, rfl⟩, rfl, sih84, sih84e, f85, ci86⟩
        refine r_peekI hX (tl_136 0 rfl (by decide)) tx_s (fun o87 o87e o87a o87b => ?_)
        obtain rfl : sih84 = o87 := sih84e.trans o87e.symm
        refine r_ex hX hP 1 (pc' := 103) (st' := [(2, this)]) (lo' := [(0, (2, this)), (1, (0, what)), (2, (0, l2_j60)), (3, (0, l3_j60)), (4, (0, l4_j60)), (5, (0, z55))]) rfl ?_
        refine r_callV gd hX hP rfl cv_X6_168_131 hS (d' := 0) (mc' := 0) (ms' := 0) (as' := []) (st := []) (by omega) (by omega) (by omega) rfl rfl (Nat.le_of_ble_eq_true rfl) (c_X6_row E S (hw [(119, -1), (120, -1), (121, -1), (122, -1), (123, -1), (136, 0)] (hw [(131, 1), (131, 2), (131, 5), (131, 6), (131, 7), (131, 8)] (hw [(131, 1), (131, 2), (131, 5), (131, 6), (131, 7), (131, 8)] (hw [(131, 1), (131, 2), (131, 5), (131, 6), (131, 7), (131, 8)] (hw [(131, 1), (131, 2), (131, 5), (131, 6), (131, 7), (131, 8)] G Gj60) G49) G54) G77) G83) this  hS tx tx_e tx_s) ?_
        rintro _ _ _ ⟨rfl, rfl, z88, rfl, z88a, z88b⟩
        refine r_ex hX hP 1 (pc' := 107) (st' := [(0, 3), (0, z88)]) (lo' := [(0, (2, this)), (1, (0, what)), (2, (0, l2_j60)), (3, (0, l3_j60)), (4, (0, l4_j60)), (5, (0, z55))]) rfl ?_
        refine r_ic_ne hX hP rfl (tgt := 114) rfl (by omega) (by omega) (by omega) (by omega) (fun c89 => ?_) (fun c89 => ?_)
        · skip
          refine r_ex hX hP 2 (pc' := 117) (st' := []) (lo' := [(0, (2, this)), (1, (0, what)), (2, (0, l2_j60)), (3, (0, l3_j60)), (4, (0, l4_j60)), (5, (0, z55)), (6, (0, 0))]) rfl ?_
          refine r_pick hX [0, 1, 6] (lo' := [(0, (2, this)), (1, (0, what)), (6, (0, 0))]) rfl ?_
          refine r_eqG (X := X) (hw_sub (hw_sub (hw_sub (hw_sub (hw_refl [(119, -1), (120, -1), (121, -1), (122, -1), (123, -1), (131, 1), (131, 2), (131, 5), (131, 6), (131, 7), (131, 8), (136, 0)] _) rfl) rfl) rfl) rfl) ?_
          exact j117 0 sih84 _ sih84e (by omega) (by omega) (by omega) (by omega) (by omega) ci86
        · skip
          refine r_ex hX hP 3 (pc' := 117) (st' := []) (lo' := [(0, (2, this)), (1, (0, what)), (2, (0, l2_j60)), (3, (0, l3_j60)), (4, (0, l4_j60)), (5, (0, z55)), (6, (0, 1))]) rfl ?_
          refine r_pick hX [0, 1, 6] (lo' := [(0, (2, this)), (1, (0, what)), (6, (0, 1))]) rfl ?_
          refine r_eqG (X := X) (hw_sub (hw_sub (hw_sub (hw_sub (hw_refl [(119, -1), (120, -1), (121, -1), (122, -1), (123, -1), (131, 1), (131, 2), (131, 5), (131, 6), (131, 7), (131, 8), (136, 0)] _) rfl) rfl) rfl) rfl) ?_
          exact j117 1 sih84 _ sih84e (by omega) (by omega) (by omega) (by omega) (by omega) ci86
    · skip
      refine r_ex hX hP 3 (pc' := 80) (st' := [(0, 1000), (0, l3_j60), (2, this)]) (lo' := [(0, (2, this)), (1, (0, what)), (2, (0, l2_j60)), (3, (0, l3_j60)), (4, (0, l4_j60))]) rfl ?_
      refine r_callV gd hX hP rfl cv_X6_196_131 hS (d' := 2) (mc' := 0) (ms' := 0) (as' := [(0, l3_j60), (0, 1000)]) (st := []) (by omega) (by omega) (by omega) rfl rfl (Nat.le_of_ble_eq_true rfl) (c_X6_number E S (hw [(131, 1), (131, 2), (131, 5), (131, 6), (131, 7), (131, 8)] (hw [(131, 1), (131, 2), (131, 5), (131, 6), (131, 7), (131, 8)] G Gj60) G49) this l3_j60 1000 hS flh50 flh50e (by omega) (by omega) (by omega) (by omega)) ?_
      rintro _ _ _ ⟨rfl, ⟨G90, rfl⟩, z91, rfl, flh92, flh92e, (⟨rfl, f93⟩ | ⟨z91a, z91b, f94, f95, f96, f97⟩)⟩
      · skip
        refine r_peekI hX (tl_131 1 rfl (by decide)) hS (fun o98 o98e o98a o98b => ?_)
        obtain rfl : flh92 = o98 := flh92e.trans o98e.symm
        refine r_ex hX hP 3 (pc' := 88) (st' := [(0, 59), (2, this)]) (lo' := [(0, (2, this)), (1, (0, what)), (2, (0, l2_j60)), (3, (0, l3_j60)), (4, (0, l4_j60)), (5, (0, (-1)))]) rfl ?_
        refine r_callV gd hX hP rfl cv_X6_116_131 hS (d' := 2) (mc' := 0) (ms' := 0) (as' := [(0, 59)]) (st := []) (by omega) (by omega) (by omega) rfl rfl (Nat.le_of_ble_eq_true rfl) (c_X6_sign E S (hw [(131, 1), (131, 2), (131, 5), (131, 6), (131, 7), (131, 8)] (hw [(131, 1), (131, 2), (131, 5), (131, 6), (131, 7), (131, 8)] (hw [(131, 1), (131, 2), (131, 5), (131, 6), (131, 7), (131, 8)] G Gj60) G49) G90) this 59 hS flh92 flh92e (by omega) (by omega)) ?_
        rintro _ _ _ ⟨rfl, ⟨G99, rfl⟩, z100, rfl, flh101, flh101e, z100a, z100b, f102⟩
        refine r_peekI hX (tl_131 1 rfl (by decide)) hS (fun o103 o103e o103a o103b => ?_)
        obtain rfl : flh101 = o103 := flh101e.trans o103e.symm
        refine r_ex hX hP 6 (pc' := 99) (st' := [(0, (-1)), (0, l4_j60), (0, l3_j60), (0, what), (2, this)]) (lo' := [(0, (2, this)), (1, (0, what)), (2, (0, l2_j60)), (3, (0, l3_j60)), (4, (0, l4_j60)), (5, (0, (-1)))]) rfl ?_
        have ci104 : CI E S (hw [(131, 1), (131, 2), (131, 5), (131, 6), (131, 7), (131, 8)] (hw [(131, 1), (131, 2), (131, 5), (131, 6), (131, 7), (131, 8)] (hw [(131, 1), (131, 2), (131, 5), (131, 6), (131, 7), (131, 8)] (hw [(131, 1), (131, 2), (131, 5), (131, 6), (131, 7), (131, 8)] G Gj60) G49) G90) G99) := (ci_hw (ci_hw (ci_hw (ci_hw ci rfl) rfl) rfl) rfl)
        refine r_callV gd hX hP rfl cv_X6_206_131 hS (d' := 1) (mc' := 0) (ms' := 0) (as' := [(0, what), (0, l3_j60), (0, l4_j60), (0, (-1))]) (st := []) (by omega) (by omega) (by omega) rfl rfl (Nat.le_of_ble_eq_true rfl) (c_X6_store E S (hw [(131, 1), (131, 2), (131, 5), (131, 6), (131, 7), (131, 8)] (hw [(131, 1), (131, 2), (131, 5), (131, 6), (131, 7), (131, 8)] (hw [(131, 1), (131, 2), (131, 5), (131, 6), (131, 7), (131, 8)] (hw [(131, 1), (131, 2), (131, 5), (131, 6), (131, 7), (131, 8)] G Gj60) G49) G90) G99) this what l3_j60 l4_j60 (-1) hS tx tx_e tx_s s0 s0_e flh101 flh101e (by omega) (by omega) (by omega) (by omega) (by omega) (by omega) (by omega) (by omega) (by omega) ci104) ?_
        rintro _ _ _ ⟨rfl, ⟨G105, rfl⟩, rfl, sih106, sih106e, f107, ci108⟩
        refine r_peekI hX (tl_136 0 rfl (by decide)) tx_s (fun o109 o109e o109a o109b => ?_)
        obtain rfl : sih106 = o109 := sih106e.trans o109e.symm
        refine r_ex hX hP 1 (pc' := 103) (st' := [(2, this)]) (lo' := [(0, (2, this)), (1, (0, what)), (2, (0, l2_j60)), (3, (0, l3_j60)), (4, (0, l4_j60)), (5, (0, (-1)))]) rfl ?_
        refine r_callV gd hX hP rfl cv_X6_168_131 hS (d' := 0) (mc' := 0) (ms' := 0) (as' := []) (st := []) (by omega) (by omega) (by omega) rfl rfl (Nat.le_of_ble_eq_true rfl) (c_X6_row E S (hw [(119, -1), (120, -1), (121, -1), (122, -1), (123, -1), (136, 0)] (hw [(131, 1), (131, 2), (131, 5), (131, 6), (131, 7), (131, 8)] (hw [(131, 1), (131, 2), (131, 5), (131, 6), (131, 7), (131, 8)] (hw [(131, 1), (131, 2), (131, 5), (131, 6), (131, 7), (131, 8)] (hw [(131, 1), (131, 2), (131, 5), (131, 6), (131, 7), (131, 8)] G Gj60) G49) G90) G99) G105) this  hS tx tx_e tx_s) ?_
        rintro _ _ _ ⟨rfl, rfl, z110, rfl, z110a, z110b⟩
        refine r_ex hX hP 1 (pc' := 107) (st' := [(0, 3), (0, z110)]) (lo' := [(0, (2, this)), (1, (0, what)), (2, (0, l2_j60)), (3, (0, l3_j60)), (4, (0, l4_j60)), (5, (0, (-1)))]) rfl ?_
        refine r_ic_ne hX hP rfl (tgt := 114) rfl (by omega) (by omega) (by omega) (by omega) (fun c111 => ?_) (fun c111 => ?_)
        · skip
          refine r_ex hX hP 2 (pc' := 117) (st' := []) (lo' := [(0, (2, this)), (1, (0, what)), (2, (0, l2_j60)), (3, (0, l3_j60)), (4, (0, l4_j60)), (5, (0, (-1))), (6, (0, 0))]) rfl ?_
          refine r_pick hX [0, 1, 6] (lo' := [(0, (2, this)), (1, (0, what)), (6, (0, 0))]) rfl ?_
          refine r_eqG (X := X) (hw_sub (hw_sub (hw_sub (hw_sub (hw_refl [(119, -1), (120, -1), (121, -1), (122, -1), (123, -1), (131, 1), (131, 2), (131, 5), (131, 6), (131, 7), (131, 8), (136, 0)] _) rfl) rfl) rfl) rfl) ?_
          exact j117 0 sih106 _ sih106e (by omega) (by omega) (by omega) (by omega) (by omega) ci108
        · skip
          refine r_ex hX hP 3 (pc' := 117) (st' := []) (lo' := [(0, (2, this)), (1, (0, what)), (2, (0, l2_j60)), (3, (0, l3_j60)), (4, (0, l4_j60)), (5, (0, (-1))), (6, (0, 1))]) rfl ?_
          refine r_pick hX [0, 1, 6] (lo' := [(0, (2, this)), (1, (0, what)), (6, (0, 1))]) rfl ?_
          refine r_eqG (X := X) (hw_sub (hw_sub (hw_sub (hw_sub (hw_refl [(119, -1), (120, -1), (121, -1), (122, -1), (123, -1), (131, 1), (131, 2), (131, 5), (131, 6), (131, 7), (131, 8), (136, 0)] _) rfl) rfl) rfl) rfl) ?_
          exact j117 1 sih106 _ sih106e (by omega) (by omega) (by omega) (by omega) (by omega) ci108
      · skip
        refine r_peekI hX (tl_131 1 rfl (by decide)) hS (fun o112 o112e o112a o112b => ?_)
        obtain rfl : flh92 = o112 := flh92e.trans o112e.symm
        refine r_ex hX hP 3 (pc' := 88) (st' := [(0, 59), (2, this)]) (lo' := [(0, (2, this)), (1, (0, what)), (2, (0, l2_j60)), (3, (0, l3_j60)), (4, (0, l4_j60)), (5, (0, z91))]) rfl ?_
        refine r_callV gd hX hP rfl cv_X6_116_131 hS (d' := 2) (mc' := 0) (ms' := 0) (as' := [(0, 59)]) (st := []) (by omega) (by omega) (by omega) rfl rfl (Nat.le_of_ble_eq_true rfl) (c_X6_sign E S (hw [(131, 1), (131, 2), (131, 5), (131, 6), (131, 7), (131, 8)] (hw [(131, 1), (131, 2), (131, 5), (131, 6), (131, 7), (131, 8)] (hw [(131, 1), (131, 2), (131, 5), (131, 6), (131, 7), (131, 8)] G Gj60) G49) G90) this 59 hS flh92 flh92e (by omega) (by omega)) ?_
        rintro _ _ _ ⟨rfl, ⟨G113, rfl⟩, z114, rfl, flh115, flh115e, z114a, z114b, f116⟩
        refine r_peekI hX (tl_131 1 rfl (by decide)) hS (fun o117 o117e o117a o117b => ?_)
        obtain rfl : flh115 = o117 := flh115e.trans o117e.symm
        refine r_ex hX hP 6 (pc' := 99) (st' := [(0, z91), (0, l4_j60), (0, l3_j60), (0, what), (2, this)]) (lo' := [(0, (2, this)), (1, (0, what)), (2, (0, l2_j60)), (3, (0, l3_j60)), (4, (0, l4_j60)), (5, (0, z91))]) rfl ?_
        have ci118 : CI E S (hw [(131, 1), (131, 2), (131, 5), (131, 6), (131, 7), (131, 8)] (hw [(131, 1), (131, 2), (131, 5), (131, 6), (131, 7), (131, 8)] (hw [(131, 1), (131, 2), (131, 5), (131, 6), (131, 7), (131, 8)] (hw [(131, 1), (131, 2), (131, 5), (131, 6), (131, 7), (131, 8)] G Gj60) G49) G90) G113) := (ci_hw (ci_hw (ci_hw (ci_hw ci rfl) rfl) rfl) rfl)
        refine r_callV gd hX hP rfl cv_X6_206_131 hS (d' := 1) (mc' := 0) (ms' := 0) (as' := [(0, what), (0, l3_j60), (0, l4_j60), (0, z91)]) (st := []) (by omega) (by omega) (by omega) rfl rfl (Nat.le_of_ble_eq_true rfl) (c_X6_store E S (hw [(131, 1), (131, 2), (131, 5), (131, 6), (131, 7), (131, 8)] (hw [(131, 1), (131, 2), (131, 5), (131, 6), (131, 7), (131, 8)] (hw [(131, 1), (131, 2), (131, 5), (131, 6), (131, 7), (131, 8)] (hw [(131, 1), (131, 2), (131, 5), (131, 6), (131, 7), (131, 8)] G Gj60) G49) G90) G113) this what l3_j60 l4_j60 z91 hS tx tx_e tx_s s0 s0_e flh115 flh115e (by omega) (by omega) (by omega) (by omega) (by omega) (by omega) (by omega) (by omega) (by omega) ci118) ?_
        rintro _ _ _ ⟨rfl, ⟨G119, rfl⟩, rfl, sih120, sih120e, f121, ci122⟩
        refine r_peekI hX (tl_136 0 rfl (by decide)) tx_s (fun o123 o123e o123a o123b => ?_)
        obtain rfl : sih120 = o123 := sih120e.trans o123e.symm
        refine r_ex hX hP 1 (pc' := 103) (st' := [(2, this)]) (lo' := [(0, (2, this)), (1, (0, what)), (2, (0, l2_j60)), (3, (0, l3_j60)), (4, (0, l4_j60)), (5, (0, z91))]) rfl ?_
        refine r_callV gd hX hP rfl cv_X6_168_131 hS (d' := 0) (mc' := 0) (ms' := 0) (as' := []) (st := []) (by omega) (by omega) (by omega) rfl rfl (Nat.le_of_ble_eq_true rfl) (c_X6_row E S (hw [(119, -1), (120, -1), (121, -1), (122, -1), (123, -1), (136, 0)] (hw [(131, 1), (131, 2), (131, 5), (131, 6), (131, 7), (131, 8)] (hw [(131, 1), (131, 2), (131, 5), (131, 6), (131, 7), (131, 8)] (hw [(131, 1), (131, 2), (131, 5), (131, 6), (131, 7), (131, 8)] (hw [(131, 1), (131, 2), (131, 5), (131, 6), (131, 7), (131, 8)] G Gj60) G49) G90) G113) G119) this  hS tx tx_e tx_s) ?_
        rintro _ _ _ ⟨rfl, rfl, z124, rfl, z124a, z124b⟩
        refine r_ex hX hP 1 (pc' := 107) (st' := [(0, 3), (0, z124)]) (lo' := [(0, (2, this)), (1, (0, what)), (2, (0, l2_j60)), (3, (0, l3_j60)), (4, (0, l4_j60)), (5, (0, z91))]) rfl ?_
        refine r_ic_ne hX hP rfl (tgt := 114) rfl (by omega) (by omega) (by omega) (by omega) (fun c125 => ?_) (fun c125 => ?_)
        · skip
          refine r_ex hX hP 2 (pc' := 117) (st' := []) (lo' := [(0, (2, this)), (1, (0, what)), (2, (0, l2_j60)), (3, (0, l3_j60)), (4, (0, l4_j60)), (5, (0, z91)), (6, (0, 0))]) rfl ?_
          refine r_pick hX [0, 1, 6] (lo' := [(0, (2, this)), (1, (0, what)), (6, (0, 0))]) rfl ?_
          refine r_eqG (X := X) (hw_sub (hw_sub (hw_sub (hw_sub (hw_refl [(119, -1), (120, -1), (121, -1), (122, -1), (123, -1), (131, 1), (131, 2), (131, 5), (131, 6), (131, 7), (131, 8), (136, 0)] _) rfl) rfl) rfl) rfl) ?_
          exact j117 0 sih120 _ sih120e (by omega) (by omega) (by omega) (by omega) (by omega) ci122
        · skip
          refine r_ex hX hP 3 (pc' := 117) (st' := []) (lo' := [(0, (2, this)), (1, (0, what)), (2, (0, l2_j60)), (3, (0, l3_j60)), (4, (0, l4_j60)), (5, (0, z91)), (6, (0, 1))]) rfl ?_
          refine r_pick hX [0, 1, 6] (lo' := [(0, (2, this)), (1, (0, what)), (6, (0, 1))]) rfl ?_
          refine r_eqG (X := X) (hw_sub (hw_sub (hw_sub (hw_sub (hw_refl [(119, -1), (120, -1), (121, -1), (122, -1), (123, -1), (131, 1), (131, 2), (131, 5), (131, 6), (131, 7), (131, 8), (136, 0)] _) rfl) rfl) rfl) rfl) ?_
          exact j117 1 sih120 _ sih120e (by omega) (by omega) (by omega) (by omega) (by omega) ci122
  refine r_ex hX hP 1 (pc' := 1) (st' := [(0, what)]) (lo' := [(0, (2, this)), (1, (0, what))]) rfl ?_
  refine r_if_eq hX hP rfl (tgt := 9) rfl (by omega) (by omega) (fun c126 => ?_) (fun c126 => ?_)
  · skip
    refine r_ex hX hP 4 (pc' := 16) (st' := [(0, 1)]) (lo' := [(0, (2, this)), (1, (0, what)), (2, (0, 1))]) rfl ?_
    refine r_if_eq hX hP rfl (tgt := 30) rfl (by omega) (by omega) (fun c127 => ?_) (fun c127 => ?_)
    · skip
      exfalso; omega
    · skip
      refine r_ex hX hP 3 (pc' := 24) (st' := [(0, 1000), (0, 1), (2, this)]) (lo' := [(0, (2, this)), (1, (0, what)), (2, (0, 1))]) rfl ?_
      refine r_peekI hX (tl_131 1 rfl (by decide)) hS (fun flp128 flp128e flp128a flp128b => ?_)
      refine r_callV gd hX hP rfl cv_X6_196_131 hS (d' := 2) (mc' := 0) (ms' := 0) (as' := [(0, 1), (0, 1000)]) (st := []) (by omega) (by omega) (by omega) rfl rfl (Nat.le_of_ble_eq_true rfl) (c_X6_number E S G this 1 1000 hS flp128 flp128e (by omega) (by omega) (by omega) (by omega)) ?_
      rintro _ _ _ ⟨rfl, ⟨G129, rfl⟩, z130, rfl, flh131, flh131e, (⟨rfl, f132⟩ | ⟨z130a, z130b, f133, f134, f135, f136⟩)⟩
      · skip
        refine r_peekI hX (tl_131 1 rfl (by decide)) hS (fun o137 o137e o137a o137b => ?_)
        obtain rfl : flh131 = o137 := flh131e.trans o137e.symm
        refine r_ex hX hP 5 (pc' := 42) (st' := [(0, what)]) (lo' := [(0, (2, this)), (1, (0, what)), (2, (0, 1)), (3, (0, (-1))), (4, (0, (-1)))]) rfl ?_
        refine r_if_ne hX hP rfl (tgt := 60) rfl (by omega) (by omega) (fun c138 => ?_) (fun c138 => ?_)
        · skip
          exfalso; omega
        · skip
          refine r_ex hX hP 1 (pc' := 46) (st' := [(2, this)]) (lo' := [(0, (2, this)), (1, (0, what)), (2, (0, 1)), (3, (0, (-1))), (4, (0, (-1)))]) rfl ?_
          refine r_ldcS hX hP rfl (k := 18) (by decide) rfl rfl ?_
          refine r_callV gd hX hP rfl cv_X6_202_131 hS (d' := 5) (mc' := 0) (ms' := 0) (as' := [(2, (sK E 18))]) (st := []) (by omega) (by omega) (by omega) rfl rfl (Nat.le_of_ble_eq_true rfl) (c_X6_keyword E S (hw [(131, 1), (131, 2), (131, 5), (131, 6), (131, 7), (131, 8)] G G129) this 18 hS (by decide) flh131 flh131e) ?_
          rintro _ _ _ ⟨rfl, ⟨G139, rfl⟩, rfl, flh140, flh140e, f141⟩
          refine r_peekI hX (tl_131 1 rfl (by decide)) hS (fun o142 o142e o142a o142b => ?_)
          obtain rfl : flh140 = o142 := flh140e.trans o142e.symm
          refine r_ex hX hP 3 (pc' := 55) (st' := [(0, 19), (0, 0), (2, this)]) (lo' := [(0, (2, this)), (1, (0, what)), (2, (0, 1)), (3, (0, (-1))), (4, (0, (-1)))]) rfl ?_
          refine r_callV gd hX hP rfl cv_X6_196_131 hS (d' := 2) (mc' := 0) (ms' := 0) (as' := [(0, 0), (0, 19)]) (st := []) (by omega) (by omega) (by omega) rfl rfl (Nat.le_of_ble_eq_true rfl) (c_X6_number E S (hw [(131, 1), (131, 2), (131, 5), (131, 6), (131, 7), (131, 8)] (hw [(131, 1), (131, 2), (131, 5), (131, 6), (131, 7), (131, 8)] G G129) G139) this 0 19 hS flh140 flh140e (by omega) (by omega) (by omega) (by omega)) ?_
          rintro _ _ _ ⟨rfl, ⟨G143, rfl⟩, z144, rfl, flh145, flh145e, (⟨rfl, f146⟩ | ⟨z144a, z144b, f147, f148, f149, f150⟩)⟩
          · skip
            refine r_peekI hX (tl_131 1 rfl (by decide)) hS (fun o151 o151e o151a o151b => ?_)
            obtain rfl : flh145 = o151 := flh145e.trans o151e.symm
            refine r_ex hX hP 1 (pc' := 60) (st' := []) (lo' := [(0, (2, this)), (1, (0, what)), (2, (0, 1)), (3, (0, (-1))), (4, (0, (-1)))]) rfl ?_
            refine r_eqG (X := X) (hw_sub (hw_sub (hw_sub (hw_refl [(131, 1), (131, 2), (131, 5), (131, 6), (131, 7), (131, 8)] _) rfl) rfl) rfl) ?_
            exact j60 1 (-1) (-1) flh145 _ flh145e (by omega) (by omega) (by omega) (by omega) (by omega) (by omega) (by omega) (by omega) (by omega)
          · skip
            refine r_peekI hX (tl_131 1 rfl (by decide)) hS (fun o152 o152e o152a o152b => ?_)
            obtain rfl : flh145 = o152 := flh145e.trans o152e.symm
            refine r_ex hX hP 1 (pc' := 60) (st' := []) (lo' := [(0, (2, this)), (1, (0, what)), (2, (0, 1)), (3, (0, (-1))), (4, (0, z144))]) rfl ?_
            refine r_eqG (X := X) (hw_sub (hw_sub (hw_sub (hw_refl [(131, 1), (131, 2), (131, 5), (131, 6), (131, 7), (131, 8)] _) rfl) rfl) rfl) ?_
            exact j60 1 (-1) z144 flh145 _ flh145e (by omega) (by omega) (by omega) (by omega) (by omega) (by omega) (by omega) (by omega) (by omega)
      · skip
        refine r_peekI hX (tl_131 1 rfl (by decide)) hS (fun o153 o153e o153a o153b => ?_)
        obtain rfl : flh131 = o153 := flh131e.trans o153e.symm
        refine r_ex hX hP 5 (pc' := 42) (st' := [(0, what)]) (lo' := [(0, (2, this)), (1, (0, what)), (2, (0, 1)), (3, (0, z130)), (4, (0, (-1)))]) rfl ?_
        refine r_if_ne hX hP rfl (tgt := 60) rfl (by omega) (by omega) (fun c154 => ?_) (fun c154 => ?_)
        · skip
          exfalso; omega
        · skip
          refine r_ex hX hP 1 (pc' := 46) (st' := [(2, this)]) (lo' := [(0, (2, this)), (1, (0, what)), (2, (0, 1)), (3, (0, z130)), (4, (0, (-1)))]) rfl ?_
          refine r_ldcS hX hP rfl (k := 18) (by decide) rfl rfl ?_
          refine r_callV gd hX hP rfl cv_X6_202_131 hS (d' := 5) (mc' := 0) (ms' := 0) (as' := [(2, (sK E 18))]) (st := []) (by omega) (by omega) (by omega) rfl rfl (Nat.le_of_ble_eq_true rfl) (c_X6_keyword E S (hw [(131, 1), (131, 2), (131, 5), (131, 6), (131, 7), (131, 8)] G G129) this 18 hS (by decide) flh131 flh131e) ?_
          rintro _ _ _ ⟨rfl, ⟨G155, rfl⟩, rfl, flh156, flh156e, f157⟩
          refine r_peekI hX (tl_131 1 rfl (by decide)) hS (fun o158 o158e o158a o158b => ?_)
          obtain rfl : flh156 = o158 := flh156e.trans o158e.symm
          refine r_ex hX hP 3 (pc' := 55) (st' := [(0, 19), (0, 0), (2, this)]) (lo' := [(0, (2, this)), (1, (0, what)), (2, (0, 1)), (3, (0, z130)), (4, (0, (-1)))]) rfl ?_
          refine r_callV gd hX hP rfl cv_X6_196_131 hS (d' := 2) (mc' := 0) (ms' := 0) (as' := [(0, 0), (0, 19)]) (st := []) (by omega) (by omega) (by omega) rfl rfl (Nat.le_of_ble_eq_true rfl) (c_X6_number E S (hw [(131, 1), (131, 2), (131, 5), (131, 6), (131, 7), (131, 8)] (hw [(131, 1), (131, 2), (131, 5), (131, 6), (131, 7), (131, 8)] G G129) G155) this 0 19 hS flh156 flh156e (by omega) (by omega) (by omega) (by omega)) ?_
          rintro _ _ _ ⟨rfl, ⟨G159, rfl⟩, z160, rfl, flh161, flh161e, (⟨rfl, f162⟩ | ⟨z160a, z160b, f163, f164, f165, f166⟩)⟩
          · skip
            refine r_peekI hX (tl_131 1 rfl (by decide)) hS (fun o167 o167e o167a o167b => ?_)
            obtain rfl : flh161 = o167 := flh161e.trans o167e.symm
            refine r_ex hX hP 1 (pc' := 60) (st' := []) (lo' := [(0, (2, this)), (1, (0, what)), (2, (0, 1)), (3, (0, z130)), (4, (0, (-1)))]) rfl ?_
            refine r_eqG (X := X) (hw_sub (hw_sub (hw_sub (hw_refl [(131, 1), (131, 2), (131, 5), (131, 6), (131, 7), (131, 8)] _) rfl) rfl) rfl) ?_
            exact j60 1 z130 (-1) flh161 _ flh161e (by omega) (by omega) (by omega) (by omega) (by omega) (by omega) (by omega) (by omega) (by omega)
          · skip
            refine r_peekI hX (tl_131 1 rfl (by decide)) hS (fun o168 o168e o168a o168b => ?_)
            obtain rfl : flh161 = o168 := flh161e.trans o168e.symm
            refine r_ex hX hP 1 (pc' := 60) (st' := []) (lo' := [(0, (2, this)), (1, (0, what)), (2, (0, 1)), (3, (0, z130)), (4, (0, z160))]) rfl ?_
            refine r_eqG (X := X) (hw_sub (hw_sub (hw_sub (hw_refl [(131, 1), (131, 2), (131, 5), (131, 6), (131, 7), (131, 8)] _) rfl) rfl) rfl) ?_
            exact j60 1 z130 z160 flh161 _ flh161e (by omega) (by omega) (by omega) (by omega) (by omega) (by omega) (by omega) (by omega) (by omega)
  · skip
    refine r_ex hX hP 2 (pc' := 6) (st' := [(0, 1), (0, what)]) (lo' := [(0, (2, this)), (1, (0, what))]) rfl ?_
    refine r_ic_ne hX hP rfl (tgt := 13) rfl (by omega) (by omega) (by omega) (by omega) (fun c169 => ?_) (fun c169 => ?_)
    · skip
      refine r_ex hX hP 3 (pc' := 16) (st' := [(0, 0)]) (lo' := [(0, (2, this)), (1, (0, what)), (2, (0, 0))]) rfl ?_
      refine r_if_eq hX hP rfl (tgt := 30) rfl (by omega) (by omega) (fun c170 => ?_) (fun c170 => ?_)
      · skip
        refine r_ex hX hP 2 (pc' := 32) (st' := [(0, 0), (2, this)]) (lo' := [(0, (2, this)), (1, (0, what)), (2, (0, 0))]) rfl ?_
        refine r_ldc hX hP rfl (v := 9999999) (tbg sg4 166 rfl rfl) ?_
        refine r_peekI hX (tl_131 1 rfl (by decide)) hS (fun flp171 flp171e flp171a flp171b => ?_)
        refine r_callV gd hX hP rfl cv_X6_196_131 hS (d' := 2) (mc' := 0) (ms' := 0) (as' := [(0, 0), (0, 9999999)]) (st := []) (by omega) (by omega) (by omega) rfl rfl (Nat.le_of_ble_eq_true rfl) (c_X6_number E S G this 0 9999999 hS flp171 flp171e (by omega) (by omega) (by omega) (by omega)) ?_
        rintro _ _ _ ⟨rfl, ⟨G172, rfl⟩, z173, rfl, flh174, flh174e, (⟨rfl, f175⟩ | ⟨z173a, z173b, f176, f177, f178, f179⟩)⟩
        · skip
          refine r_peekI hX (tl_131 1 rfl (by decide)) hS (fun o180 o180e o180a o180b => ?_)
          obtain rfl : flh174 = o180 := flh174e.trans o180e.symm
          refine r_ex hX hP 4 (pc' := 42) (st' := [(0, what)]) (lo' := [(0, (2, this)), (1, (0, what)), (2, (0, 0)), (3, (0, (-1))), (4, (0, (-1)))]) rfl ?_
          refine r_if_ne hX hP rfl (tgt := 60) rfl (by omega) (by omega) (fun c181 => ?_) (fun c181 => ?_)
          · skip
            refine r_eqG (X := X) (hw_sub (hw_refl [(131, 1), (131, 2), (131, 5), (131, 6), (131, 7), (131, 8)] _) rfl) ?_
            exact j60 0 (-1) (-1) flh174 _ flh174e (by omega) (by omega) (by omega) (by omega) (by omega) (by omega) (by omega) (by omega) (by omega)
          · skip
            exfalso; omega
        · skip
          refine r_peekI hX (tl_131 1 rfl (by decide)) hS (fun o182 o182e o182a o182b => ?_)
          obtain rfl : flh174 = o182 := flh174e.trans o182e.symm
          refine r_ex hX hP 4 (pc' := 42) (st' := [(0, what)]) (lo' := [(0, (2, this)), (1, (0, what)), (2, (0, 0)), (3, (0, z173)), (4, (0, (-1)))]) rfl ?_
          refine r_if_ne hX hP rfl (tgt := 60) rfl (by omega) (by omega) (fun c183 => ?_) (fun c183 => ?_)
          · skip
            refine r_eqG (X := X) (hw_sub (hw_refl [(131, 1), (131, 2), (131, 5), (131, 6), (131, 7), (131, 8)] _) rfl) ?_
            exact j60 0 z173 (-1) flh174 _ flh174e (by omega) (by omega) (by omega) (by omega) (by omega) (by omega) (by omega) (by omega) (by omega)
          · skip
            exfalso; omega
      · skip
        exfalso; omega
    · skip
      refine r_ex hX hP 4 (pc' := 16) (st' := [(0, 1)]) (lo' := [(0, (2, this)), (1, (0, what)), (2, (0, 1))]) rfl ?_
      refine r_if_eq hX hP rfl (tgt := 30) rfl (by omega) (by omega) (fun c184 => ?_) (fun c184 => ?_)
      · skip
        exfalso; omega
      · skip
        refine r_ex hX hP 3 (pc' := 24) (st' := [(0, 1000), (0, 1), (2, this)]) (lo' := [(0, (2, this)), (1, (0, what)), (2, (0, 1))]) rfl ?_
        refine r_peekI hX (tl_131 1 rfl (by decide)) hS (fun flp185 flp185e flp185a flp185b => ?_)
        refine r_callV gd hX hP rfl cv_X6_196_131 hS (d' := 2) (mc' := 0) (ms' := 0) (as' := [(0, 1), (0, 1000)]) (st := []) (by omega) (by omega) (by omega) rfl rfl (Nat.le_of_ble_eq_true rfl) (c_X6_number E S G this 1 1000 hS flp185 flp185e (by omega) (by omega) (by omega) (by omega)) ?_
        rintro _ _ _ ⟨rfl, ⟨G186, rfl⟩, z187, rfl, flh188, flh188e, (⟨rfl, f189⟩ | ⟨z187a, z187b, f190, f191, f192, f193⟩)⟩
        · skip
          refine r_peekI hX (tl_131 1 rfl (by decide)) hS (fun o194 o194e o194a o194b => ?_)
          obtain rfl : flh188 = o194 := flh188e.trans o194e.symm
          refine r_ex hX hP 5 (pc' := 42) (st' := [(0, what)]) (lo' := [(0, (2, this)), (1, (0, what)), (2, (0, 1)), (3, (0, (-1))), (4, (0, (-1)))]) rfl ?_
          refine r_if_ne hX hP rfl (tgt := 60) rfl (by omega) (by omega) (fun c195 => ?_) (fun c195 => ?_)
          · skip
            refine r_eqG (X := X) (hw_sub (hw_refl [(131, 1), (131, 2), (131, 5), (131, 6), (131, 7), (131, 8)] _) rfl) ?_
            exact j60 1 (-1) (-1) flh188 _ flh188e (by omega) (by omega) (by omega) (by omega) (by omega) (by omega) (by omega) (by omega) (by omega)
          · skip
            exfalso; omega
        · skip
          refine r_peekI hX (tl_131 1 rfl (by decide)) hS (fun o196 o196e o196a o196b => ?_)
          obtain rfl : flh188 = o196 := flh188e.trans o196e.symm
          refine r_ex hX hP 5 (pc' := 42) (st' := [(0, what)]) (lo' := [(0, (2, this)), (1, (0, what)), (2, (0, 1)), (3, (0, z187)), (4, (0, (-1)))]) rfl ?_
          refine r_if_ne hX hP rfl (tgt := 60) rfl (by omega) (by omega) (fun c197 => ?_) (fun c197 => ?_)
          · skip
            refine r_eqG (X := X) (hw_sub (hw_refl [(131, 1), (131, 2), (131, 5), (131, 6), (131, 7), (131, 8)] _) rfl) ?_
            exact j60 1 z187 (-1) flh188 _ flh188e (by omega) (by omega) (by omega) (by omega) (by omega) (by omega) (by omega) (by omega) (by omega)
          · skip
            exfalso; omega
set_option maxRecDepth 100000 in
set_option maxHeartbeats 4000000 in
theorem c_X6_fraction (E : En) (S : Sg) (G : Gh) (this : Int) (hS : S this = 131) (tx : Int) (tx_e : tx = G 131 this 9) (tx_s : S tx = 136) (s0 : Int) (s0_e : s0 = G 136 tx 0) (td : Int) (td_e : td = G 131 this 10) (pre0 : s0 + 1 ≤ td) (ci : CI E S G) : Calls E mX6_fraction [(2, this)] S G 5 0 0 (fun r S' G' => S = S' ∧ (∃ G1, hw [(119, -1), (120, -1), (121, -1), (122, -1), (123, -1), (131, 1), (131, 2), (131, 5), (131, 6), (131, 7), (131, 8), (136, 0)] G G1 = G') ∧ r = none ∧ ∃ s1 : Int, s1 = G' 136 tx 0 ∧ s1 ≤ s0 + 1 ∧ CI E S G') := by
  refine calls_by [(0, (2, this))] rfl rfl (Nat.le_of_ble_eq_true rfl) (fun X hX => ?_)
  have hP := hPX6_fraction
  refine r_peekI hX (tl_136 0 rfl (by decide)) tx_s (fun s0_o s0_oe s0_oa s0_ob => ?_)
  obtain rfl : s0 = s0_o := s0_e.trans s0_oe.symm
  refine r_peekI hX (tl_131 10 rfl (by decide)) hS (fun td_o td_oe td_oa td_ob => ?_)
  obtain rfl : td = td_o := td_e.trans td_oe.symm
  refine r_ex hX hP 2 (pc' := 2) (st' := [(0, 1), (2, this)]) (lo' := [(0, (2, this))]) rfl ?_
  refine r_peekI hX (tl_131 1 rfl (by decide)) hS (fun flp1 flp1e flp1a flp1b => ?_)
  refine r_callV gd hX hP rfl cv_X6_95_131 hS (d' := 1) (mc' := 0) (ms' := 0) (as' := [(0, 1)]) (st := []) (by omega) (by omega) (by omega) rfl rfl (Nat.le_of_ble_eq_true rfl) (c_X6_expect E S G this 1 hS flp1 flp1e (by omega) (by omega)) ?_
  rintro _ _ _ ⟨rfl, ⟨G2, rfl⟩, z3, rfl, flh4, flh4e, (⟨rfl, f5, f6⟩ | ⟨rfl, f7⟩)⟩
  · skip
    refine r_peekI hX (tl_131 1 rfl (by decide)) hS (fun o8 o8e o8a o8b => ?_)
    obtain rfl : flh4 = o8 := flh4e.trans o8e.symm
    refine r_if_ne hX hP rfl (tgt := 9) rfl (by omega) (by omega) (fun c9 => ?_) (fun c9 => ?_)
    · skip
      refine r_ex hX hP 5 (pc' := 14) (st' := [(2, this)]) (lo' := [(0, (2, this)), (1, (0, 0)), (2, (0, (-1)))]) rfl ?_
      refine r_ldcS hX hP rfl (k := 12) (by decide) rfl rfl ?_
      refine r_peekI hX (tl_131 5 rfl (by decide)) hS (fun atp10 atp10e atp10a atp10b => ?_)
      refine r_peekI hX (tl_131 7 rfl (by decide)) hS (fun stp11 stp11e stp11a stp11b => ?_)
      refine r_callV gd hX hP rfl cv_X6_98_131 hS (d' := 4) (mc' := 0) (ms' := 0) (as' := [(2, (sK E 12))]) (st := []) (by omega) (by omega) (by omega) rfl rfl (Nat.le_of_ble_eq_true rfl) (c_X6_is E S (hw [(131, 1), (131, 2)] G G2) this 12 hS (by decide) atp10 atp10e stp11 stp11e) ?_
      rintro _ _ _ ⟨rfl, rfl, z12, rfl, z12a, z12b⟩
      refine r_if_eq hX hP rfl (tgt := 27) rfl (by omega) (by omega) (fun c13 => ?_) (fun c13 => ?_)
      · skip
        refine r_ex hX hP 1 (pc' := 28) (st' := [(2, this)]) (lo' := [(0, (2, this)), (1, (0, 0)), (2, (0, (-1)))]) rfl ?_
        refine r_ldcS hX hP rfl (k := 13) (by decide) rfl rfl ?_
        refine r_callV gd hX hP rfl cv_X6_98_131 hS (d' := 4) (mc' := 0) (ms' := 0) (as' := [(2, (sK E 13))]) (st := []) (by omega) (by omega) (by omega) rfl rfl (Nat.le_of_ble_eq_true rfl) (c_X6_is E S (hw [(131, 1), (131, 2)] G G2) this 13 hS (by decide) atp10 atp10e stp11 stp11e) ?_
        rintro _ _ _ ⟨rfl, rfl, z14, rfl, z14a, z14b⟩
        refine r_if_eq hX hP rfl (tgt := 41) rfl (by omega) (by omega) (fun c15 => ?_) (fun c15 => ?_)
        · skip
          refine r_ex hX hP 1 (pc' := 42) (st' := [(2, this)]) (lo' := [(0, (2, this)), (1, (0, 0)), (2, (0, (-1)))]) rfl ?_
          refine r_ldcS hX hP rfl (k := 14) (by decide) rfl rfl ?_
          refine r_callV gd hX hP rfl cv_X6_98_131 hS (d' := 4) (mc' := 0) (ms' := 0) (as' := [(2, (sK E 14))]) (st := []) (by omega) (by omega) (by omega) rfl rfl (Nat.le_of_ble_eq_true rfl) (c_X6_is E S (hw [(131, 1), (131, 2)] G G2) this 14 hS (by decide) atp10 atp10e stp11 stp11e) ?_
          rintro _ _ _ ⟨rfl, rfl, z16, rfl, z16a, z16b⟩
          refine r_if_eq hX hP rfl (tgt := 55) rfl (by omega) (by omega) (fun c17 => ?_) (fun c17 => ?_)
          · skip
            refine r_ex hX hP 1 (pc' := 56) (st' := [(2, this)]) (lo' := [(0, (2, this)), (1, (0, 0)), (2, (0, (-1)))]) rfl ?_
            refine r_ldcS hX hP rfl (k := 3) (by decide) rfl rfl ?_
            refine r_callV gd hX hP rfl cv_X6_98_131 hS (d' := 4) (mc' := 0) (ms' := 0) (as' := [(2, (sK E 3))]) (st := []) (by omega) (by omega) (by omega) rfl rfl (Nat.le_of_ble_eq_true rfl) (c_X6_is E S (hw [(131, 1), (131, 2)] G G2) this 3 hS (by decide) atp10 atp10e stp11 stp11e) ?_
            rintro _ _ _ ⟨rfl, rfl, z18, rfl, z18a, z18b⟩
            refine r_if_eq hX hP rfl (tgt := 69) rfl (by omega) (by omega) (fun c19 => ?_) (fun c19 => ?_)
            · skip
              refine r_ex hX hP 2 (pc' := 71) (st' := [(0, 2), (2, this)]) (lo' := [(0, (2, this)), (1, (0, 0)), (2, (0, (-1)))]) rfl ?_
              refine r_callV gd hX hP rfl cv_X6_44_131 hS (d' := 0) (mc' := 0) (ms' := 0) (as' := [(0, 2)]) (st := []) (by omega) (by omega) (by omega) rfl rfl (Nat.le_of_ble_eq_true rfl) (c_X6_fail E S (hw [(131, 1), (131, 2)] G G2) this 2 hS (by omega) (by omega)) ?_
              rintro _ _ _ ⟨rfl, ⟨G20, rfl⟩, z21, rfl, flh22, flh22e, rfl, f23⟩
              refine r_peekI hX (tl_131 1 rfl (by decide)) hS (fun o24 o24e o24a o24b => ?_)
              obtain rfl : flh22 = o24 := flh22e.trans o24e.symm
              refine r_ex hX hP 1 (pc' := 75) (st' := []) (lo' := [(0, (2, this)), (1, (0, 0)), (2, (0, (-1)))]) rfl ?_
              have ci25 : CI E S (hw [(131, 1), (131, 2)] (hw [(131, 1), (131, 2)] G G2) G20) := (ci_hw (ci_hw ci rfl) rfl)
              exact r_retV hX hP rfl rfl (by omega) (by omega) ⟨rfl, ⟨_, (hw_sub (hw_sub (hw_refl _ _) rfl) rfl).symm⟩, rfl, s0, s0_e, (by omega), ci25⟩
            · skip
              refine r_ex hX hP 4 (pc' := 77) (st' := [(2, this)]) (lo' := [(0, (2, this)), (1, (0, 0)), (2, (0, 3))]) rfl ?_
              refine r_callV gd hX hP rfl cv_X6_80_131 hS (d' := 1) (mc' := 0) (ms' := 0) (as' := []) (st := []) (by omega) (by omega) (by omega) rfl rfl (Nat.le_of_ble_eq_true rfl) (c_X6_advance E S (hw [(131, 1), (131, 2)] G G2) this  hS) ?_
              rintro _ _ _ ⟨rfl, ⟨G26, rfl⟩, rfl, -⟩
              refine r_ex hX hP 2 (pc' := 82) (st' := [(0, 3), (0, 3)]) (lo' := [(0, (2, this)), (1, (0, 0)), (2, (0, 3))]) rfl ?_
              refine r_ic_ne hX hP rfl (tgt := 93) rfl (by omega) (by omega) (by omega) (by omega) (fun c27 => ?_) (fun c27 => ?_)
              · skip
                exfalso; omega
              · skip
                refine r_ex hX hP 2 (pc' := 87) (st' := [(0, 0), (2, this)]) (lo' := [(0, (2, this)), (1, (0, 0)), (2, (0, 3))]) rfl ?_
                refine r_ldc hX hP rfl (v := 9999999) (tbg sg4 166 rfl rfl) ?_
                refine r_callV gd hX hP rfl cv_X6_196_131 hS (d' := 2) (mc' := 0) (ms' := 0) (as' := [(0, 0), (0, 9999999)]) (st := []) (by omega) (by omega) (by omega) rfl rfl (Nat.le_of_ble_eq_true rfl) (c_X6_number E S (hw [(131, 5), (131, 6), (131, 7), (131, 8)] (hw [(131, 1), (131, 2)] G G2) G26) this 0 9999999 hS flh4 flh4e (by omega) (by omega) (by omega) (by omega)) ?_
                rintro _ _ _ ⟨rfl, ⟨G28, rfl⟩, z29, rfl, flh30, flh30e, (⟨rfl, f31⟩ | ⟨z29a, z29b, f32, f33, f34, f35⟩)⟩
                · skip
                  refine r_peekI hX (tl_131 1 rfl (by decide)) hS (fun o36 o36e o36a o36b => ?_)
                  obtain rfl : flh30 = o36 := flh30e.trans o36e.symm
                  refine r_ex hX hP 3 (pc' := 96) (st' := [(0, 59), (2, this)]) (lo' := [(0, (2, this)), (1, (0, (-1))), (2, (0, 3))]) rfl ?_
                  refine r_callV gd hX hP rfl cv_X6_116_131 hS (d' := 2) (mc' := 0) (ms' := 0) (as' := [(0, 59)]) (st := []) (by omega) (by omega) (by omega) rfl rfl (Nat.le_of_ble_eq_true rfl) (c_X6_sign E S (hw [(131, 1), (131, 2), (131, 5), (131, 6), (131, 7), (131, 8)] (hw [(131, 5), (131, 6), (131, 7), (131, 8)] (hw [(131, 1), (131, 2)] G G2) G26) G28) this 59 hS flh30 flh30e (by omega) (by omega)) ?_
                  rintro _ _ _ ⟨rfl, ⟨G37, rfl⟩, z38, rfl, flh39, flh39e, z38a, z38b, f40⟩
                  refine r_peekI hX (tl_131 1 rfl (by decide)) hS (fun o41 o41e o41a o41b => ?_)
                  obtain rfl : flh39 = o41 := flh39e.trans o41e.symm
                  refine r_ex hX hP 6 (pc' := 105) (st' := [(0, (-1)), (0, (-1)), (0, 3), (0, 5), (2, this)]) (lo' := [(0, (2, this)), (1, (0, (-1))), (2, (0, 3))]) rfl ?_
                  have ci42 : CI E S (hw [(131, 1), (131, 2), (131, 5), (131, 6), (131, 7), (131, 8)] (hw [(131, 1), (131, 2), (131, 5), (131, 6), (131, 7), (131, 8)] (hw [(131, 5), (131, 6), (131, 7), (131, 8)] (hw [(131, 1), (131, 2)] G G2) G26) G28) G37) := (ci_hw (ci_hw (ci_hw (ci_hw ci rfl) rfl) rfl) rfl)
                  refine r_callV gd hX hP rfl cv_X6_206_131 hS (d' := 1) (mc' := 0) (ms' := 0) (as' := [(0, 5), (0, 3), (0, (-1)), (0, (-1))]) (st := []) (by omega) (by omega) (by omega) rfl rfl (Nat.le_of_ble_eq_true rfl) (c_X6_store E S (hw [(131, 1), (131, 2), (131, 5), (131, 6), (131, 7), (131, 8)] (hw [(131, 1), (131, 2), (131, 5), (131, 6), (131, 7), (131, 8)] (hw [(131, 5), (131, 6), (131, 7), (131, 8)] (hw [(131, 1), (131, 2)] G G2) G26) G28) G37) this 5 3 (-1) (-1) hS tx tx_e tx_s s0 s0_e flh39 flh39e (by omega) (by omega) (by omega) (by omega) (by omega) (by omega) (by omega) (by omega) (by omega) ci42) ?_
                  rintro _ _ _ ⟨rfl, ⟨G43, rfl⟩, rfl, sih44, sih44e, f45, ci46⟩
                  refine r_peekI hX (tl_136 0 rfl (by decide)) tx_s (fun o47 o47e o47a o47b => ?_)
                  obtain rfl : sih44 = o47 := sih44e.trans o47e.symm
                  exact r_retV hX hP rfl rfl (by omega) (by omega) ⟨rfl, ⟨_, (hw_sub (hw_sub (hw_sub (hw_sub (hw_sub (hw_refl _ _) rfl) rfl) rfl) rfl) rfl).symm⟩, rfl, sih44, sih44e, (by omega), ci46⟩
                · skip
                  refine r_peekI hX (tl_131 1 rfl (by decide)) hS (fun o48 o48e o48a o48b => ?_)
                  obtain rfl : flh30 = o48 := flh30e.trans o48e.symm
                  refine r_ex hX hP 3 (pc' := 96) (st' := [(0, 59), (2, this)]) (lo' := [(0, (2, this)), (1, (0, z29)), (2, (0, 3))]) rfl ?_
                  refine r_callV gd hX hP rfl cv_X6_116_131 hS (d' := 2) (mc' := 0) (ms' := 0) (as' := [(0, 59)]) (st := []) (by omega) (by omega) (by omega) rfl rfl (Nat.le_of_ble_eq_true rfl) (c_X6_sign E S (hw [(131, 1), (131, 2), (131, 5), (131, 6), (131, 7), (131, 8)] (hw [(131, 5), (131, 6), (131, 7), (131, 8)] (hw [(131, 1), (131, 2)] G G2) G26) G28) this 59 hS flh30 flh30e (by omega) (by omega)) ?_
                  rintro _ _ _ ⟨rfl, ⟨G49, rfl⟩, z50, rfl, flh51, flh51e, z50a, z50b, f52⟩
                  refine r_peekI hX (tl_131 1 rfl (by decide)) hS (fun o53 o53e o53a o53b => ?_)
                  obtain rfl : flh51 = o53 := flh51e.trans o53e.symm
                  refine r_ex hX hP 6 (pc' := 105) (st' := [(0, z29), (0, (-1)), (0, 3), (0, 5), (2, this)]) (lo' := [(0, (2, this)), (1, (0, z29)), (2, (0, 3))]) rfl ?_
                  have ci54 : CI E S (hw [(131, 1), (131, 2), (131, 5), (131, 6), (131, 7), (131, 8)] (hw [(131, 1), (131, 2), (131, 5), (131, 6), (131, 7), (131, 8)] (hw [(131, 5), (131, 6), (131, 7), (131, 8)] (hw [(131, 1), (131, 2)] G G2) G26) G28) G49) := (ci_hw (ci_hw (ci_hw (ci_hw ci rfl) rfl) rfl) rfl)
                  refine r_callV gd hX hP rfl cv_X6_206_131 hS (d' := 1) (mc' := 0) (ms' := 0) (as' := [(0, 5), (0, 3), (0, (-1)), (0, z29)]) (st := []) (by omega) (by omega) (by omega) rfl rfl (Nat.le_of_ble_eq_true rfl) (c_X6_store E S (hw [(131, 1), (131, 2), (131, 5), (131, 6), (131, 7), (131, 8)] (hw [(131, 1), (131, 2), (131, 5), (131, 6), (131, 7), (131, 8)] (hw [(131, 5), (131, 6), (131, 7), (131, 8)] (hw [(131, 1), (131, 2)] G G2) G26) G28) G49) this 5 3 (-1) z29 hS tx tx_e tx_s s0 s0_e flh51 flh51e (by omega) (by omega) (by omega) (by omega) (by omega) (by omega) (by omega) (by omega) (by omega) ci54) ?_
                  rintro _ _ _ ⟨rfl, ⟨G55, rfl⟩, rfl, sih56, sih56e, f57, ci58⟩
                  refine r_peekI hX (tl_136 0 rfl (by decide)) tx_s (fun o59 o59e o59a o59b => ?_)
                  obtain rfl : sih56 = o59 := sih56e.trans o59e.symm
                  exact r_retV hX hP rfl rfl (by omega) (by omega) ⟨rfl, ⟨_, (hw_sub (hw_sub (hw_sub (hw_sub (hw_sub (hw_refl _ _) rfl) rfl) rfl) rfl) rfl).symm⟩, rfl, sih56, sih56e, (by omega), ci58⟩
          · skip
            refine r_ex hX hP 4 (pc' := 77) (st' := [(2, this)]) (lo' := [(0, (2, this)), (1, (0, 0)), (2, (0, 2))]) rfl ?_
            refine r_callV gd hX hP rfl cv_X6_80_131 hS (d' := 1) (mc' := 0) (ms' := 0) (as' := []) (st := []) (by omega) (by omega) (by omega) rfl rfl (Nat.le_of_ble_eq_true rfl) (c_X6_advance E S (hw [(131, 1), (131, 2)] G G2) this  hS) ?_
            rintro _ _ _ ⟨rfl, ⟨G60, rfl⟩, rfl, -⟩
            refine r_ex hX hP 2 (pc' := 82) (st' := [(0, 3), (0, 2)]) (lo' := [(0, (2, this)), (1, (0, 0)), (2, (0, 2))]) rfl ?_
            refine r_ic_ne hX hP rfl (tgt := 93) rfl (by omega) (by omega) (by omega) (by omega) (fun c61 => ?_) (fun c61 => ?_)
            · skip
              refine r_ex hX hP 2 (pc' := 96) (st' := [(0, 59), (2, this)]) (lo' := [(0, (2, this)), (1, (0, 0)), (2, (0, 2))]) rfl ?_
              refine r_callV gd hX hP rfl cv_X6_116_131 hS (d' := 2) (mc' := 0) (ms' := 0) (as' := [(0, 59)]) (st := []) (by omega) (by omega) (by omega) rfl rfl (Nat.le_of_ble_eq_true rfl) (c_X6_sign E S (hw [(131, 5), (131, 6), (131, 7), (131, 8)] (hw [(131, 1), (131, 2)] G G2) G60) this 59 hS flh4 flh4e (by omega) (by omega)) ?_
              rintro _ _ _ ⟨rfl, ⟨G62, rfl⟩, z63, rfl, flh64, flh64e, z63a, z63b, f65⟩
              refine r_peekI hX (tl_131 1 rfl (by decide)) hS (fun o66 o66e o66a o66b => ?_)
              obtain rfl : flh64 = o66 := flh64e.trans o66e.symm
              refine r_ex hX hP 6 (pc' := 105) (st' := [(0, 0), (0, (-1)), (0, 2), (0, 5), (2, this)]) (lo' := [(0, (2, this)), (1, (0, 0)), (2, (0, 2))]) rfl ?_
              have ci67 : CI E S (hw [(131, 1), (131, 2), (131, 5), (131, 6), (131, 7), (131, 8)] (hw [(131, 5), (131, 6), (131, 7), (131, 8)] (hw [(131, 1), (131, 2)] G G2) G60) G62) := (ci_hw (ci_hw (ci_hw ci rfl) rfl) rfl)
              refine r_callV gd hX hP rfl cv_X6_206_131 hS (d' := 1) (mc' := 0) (ms' := 0) (as' := [(0, 5), (0, 2), (0, (-1)), (0, 0)]) (st := []) (by omega) (by omega) (by omega) rfl rfl (Nat.le_of_ble_eq_true rfl) (c_X6_store E S (hw [(131, 1), (131, 2), (131, 5), (131, 6), (131, 7), (131, 8)] (hw [(131, 5), (131, 6), (131, 7), (131, 8)] (hw [(131, 1), (131, 2)] G G2) G60) G62) this 5 2 (-1) 0 hS tx tx_e tx_s s0 s0_e flh64 flh64e (by omega) (by omega) (by omega) (by omega) (by omega) (by omega) (by omega) (by omega) (by omega) ci67) ?_
              rintro _ _ _ ⟨rfl, ⟨G68, rfl⟩, rfl, sih69, sih69e, f70, ci71⟩
              refine r_peekI hX (tl_136 0 rfl (by decide)) tx_s (fun o72 o72e o72a o72b => ?_)
              obtain rfl : sih69 = o72 := sih69e.trans o72e.symm
              exact r_retV hX hP rfl rfl (by omega) (by omega) ⟨rfl, ⟨_, (hw_sub (hw_sub (hw_sub (hw_sub (hw_refl _ _) rfl) rfl) rfl) rfl).symm⟩, rfl, sih69, sih69e, (by omega), ci71⟩
            · skip
              exfalso; omega
        · skip
          refine r_ex hX hP 4 (pc' := 77) (st' := [(2, this)]) (lo' := [(0, (2, this)), (1, (0, 0)), (2, (0, 1))]) rfl ?_
          refine r_callV gd hX hP rfl cv_X6_80_131 hS (d' := 1) (mc' := 0) (ms' := 0) (as' := []) (st := []) (by omega) (by omega) (by omega) rfl rfl (Nat.le_of_ble_eq_true rfl) (c_X6_advance E S (hw [(131, 1), (131, 2)] G G2) this  hS) ?_
          rintro _ _ _ ⟨rfl, ⟨G73, rfl⟩, rfl, -⟩
          refine r_ex hX hP 2 (pc' := 82) (st' := [(0, 3), (0, 1)]) (lo' := [(0, (2, this)), (1, (0, 0)), (2, (0, 1))]) rfl ?_
          refine r_ic_ne hX hP rfl (tgt := 93) rfl (by omega) (by omega) (by omega) (by omega) (fun c74 => ?_) (fun c74 => ?_)
          · skip
            refine r_ex hX hP 2 (pc' := 96) (st' := [(0, 59), (2, this)]) (lo' := [(0, (2, this)), (1, (0, 0)), (2, (0, 1))]) rfl ?_
            refine r_callV gd hX hP rfl cv_X6_116_131 hS (d' := 2) (mc' := 0) (ms' := 0) (as' := [(0, 59)]) (st := []) (by omega) (by omega) (by omega) rfl rfl (Nat.le_of_ble_eq_true rfl) (c_X6_sign E S (hw [(131, 5), (131, 6), (131, 7), (131, 8)] (hw [(131, 1), (131, 2)] G G2) G73) this 59 hS flh4 flh4e (by omega) (by omega)) ?_
            rintro _ _ _ ⟨rfl, ⟨G75, rfl⟩, z76, rfl, flh77, flh77e, z76a, z76b, f78⟩
            refine r_peekI hX (tl_131 1 rfl (by decide)) hS (fun o79 o79e o79a o79b => ?_)
            obtain rfl : flh77 = o79 := flh77e.trans o79e.symm
            refine r_ex hX hP 6 (pc' := 105) (st' := [(0, 0), (0, (-1)), (0, 1), (0, 5), (2, this)]) (lo' := [(0, (2, this)), (1, (0, 0)), (2, (0, 1))]) rfl ?_
            have ci80 : CI E S (hw [(131, 1), (131, 2), (131, 5), (131, 6), (131, 7), (131, 8)] (hw [(131, 5), (131, 6), (131, 7), (131, 8)] (hw [(131, 1), (131, 2)] G G2) G73) G75) := (ci_hw (ci_hw (ci_hw ci rfl) rfl) rfl)
            refine r_callV gd hX hP rfl cv_X6_206_131 hS (d' := 1) (mc' := 0) (ms' := 0) (as' := [(0, 5), (0, 1), (0, (-1)), (0, 0)]) (st := []) (by omega) (by omega) (by omega) rfl rfl (Nat.le_of_ble_eq_true rfl) (c_X6_store E S (hw [(131, 1), (131, 2), (131, 5), (131, 6), (131, 7), (131, 8)] (hw [(131, 5), (131, 6), (131, 7), (131, 8)] (hw [(131, 1), (131, 2)] G G2) G73) G75) this 5 1 (-1) 0 hS tx tx_e tx_s s0 s0_e flh77 flh77e (by omega) (by omega) (by omega) (by omega) (by omega) (by omega) (by omega) (by omega) (by omega) ci80) ?_
            rintro _ _ _ ⟨rfl, ⟨G81, rfl⟩, rfl, sih82, sih82e, f83, ci84⟩
            refine r_peekI hX (tl_136 0 rfl (by decide)) tx_s (fun o85 o85e o85a o85b => ?_)
            obtain rfl : sih82 = o85 := sih82e.trans o85e.symm
            exact r_retV hX hP rfl rfl (by omega) (by omega) ⟨rfl, ⟨_, (hw_sub (hw_sub (hw_sub (hw_sub (hw_refl _ _) rfl) rfl) rfl) rfl).symm⟩, rfl, sih82, sih82e, (by omega), ci84⟩
          · skip
            exfalso; omega
      · skip
        refine r_ex hX hP 4 (pc' := 77) (st' := [(2, this)]) (lo' := [(0, (2, this)), (1, (0, 0)), (2, (0, 0))]) rfl ?_
        refine r_callV gd hX hP rfl cv_X6_80_131 hS (d' := 1) (mc' := 0) (ms' := 0) (as' := []) (st := []) (by omega) (by omega) (by omega) rfl rfl (Nat.le_of_ble_eq_true rfl) (c_X6_advance E S (hw [(131, 1), (131, 2)] G G2) this  hS) ?_
        rintro _ _ _ ⟨rfl, ⟨G86, rfl⟩, rfl, -⟩
        refine r_ex hX hP 2 (pc' := 82) (st' := [(0, 3), (0, 0)]) (lo' := [(0, (2, this)), (1, (0, 0)), (2, (0, 0))]) rfl ?_
        refine r_ic_ne hX hP rfl (tgt := 93) rfl (by omega) (by omega) (by omega) (by omega) (fun c87 => ?_) (fun c87 => ?_)
        · skip
          refine r_ex hX hP 2 (pc' := 96) (st' := [(0, 59), (2, this)]) (lo' := [(0, (2, this)), (1, (0, 0)), (2, (0, 0))]) rfl ?_
          refine r_callV gd hX hP rfl cv_X6_116_131 hS (d' := 2) (mc' := 0) (ms' := 0) (as' := [(0, 59)]) (st := []) (by omega) (by omega) (by omega) rfl rfl (Nat.le_of_ble_eq_true rfl) (c_X6_sign E S (hw [(131, 5), (131, 6), (131, 7), (131, 8)] (hw [(131, 1), (131, 2)] G G2) G86) this 59 hS flh4 flh4e (by omega) (by omega)) ?_
          rintro _ _ _ ⟨rfl, ⟨G88, rfl⟩, z89, rfl, flh90, flh90e, z89a, z89b, f91⟩
          refine r_peekI hX (tl_131 1 rfl (by decide)) hS (fun o92 o92e o92a o92b => ?_)
          obtain rfl : flh90 = o92 := flh90e.trans o92e.symm
          refine r_ex hX hP 6 (pc' := 105) (st' := [(0, 0), (0, (-1)), (0, 0), (0, 5), (2, this)]) (lo' := [(0, (2, this)), (1, (0, 0)), (2, (0, 0))]) rfl ?_
          have ci93 : CI E S (hw [(131, 1), (131, 2), (131, 5), (131, 6), (131, 7), (131, 8)] (hw [(131, 5), (131, 6), (131, 7), (131, 8)] (hw [(131, 1), (131, 2)] G G2) G86) G88) := (ci_hw (ci_hw (ci_hw ci rfl) rfl) rfl)
          refine r_callV gd hX hP rfl cv_X6_206_131 hS (d' := 1) (mc' := 0) (ms' := 0) (as' := [(0, 5), (0, 0), (0, (-1)), (0, 0)]) (st := []) (by omega) (by omega) (by omega) rfl rfl (Nat.le_of_ble_eq_true rfl) (c_X6_store E S (hw [(131, 1), (131, 2), (131, 5), (131, 6), (131, 7), (131, 8)] (hw [(131, 5), (131, 6), (131, 7), (131, 8)] (hw [(131, 1), (131, 2)] G G2) G86) G88) this 5 0 (-1) 0 hS tx tx_e tx_s s0 s0_e flh90 flh90e (by omega) (by omega) (by omega) (by omega) (by omega) (by omega) (by omega) (by omega) (by omega) ci93) ?_
          rintro _ _ _ ⟨rfl, ⟨G94, rfl⟩, rfl, sih95, sih95e, f96, ci97⟩
          refine r_peekI hX (tl_136 0 rfl (by decide)) tx_s (fun o98 o98e o98a o98b => ?_)
          obtain rfl : sih95 = o98 := sih95e.trans o98e.symm
          exact r_retV hX hP rfl rfl (by omega) (by omega) ⟨rfl, ⟨_, (hw_sub (hw_sub (hw_sub (hw_sub (hw_refl _ _) rfl) rfl) rfl) rfl).symm⟩, rfl, sih95, sih95e, (by omega), ci97⟩
        · skip
          exfalso; omega
    · skip
      exfalso; omega
  · skip
    refine r_peekI hX (tl_131 1 rfl (by decide)) hS (fun o99 o99e o99a o99b => ?_)
    obtain rfl : flh4 = o99 := flh4e.trans o99e.symm
    refine r_if_ne hX hP rfl (tgt := 9) rfl (by omega) (by omega) (fun c100 => ?_) (fun c100 => ?_)
    · skip
      exfalso; omega
    · skip
      have ci101 : CI E S (hw [(131, 1), (131, 2)] G G2) := (ci_hw ci rfl)
      exact r_retV hX hP rfl rfl (by omega) (by omega) ⟨rfl, ⟨_, (hw_sub (hw_refl _ _) rfl).symm⟩, rfl, s0, s0_e, (by omega), ci101⟩
set_option maxRecDepth 100000 in
set_option maxHeartbeats 4000000 in
theorem c_X6_when (E : En) (S : Sg) (G : Gh) (this : Int) (hS : S this = 131) (tx : Int) (tx_e : tx = G 131 this 9) (tx_s : S tx = 136) (s0 : Int) (s0_e : s0 = G 136 tx 0) (td : Int) (td_e : td = G 131 this 10) (pre0 : s0 + 1 ≤ td) (ci : CI E S G) : Calls E mX6_when [(2, this)] S G 6 0 0 (fun r S' G' => S = S' ∧ (∃ G1, hw [(106, -1), (119, -1), (120, -1), (121, -1), (122, -1), (123, -1), (131, 1), (131, 2), (131, 5), (131, 6), (131, 7), (131, 8), (131, 11), (136, 0)] G G1 = G') ∧ r = none ∧ ∃ s1 : Int, s1 = G' 136 tx 0 ∧ s1 ≤ s0 + 1 ∧ CI E S G') := by
  refine calls_by [(0, (2, this))] rfl rfl (Nat.le_of_ble_eq_true rfl) (fun X hX => ?_)
  have hP := hPX6_when
  refine r_peekI hX (tl_136 0 rfl (by decide)) tx_s (fun s0_o s0_oe s0_oa s0_ob => ?_)
  obtain rfl : s0 = s0_o := s0_e.trans s0_oe.symm
  refine r_peekI hX (tl_131 10 rfl (by decide)) hS (fun td_o td_oe td_oa td_ob => ?_)
  obtain rfl : td = td_o := td_e.trans td_oe.symm
  refine r_ex hX hP 1 (pc' := 1) (st' := [(2, this)]) (lo' := [(0, (2, this))]) rfl ?_
  refine r_ldcS hX hP rfl (k := 15) (by decide) rfl rfl ?_
  refine r_peekI hX (tl_131 1 rfl (by decide)) hS (fun flp1 flp1e flp1a flp1b => ?_)
  refine r_callV gd hX hP rfl cv_X6_202_131 hS (d' := 5) (mc' := 0) (ms' := 0) (as' := [(2, (sK E 15))]) (st := []) (by omega) (by omega) (by omega) rfl rfl (Nat.le_of_ble_eq_true rfl) (c_X6_keyword E S G this 15 hS (by decide) flp1 flp1e) ?_
  rintro _ _ _ ⟨rfl, ⟨G2, rfl⟩, rfl, flh3, flh3e, f4⟩
  refine r_peekI hX (tl_131 1 rfl (by decide)) hS (fun o5 o5e o5a o5b => ?_)
  obtain rfl : flh3 = o5 := flh3e.trans o5e.symm
  refine r_ex hX hP 1 (pc' := 7) (st' := [(2, this)]) (lo' := [(0, (2, this))]) rfl ?_
  refine r_getI hX hP rfl fl_X6_38_131 hS (fun tf6 tf6e tf6a tf6b => ?_)
  refine r_ex hX hP 3 (pc' := 14) (st' := [(0, 60), (0, tf6)]) (lo' := [(0, (2, this)), (1, (0, tf6))]) rfl ?_
  refine r_ic_eq hX hP rfl (tgt := 23) rfl (by omega) (by omega) (by omega) (by omega) (fun c7 => ?_) (fun c7 => ?_)
  · skip
    refine r_ex hX hP 2 (pc' := 25) (st' := [(0, tf6), (2, this)]) (lo' := [(0, (2, this)), (1, (0, tf6))]) rfl ?_
    refine r_callV gd hX hP rfl cv_X6_116_131 hS (d' := 2) (mc' := 0) (ms' := 0) (as' := [(0, tf6)]) (st := []) (by omega) (by omega) (by omega) rfl rfl (Nat.le_of_ble_eq_true rfl) (c_X6_sign E S (hw [(131, 1), (131, 2), (131, 5), (131, 6), (131, 7), (131, 8)] G G2) this tf6 hS flh3 flh3e (by omega) (by omega)) ?_
    rintro _ _ _ ⟨rfl, ⟨G8, rfl⟩, z9, rfl, flh10, flh10e, z9a, z9b, f11⟩
    refine r_peekI hX (tl_131 1 rfl (by decide)) hS (fun o12 o12e o12a o12b => ?_)
    obtain rfl : flh10 = o12 := flh10e.trans o12e.symm
    refine r_ex hX hP 4 (pc' := 41) (st' := [(0, 0), (2, this)]) (lo' := [(0, (2, this)), (1, (0, tf6))]) rfl ?_
    refine r_ldc hX hP rfl (v := 9999999) (tbg sg4 166 rfl rfl) ?_
    refine r_callV gd hX hP rfl cv_X6_196_131 hS (d' := 2) (mc' := 0) (ms' := 0) (as' := [(0, 0), (0, 9999999)]) (st := []) (by omega) (by omega) (by omega) rfl rfl (Nat.le_of_ble_eq_true rfl) (c_X6_number E S (hw [(131, 1), (131, 2), (131, 5), (131, 6), (131, 7), (131, 8)] (hw [(131, 1), (131, 2), (131, 5), (131, 6), (131, 7), (131, 8)] G G2) G8) this 0 9999999 hS flh10 flh10e (by omega) (by omega) (by omega) (by omega)) ?_
    rintro _ _ _ ⟨rfl, ⟨G13, rfl⟩, z14, rfl, flh15, flh15e, (⟨rfl, f16⟩ | ⟨z14a, z14b, f17, f18, f19, f20⟩)⟩
    · skip
      refine r_peekI hX (tl_131 1 rfl (by decide)) hS (fun o21 o21e o21a o21b => ?_)
      obtain rfl : flh15 = o21 := flh15e.trans o21e.symm
      refine r_ex hX hP 2 (pc' := 48) (st' := [(2, this)]) (lo' := [(0, (2, this)), (1, (0, tf6)), (2, (0, (-1)))]) rfl ?_
      refine r_getKN hX hP rfl fl_X6_54_131 hS (x := tx) tx_e ?_
      refine r_getKI hX hP rfl fl_X6_176_136 tx_s (x := s0) s0_e ?_
      refine r_ex hX hP 6 (pc' := 61) (st' := [(0, 0), (0, tf6), (0, (-1)), (0, 6), (2, this)]) (lo' := [(0, (2, this)), (1, (0, tf6)), (2, (0, (-1))), (3, (0, s0))]) rfl ?_
      have ci22 : CI E S (hw [(131, 1), (131, 2), (131, 5), (131, 6), (131, 7), (131, 8)] (hw [(131, 1), (131, 2), (131, 5), (131, 6), (131, 7), (131, 8)] (hw [(131, 1), (131, 2), (131, 5), (131, 6), (131, 7), (131, 8)] G G2) G8) G13) := (ci_hw (ci_hw (ci_hw ci rfl) rfl) rfl)
      refine r_callV gd hX hP rfl cv_X6_206_131 hS (d' := 1) (mc' := 0) (ms' := 0) (as' := [(0, 6), (0, (-1)), (0, tf6), (0, 0)]) (st := []) (by omega) (by omega) (by omega) rfl rfl (Nat.le_of_ble_eq_true rfl) (c_X6_store E S (hw [(131, 1), (131, 2), (131, 5), (131, 6), (131, 7), (131, 8)] (hw [(131, 1), (131, 2), (131, 5), (131, 6), (131, 7), (131, 8)] (hw [(131, 1), (131, 2), (131, 5), (131, 6), (131, 7), (131, 8)] G G2) G8) G13) this 6 (-1) tf6 0 hS tx tx_e tx_s s0 s0_e flh15 flh15e (by omega) (by omega) (by omega) (by omega) (by omega) (by omega) (by omega) (by omega) (by omega) ci22) ?_
      rintro _ _ _ ⟨rfl, ⟨G23, rfl⟩, rfl, sih24, sih24e, f25, ci26⟩
      refine r_peekI hX (tl_136 0 rfl (by decide)) tx_s (fun o27 o27e o27a o27b => ?_)
      obtain rfl : sih24 = o27 := sih24e.trans o27e.symm
      refine r_ex hX hP 4 (pc' := 68) (st' := [(0, (s0 * 2)), (2, this)]) (lo' := [(0, (2, this)), (1, (0, tf6)), (2, (0, (-1))), (3, (0, s0))]) rfl ?_
      refine r_callV gd hX hP rfl cv_X6_113_131 hS (d' := 3) (mc' := 0) (ms' := 0) (as' := [(0, (s0 * 2))]) (st := []) (by omega) (by omega) (by omega) rfl rfl (Nat.le_of_ble_eq_true rfl) (c_X6_push E S (hw [(119, -1), (120, -1), (121, -1), (122, -1), (123, -1), (136, 0)] (hw [(131, 1), (131, 2), (131, 5), (131, 6), (131, 7), (131, 8)] (hw [(131, 1), (131, 2), (131, 5), (131, 6), (131, 7), (131, 8)] (hw [(131, 1), (131, 2), (131, 5), (131, 6), (131, 7), (131, 8)] G G2) G8) G13) G23) this (s0 * 2) hS (by omega) (by omega)) ?_
      rintro _ _ _ ⟨rfl, ⟨G28, rfl⟩, rfl, -⟩
      have ci29 : CI E S (hw [(106, -1), (131, 1), (131, 2), (131, 5), (131, 6), (131, 7), (131, 8), (131, 11)] (hw [(119, -1), (120, -1), (121, -1), (122, -1), (123, -1), (136, 0)] (hw [(131, 1), (131, 2), (131, 5), (131, 6), (131, 7), (131, 8)] (hw [(131, 1), (131, 2), (131, 5), (131, 6), (131, 7), (131, 8)] (hw [(131, 1), (131, 2), (131, 5), (131, 6), (131, 7), (131, 8)] G G2) G8) G13) G23) G28) := (ci_hw ci26 rfl)
      exact r_retV hX hP rfl rfl (by omega) (by omega) ⟨rfl, ⟨_, (hw_sub (hw_sub (hw_sub (hw_sub (hw_sub (hw_refl _ _) rfl) rfl) rfl) rfl) rfl).symm⟩, rfl, sih24, sih24e, (by omega), ci29⟩
    · skip
      refine r_peekI hX (tl_131 1 rfl (by decide)) hS (fun o30 o30e o30a o30b => ?_)
      obtain rfl : flh15 = o30 := flh15e.trans o30e.symm
      refine r_ex hX hP 2 (pc' := 48) (st' := [(2, this)]) (lo' := [(0, (2, this)), (1, (0, tf6)), (2, (0, z14))]) rfl ?_
      refine r_getKN hX hP rfl fl_X6_54_131 hS (x := tx) tx_e ?_
      refine r_getKI hX hP rfl fl_X6_176_136 tx_s (x := s0) s0_e ?_
      refine r_ex hX hP 6 (pc' := 61) (st' := [(0, 0), (0, tf6), (0, z14), (0, 6), (2, this)]) (lo' := [(0, (2, this)), (1, (0, tf6)), (2, (0, z14)), (3, (0, s0))]) rfl ?_
      have ci31 : CI E S (hw [(131, 1), (131, 2), (131, 5), (131, 6), (131, 7), (131, 8)] (hw [(131, 1), (131, 2), (131, 5), (131, 6), (131, 7), (131, 8)] (hw [(131, 1), (131, 2), (131, 5), (131, 6), (131, 7), (131, 8)] G G2) G8) G13) := (ci_hw (ci_hw (ci_hw ci rfl) rfl) rfl)
      refine r_callV gd hX hP rfl cv_X6_206_131 hS (d' := 1) (mc' := 0) (ms' := 0) (as' := [(0, 6), (0, z14), (0, tf6), (0, 0)]) (st := []) (by omega) (by omega) (by omega) rfl rfl (Nat.le_of_ble_eq_true rfl) (c_X6_store E S (hw [(131, 1), (131, 2), (131, 5), (131, 6), (131, 7), (131, 8)] (hw [(131, 1), (131, 2), (131, 5), (131, 6), (131, 7), (131, 8)] (hw [(131, 1), (131, 2), (131, 5), (131, 6), (131, 7), (131, 8)] G G2) G8) G13) this 6 z14 tf6 0 hS tx tx_e tx_s s0 s0_e flh15 flh15e (by omega) (by omega) (by omega) (by omega) (by omega) (by omega) (by omega) (by omega) (by omega) ci31) ?_
      rintro _ _ _ ⟨rfl, ⟨G32, rfl⟩, rfl, sih33, sih33e, f34, ci35⟩
      refine r_peekI hX (tl_136 0 rfl (by decide)) tx_s (fun o36 o36e o36a o36b => ?_)
      obtain rfl : sih33 = o36 := sih33e.trans o36e.symm
      refine r_ex hX hP 4 (pc' := 68) (st' := [(0, (s0 * 2)), (2, this)]) (lo' := [(0, (2, this)), (1, (0, tf6)), (2, (0, z14)), (3, (0, s0))]) rfl ?_
      refine r_callV gd hX hP rfl cv_X6_113_131 hS (d' := 3) (mc' := 0) (ms' := 0) (as' := [(0, (s0 * 2))]) (st := []) (by omega) (by omega) (by omega) rfl rfl (Nat.le_of_ble_eq_true rfl) (c_X6_push E S (hw [(119, -1), (120, -1), (121, -1), (122, -1), (123, -1), (136, 0)] (hw [(131, 1), (131, 2), (131, 5), (131, 6), (131, 7), (131, 8)] (hw [(131, 1), (131, 2), (131, 5), (131, 6), (131, 7), (131, 8)] (hw [(131, 1), (131, 2), (131, 5), (131, 6), (131, 7), (131, 8)] G G2) G8) G13) G32) this (s0 * 2) hS (by omega) (by omega)) ?_
      rintro _ _ _ ⟨rfl, ⟨G37, rfl⟩, rfl, -⟩
      have ci38 : CI E S (hw [(106, -1), (131, 1), (131, 2), (131, 5), (131, 6), (131, 7), (131, 8), (131, 11)] (hw [(119, -1), (120, -1), (121, -1), (122, -1), (123, -1), (136, 0)] (hw [(131, 1), (131, 2), (131, 5), (131, 6), (131, 7), (131, 8)] (hw [(131, 1), (131, 2), (131, 5), (131, 6), (131, 7), (131, 8)] (hw [(131, 1), (131, 2), (131, 5), (131, 6), (131, 7), (131, 8)] G G2) G8) G13) G32) G37) := (ci_hw ci35 rfl)
      exact r_retV hX hP rfl rfl (by omega) (by omega) ⟨rfl, ⟨_, (hw_sub (hw_sub (hw_sub (hw_sub (hw_sub (hw_refl _ _) rfl) rfl) rfl) rfl) rfl).symm⟩, rfl, sih33, sih33e, (by omega), ci38⟩
  · skip
    refine r_ex hX hP 2 (pc' := 20) (st' := [(0, 62), (0, tf6)]) (lo' := [(0, (2, this)), (1, (0, tf6))]) rfl ?_
    refine r_ic_ne hX hP rfl (tgt := 32) rfl (by omega) (by omega) (by omega) (by omega) (fun c39 => ?_) (fun c39 => ?_)
    · skip
      refine r_ex hX hP 2 (pc' := 35) (st' := [(0, 60), (2, this)]) (lo' := [(0, (2, this)), (1, (0, tf6))]) rfl ?_
      refine r_callV gd hX hP rfl cv_X6_95_131 hS (d' := 1) (mc' := 0) (ms' := 0) (as' := [(0, 60)]) (st := []) (by omega) (by omega) (by omega) rfl rfl (Nat.le_of_ble_eq_true rfl) (c_X6_expect E S (hw [(131, 1), (131, 2), (131, 5), (131, 6), (131, 7), (131, 8)] G G2) this 60 hS flh3 flh3e (by omega) (by omega)) ?_
      rintro _ _ _ ⟨rfl, ⟨G40, rfl⟩, z41, rfl, flh42, flh42e, (⟨rfl, f43, f44⟩ | ⟨rfl, f45⟩)⟩
      · skip
        refine r_peekI hX (tl_131 1 rfl (by decide)) hS (fun o46 o46e o46a o46b => ?_)
        obtain rfl : flh42 = o46 := flh42e.trans o46e.symm
        refine r_ex hX hP 3 (pc' := 41) (st' := [(0, 0), (2, this)]) (lo' := [(0, (2, this)), (1, (0, tf6))]) rfl ?_
        refine r_ldc hX hP rfl (v := 9999999) (tbg sg4 166 rfl rfl) ?_
        refine r_callV gd hX hP rfl cv_X6_196_131 hS (d' := 2) (mc' := 0) (ms' := 0) (as' := [(0, 0), (0, 9999999)]) (st := []) (by omega) (by omega) (by omega) rfl rfl (Nat.le_of_ble_eq_true rfl) (c_X6_number E S (hw [(131, 1), (131, 2)] (hw [(131, 1), (131, 2), (131, 5), (131, 6), (131, 7), (131, 8)] G G2) G40) this 0 9999999 hS flh42 flh42e (by omega) (by omega) (by omega) (by omega)) ?_
        rintro _ _ _ ⟨rfl, ⟨G47, rfl⟩, z48, rfl, flh49, flh49e, (⟨rfl, f50⟩ | ⟨z48a, z48b, f51, f52, f53, f54⟩)⟩
        · skip
          refine r_peekI hX (tl_131 1 rfl (by decide)) hS (fun o55 o55e o55a o55b => ?_)
          obtain rfl : flh49 = o55 := flh49e.trans o55e.symm
          refine r_ex hX hP 2 (pc' := 48) (st' := [(2, this)]) (lo' := [(0, (2, this)), (1, (0, tf6)), (2, (0, (-1)))]) rfl ?_
          refine r_getKN hX hP rfl fl_X6_54_131 hS (x := tx) tx_e ?_
          refine r_getKI hX hP rfl fl_X6_176_136 tx_s (x := s0) s0_e ?_
          refine r_ex hX hP 6 (pc' := 61) (st' := [(0, 0), (0, tf6), (0, (-1)), (0, 6), (2, this)]) (lo' := [(0, (2, this)), (1, (0, tf6)), (2, (0, (-1))), (3, (0, s0))]) rfl ?_
          have ci56 : CI E S (hw [(131, 1), (131, 2), (131, 5), (131, 6), (131, 7), (131, 8)] (hw [(131, 1), (131, 2)] (hw [(131, 1), (131, 2), (131, 5), (131, 6), (131, 7), (131, 8)] G G2) G40) G47) := (ci_hw (ci_hw (ci_hw ci rfl) rfl) rfl)
          refine r_callV gd hX hP rfl cv_X6_206_131 hS (d' := 1) (mc' := 0) (ms' := 0) (as' := [(0, 6), (0, (-1)), (0, tf6), (0, 0)]) (st := []) (by omega) (by omega) (by omega) rfl rfl (Nat.le_of_ble_eq_true rfl) (c_X6_store E S (hw [(131, 1), (131, 2), (131, 5), (131, 6), (131, 7), (131, 8)] (hw [(131, 1), (131, 2)] (hw [(131, 1), (131, 2), (131, 5), (131, 6), (131, 7), (131, 8)] G G2) G40) G47) this 6 (-1) tf6 0 hS tx tx_e tx_s s0 s0_e flh49 flh49e (by omega) (by omega) (by omega) (by omega) (by omega) (by omega) (by omega) (by omega) (by omega) ci56) ?_
          rintro _ _ _ ⟨rfl, ⟨G57, rfl⟩, rfl, sih58, sih58e, f59, ci60⟩
          refine r_peekI hX (tl_136 0 rfl (by decide)) tx_s (fun o61 o61e o61a o61b => ?_)
          obtain rfl : sih58 = o61 := sih58e.trans o61e.symm
          refine r_ex hX hP 4 (pc' := 68) (st' := [(0, (s0 * 2)), (2, this)]) (lo' := [(0, (2, this)), (1, (0, tf6)), (2, (0, (-1))), (3, (0, s0))]) rfl ?_
          refine r_callV gd hX hP rfl cv_X6_113_131 hS (d' := 3) (mc' := 0) (ms' := 0) (as' := [(0, (s0 * 2))]) (st := []) (by omega) (by omega) (by omega) rfl rfl (Nat.le_of_ble_eq_true rfl) (c_X6_push E S (hw [(119, -1), (120, -1), (121, -1), (122, -1), (123, -1), (136, 0)] (hw [(131, 1), (131, 2), (131, 5), (131, 6), (131, 7), (131, 8)] (hw [(131, 1), (131, 2)] (hw [(131, 1), (131, 2), (131, 5), (131, 6), (131, 7), (131, 8)] G G2) G40) G47) G57) this (s0 * 2) hS (by omega) (by omega)) ?_
          rintro _ _ _ ⟨rfl, ⟨G62, rfl⟩, rfl, -⟩
          have ci63 : CI E S (hw [(106, -1), (131, 1), (131, 2), (131, 5), (131, 6), (131, 7), (131, 8), (131, 11)] (hw [(119, -1), (120, -1), (121, -1), (122, -1), (123, -1), (136, 0)] (hw [(131, 1), (131, 2), (131, 5), (131, 6), (131, 7), (131, 8)] (hw [(131, 1), (131, 2)] (hw [(131, 1), (131, 2), (131, 5), (131, 6), (131, 7), (131, 8)] G G2) G40) G47) G57) G62) := (ci_hw ci60 rfl)
          exact r_retV hX hP rfl rfl (by omega) (by omega) ⟨rfl, ⟨_, (hw_sub (hw_sub (hw_sub (hw_sub (hw_sub (hw_refl _ _) rfl) rfl) rfl) rfl) rfl).symm⟩, rfl, sih58, sih58e, (by omega), ci63⟩
        · skip
          refine r_peekI hX (tl_131 1 rfl (by decide)) hS (fun o64 o64e o64a o64b => ?_)
          obtain rfl : flh49 = o64 := flh49e.trans o64e.symm
          refine r_ex hX hP 2 (pc' := 48) (st' := [(2, this)]) (lo' := [(0, (2, this)), (1, (0, tf6)), (2, (0, z48))]) rfl ?_
          refine r_getKN hX hP rfl fl_X6_54_131 hS (x := tx) tx_e ?_
          refine r_getKI hX hP rfl fl_X6_176_136 tx_s (x := s0) s0_e ?_
          refine r_ex hX hP 6 (pc' := 61) (st' := [(0, 0), (0, tf6), (0, z48), (0, 6), (2, this)]) (lo' := [(0, (2, this)), (1, (0, tf6)), (2, (0, z48)), (3, (0, s0))]) rfl ?_
          have ci65 : CI E S (hw [(131, 1), (131, 2), (131, 5), (131, 6), (131, 7), (131, 8)] (hw [(131, 1), (131, 2)] (hw [(131, 1), (131, 2), (131, 5), (131, 6), (131, 7), (131, 8)] G G2) G40) G47) := (ci_hw (ci_hw (ci_hw ci rfl) rfl) rfl)
          refine r_callV gd hX hP rfl cv_X6_206_131 hS (d' := 1) (mc' := 0) (ms' := 0) (as' := [(0, 6), (0, z48), (0, tf6), (0, 0)]) (st := []) (by omega) (by omega) (by omega) rfl rfl (Nat.le_of_ble_eq_true rfl) (c_X6_store E S (hw [(131, 1), (131, 2), (131, 5), (131, 6), (131, 7), (131, 8)] (hw [(131, 1), (131, 2)] (hw [(131, 1), (131, 2), (131, 5), (131, 6), (131, 7), (131, 8)] G G2) G40) G47) this 6 z48 tf6 0 hS tx tx_e tx_s s0 s0_e flh49 flh49e (by omega) (by omega) (by omega) (by omega) (by omega) (by omega) (by omega) (by omega) (by omega) ci65) ?_
          rintro _ _ _ ⟨rfl, ⟨G66, rfl⟩, rfl, sih67, sih67e, f68, ci69⟩
          refine r_peekI hX (tl_136 0 rfl (by decide)) tx_s (fun o70 o70e o70a o70b => ?_)
          obtain rfl : sih67 = o70 := sih67e.trans o70e.symm
          refine r_ex hX hP 4 (pc' := 68) (st' := [(0, (s0 * 2)), (2, this)]) (lo' := [(0, (2, this)), (1, (0, tf6)), (2, (0, z48)), (3, (0, s0))]) rfl ?_
          refine r_callV gd hX hP rfl cv_X6_113_131 hS (d' := 3) (mc' := 0) (ms' := 0) (as' := [(0, (s0 * 2))]) (st := []) (by omega) (by omega) (by omega) rfl rfl (Nat.le_of_ble_eq_true rfl) (c_X6_push E S (hw [(119, -1), (120, -1), (121, -1), (122, -1), (123, -1), (136, 0)] (hw [(131, 1), (131, 2), (131, 5), (131, 6), (131, 7), (131, 8)] (hw [(131, 1), (131, 2)] (hw [(131, 1), (131, 2), (131, 5), (131, 6), (131, 7), (131, 8)] G G2) G40) G47) G66) this (s0 * 2) hS (by omega) (by omega)) ?_
          rintro _ _ _ ⟨rfl, ⟨G71, rfl⟩, rfl, -⟩
          have ci72 : CI E S (hw [(106, -1), (131, 1), (131, 2), (131, 5), (131, 6), (131, 7), (131, 8), (131, 11)] (hw [(119, -1), (120, -1), (121, -1), (122, -1), (123, -1), (136, 0)] (hw [(131, 1), (131, 2), (131, 5), (131, 6), (131, 7), (131, 8)] (hw [(131, 1), (131, 2)] (hw [(131, 1), (131, 2), (131, 5), (131, 6), (131, 7), (131, 8)] G G2) G40) G47) G66) G71) := (ci_hw ci69 rfl)
          exact r_retV hX hP rfl rfl (by omega) (by omega) ⟨rfl, ⟨_, (hw_sub (hw_sub (hw_sub (hw_sub (hw_sub (hw_refl _ _) rfl) rfl) rfl) rfl) rfl).symm⟩, rfl, sih67, sih67e, (by omega), ci72⟩
      · skip
        refine r_peekI hX (tl_131 1 rfl (by decide)) hS (fun o73 o73e o73a o73b => ?_)
        obtain rfl : flh42 = o73 := flh42e.trans o73e.symm
        refine r_ex hX hP 3 (pc' := 41) (st' := [(0, 0), (2, this)]) (lo' := [(0, (2, this)), (1, (0, tf6))]) rfl ?_
        refine r_ldc hX hP rfl (v := 9999999) (tbg sg4 166 rfl rfl) ?_
        refine r_callV gd hX hP rfl cv_X6_196_131 hS (d' := 2) (mc' := 0) (ms' := 0) (as' := [(0, 0), (0, 9999999)]) (st := []) (by omega) (by omega) (by omega) rfl rfl (Nat.le_of_ble_eq_true rfl) (c_X6_number E S (hw [(131, 1), (131, 2)] (hw [(131, 1), (131, 2), (131, 5), (131, 6), (131, 7), (131, 8)] G G2) G40) this 0 9999999 hS flh42 flh42e (by omega) (by omega) (by omega) (by omega)) ?_
        rintro _ _ _ ⟨rfl, ⟨G74, rfl⟩, z75, rfl, flh76, flh76e, (⟨rfl, f77⟩ | ⟨z75a, z75b, f78, f79, f80, f81⟩)⟩
        · skip
          refine r_peekI hX (tl_131 1 rfl (by decide)) hS (fun o82 o82e o82a o82b => ?_)
          obtain rfl : flh76 = o82 := flh76e.trans o82e.symm
          refine r_ex hX hP 2 (pc' := 48) (st' := [(2, this)]) (lo' := [(0, (2, this)), (1, (0, tf6)), (2, (0, (-1)))]) rfl ?_
          refine r_getKN hX hP rfl fl_X6_54_131 hS (x := tx) tx_e ?_
          refine r_getKI hX hP rfl fl_X6_176_136 tx_s (x := s0) s0_e ?_
          refine r_ex hX hP 6 (pc' := 61) (st' := [(0, 0), (0, tf6), (0, (-1)), (0, 6), (2, this)]) (lo' := [(0, (2, this)), (1, (0, tf6)), (2, (0, (-1))), (3, (0, s0))]) rfl ?_
          have ci83 : CI E S (hw [(131, 1), (131, 2), (131, 5), (131, 6), (131, 7), (131, 8)] (hw [(131, 1), (131, 2)] (hw [(131, 1), (131, 2), (131, 5), (131, 6), (131, 7), (131, 8)] G G2) G40) G74) := (ci_hw (ci_hw (ci_hw ci rfl) rfl) rfl)
          refine r_callV gd hX hP rfl cv_X6_206_131 hS (d' := 1) (mc' := 0) (ms' := 0) (as' := [(0, 6), (0, (-1)), (0, tf6), (0, 0)]) (st := []) (by omega) (by omega) (by omega) rfl rfl (Nat.le_of_ble_eq_true rfl) (c_X6_store E S (hw [(131, 1), (131, 2), (131, 5), (131, 6), (131, 7), (131, 8)] (hw [(131, 1), (131, 2)] (hw [(131, 1), (131, 2), (131, 5), (131, 6), (131, 7), (131, 8)] G G2) G40) G74) this 6 (-1) tf6 0 hS tx tx_e tx_s s0 s0_e flh76 flh76e (by omega) (by omega) (by omega) (by omega) (by omega) (by omega) (by omega) (by omega) (by omega) ci83) ?_
          rintro _ _ _ ⟨rfl, ⟨G84, rfl⟩, rfl, sih85, sih85e, f86, ci87⟩
          refine r_peekI hX (tl_136 0 rfl (by decide)) tx_s (fun o88 o88e o88a o88b => ?_)
          obtain rfl : sih85 = o88 := sih85e.trans o88e.symm
          refine r_ex hX hP 4 (pc' := 68) (st' := [(0, (s0 * 2)), (2, this)]) (lo' := [(0, (2, this)), (1, (0, tf6)), (2, (0, (-1))), (3, (0, s0))]) rfl ?_
          refine r_callV gd hX hP rfl cv_X6_113_131 hS (d' := 3) (mc' := 0) (ms' := 0) (as' := [(0, (s0 * 2))]) (st := []) (by omega) (by omega) (by omega) rfl rfl (Nat.le_of_ble_eq_true rfl) (c_X6_push E S (hw [(119, -1), (120, -1), (121, -1), (122, -1), (123, -1), (136, 0)] (hw [(131, 1), (131, 2), (131, 5), (131, 6), (131, 7), (131, 8)] (hw [(131, 1), (131, 2)] (hw [(131, 1), (131, 2), (131, 5), (131, 6), (131, 7), (131, 8)] G G2) G40) G74) G84) this (s0 * 2) hS (by omega) (by omega)) ?_
          rintro _ _ _ ⟨rfl, ⟨G89, rfl⟩, rfl, -⟩
          have ci90 : CI E S (hw [(106, -1), (131, 1), (131, 2), (131, 5), (131, 6), (131, 7), (131, 8), (131, 11)] (hw [(119, -1), (120, -1), (121, -1), (122, -1), (123, -1), (136, 0)] (hw [(131, 1), (131, 2), (131, 5), (131, 6), (131, 7), (131, 8)] (hw [(131, 1), (131, 2)] (hw [(131, 1), (131, 2), (131, 5), (131, 6), (131, 7), (131, 8)] G G2) G40) G74) G84) G89) := (ci_hw ci87 rfl)
          exact r_retV hX hP rfl rfl (by omega) (by omega) ⟨rfl, ⟨_, (hw_sub (hw_sub (hw_sub (hw_sub (hw_sub (hw_refl _ _) rfl) rfl) rfl) rfl) rfl).symm⟩, rfl, sih85, sih85e, (by omega), ci90⟩
        · skip
          refine r_peekI hX (tl_131 1 rfl (by decide)) hS (fun o91 o91e o91a o91b => ?_)
          obtain rfl : flh76 = o91 := flh76e.trans o91e.symm
          refine r_ex hX hP 2 (pc' := 48) (st' := [(2, this)]) (lo' := [(0, (2, this)), (1, (0, tf6)), (2, (0, z75))]) rfl ?_
          refine r_getKN hX hP rfl fl_X6_54_131 hS (x := tx) tx_e ?_
          refine r_getKI hX hP rfl fl_X6_176_136 tx_s (x := s0) s0_e ?_
          refine r_ex hX hP 6 (pc' := 61) (st' := [(0, 0), (0, tf6), (0, z75), (0, 6), (2, this)]) (lo' := [(0, (2, this)), (1, (0, tf6)), (2, (0, z75)), (3, (0, s0))]) rfl ?_
          have ci92 : CI E S (hw [(131, 1), (131, 2), (131, 5), (131, 6), (131, 7), (131, 8)] (hw [(131, 1), (131, 2)] (hw [(131, 1), (131, 2), (131, 5), (131, 6), (131, 7), (131, 8)] G G2) G40) G74) := (ci_hw (ci_hw (ci_hw ci rfl) rfl) rfl)
          refine r_callV gd hX hP rfl cv_X6_206_131 hS (d' := 1) (mc' := 0) (ms' := 0) (as' := [(0, 6), (0, z75), (0, tf6), (0, 0)]) (st := []) (by omega) (by omega) (by omega) rfl rfl (Nat.le_of_ble_eq_true rfl) (c_X6_store E S (hw [(131, 1), (131, 2), (131, 5), (131, 6), (131, 7), (131, 8)] (hw [(131, 1), (131, 2)] (hw [(131, 1), (131, 2), (131, 5), (131, 6), (131, 7), (131, 8)] G G2) G40) G74) this 6 z75 tf6 0 hS tx tx_e tx_s s0 s0_e flh76 flh76e (by omega) (by omega) (by omega) (by omega) (by omega) (by omega) (by omega) (by omega) (by omega) ci92) ?_
          rintro _ _ _ ⟨rfl, ⟨G93, rfl⟩, rfl, sih94, sih94e, f95, ci96⟩
          refine r_peekI hX (tl_136 0 rfl (by decide)) tx_s (fun o97 o97e o97a o97b => ?_)
          obtain rfl : sih94 = o97 := sih94e.trans o97e.symm
          refine r_ex hX hP 4 (pc' := 68) (st' := [(0, (s0 * 2)), (2, this)]) (lo' := [(0, (2, this)), (1, (0, tf6)), (2, (0, z75)), (3, (0, s0))]) rfl ?_
          refine r_callV gd hX hP rfl cv_X6_113_131 hS (d' := 3) (mc' := 0) (ms' := 0) (as' := [(0, (s0 * 2))]) (st := []) (by omega) (by omega) (by omega) rfl rfl (Nat.le_of_ble_eq_true rfl) (c_X6_push E S (hw [(119, -1), (120, -1), (121, -1), (122, -1), (123, -1), (136, 0)] (hw [(131, 1), (131, 2), (131, 5), (131, 6), (131, 7), (131, 8)] (hw [(131, 1), (131, 2)] (hw [(131, 1), (131, 2), (131, 5), (131, 6), (131, 7), (131, 8)] G G2) G40) G74) G93) this (s0 * 2) hS (by omega) (by omega)) ?_
          rintro _ _ _ ⟨rfl, ⟨G98, rfl⟩, rfl, -⟩
          have ci99 : CI E S (hw [(106, -1), (131, 1), (131, 2), (131, 5), (131, 6), (131, 7), (131, 8), (131, 11)] (hw [(119, -1), (120, -1), (121, -1), (122, -1), (123, -1), (136, 0)] (hw [(131, 1), (131, 2), (131, 5), (131, 6), (131, 7), (131, 8)] (hw [(131, 1), (131, 2)] (hw [(131, 1), (131, 2), (131, 5), (131, 6), (131, 7), (131, 8)] G G2) G40) G74) G93) G98) := (ci_hw ci96 rfl)
          exact r_retV hX hP rfl rfl (by omega) (by omega) ⟨rfl, ⟨_, (hw_sub (hw_sub (hw_sub (hw_sub (hw_sub (hw_refl _ _) rfl) rfl) rfl) rfl) rfl).symm⟩, rfl, sih94, sih94e, (by omega), ci99⟩
    · skip
      refine r_ex hX hP 2 (pc' := 25) (st' := [(0, tf6), (2, this)]) (lo' := [(0, (2, this)), (1, (0, tf6))]) rfl ?_
      refine r_callV gd hX hP rfl cv_X6_116_131 hS (d' := 2) (mc' := 0) (ms' := 0) (as' := [(0, tf6)]) (st := []) (by omega) (by omega) (by omega) rfl rfl (Nat.le_of_ble_eq_true rfl) (c_X6_sign E S (hw [(131, 1), (131, 2), (131, 5), (131, 6), (131, 7), (131, 8)] G G2) this tf6 hS flh3 flh3e (by omega) (by omega)) ?_
      rintro _ _ _ ⟨rfl, ⟨G100, rfl⟩, z101, rfl, flh102, flh102e, z101a, z101b, f103⟩
      refine r_peekI hX (tl_131 1 rfl (by decide)) hS (fun o104 o104e o104a o104b => ?_)
      obtain rfl : flh102 = o104 := flh102e.trans o104e.symm
      refine r_ex hX hP 4 (pc' := 41) (st' := [(0, 0), (2, this)]) (lo' := [(0, (2, this)), (1, (0, tf6))]) rfl ?_
      refine r_ldc hX hP rfl (v := 9999999) (tbg sg4 166 rfl rfl) ?_
      refine r_callV gd hX hP rfl cv_X6_196_131 hS (d' := 2) (mc' := 0) (ms' := 0) (as' := [(0, 0), (0, 9999999)]) (st := []) (by omega) (by omega) (by omega) rfl rfl (Nat.le_of_ble_eq_true rfl) (c_X6_number E S (hw [(131, 1), (131, 2), (131, 5), (131, 6), (131, 7), (131, 8)] (hw [(131, 1), (131, 2), (131, 5), (131, 6), (131, 7), (131, 8)] G G2) G100) this 0 9999999 hS flh102 flh102e (by omega) (by omega) (by omega) (by omega)) ?_
      rintro _ _ _ ⟨rfl, ⟨G105, rfl⟩, z106, rfl, flh107, flh107e, (⟨rfl, f108⟩ | ⟨z106a, z106b, f109, f110, f111, f112⟩)⟩
      · skip
        refine r_peekI hX (tl_131 1 rfl (by decide)) hS (fun o113 o113e o113a o113b => ?_)
        obtain rfl : flh107 = o113 := flh107e.trans o113e.symm
        refine r_ex hX hP 2 (pc' := 48) (st' := [(2, this)]) (lo' := [(0, (2, this)), (1, (0, tf6)), (2, (0, (-1)))]) rfl ?_
        refine r_getKN hX hP rfl fl_X6_54_131 hS (x := tx) tx_e ?_
        refine r_getKI hX hP rfl fl_X6_176_136 tx_s (x := s0) s0_e ?_
        refine r_ex hX hP 6 (pc' := 61) (st' := [(0, 0), (0, tf6), (0, (-1)), (0, 6), (2, this)]) (lo' := [(0, (2, this)), (1, (0, tf6)), (2, (0, (-1))), (3, (0, s0))]) rfl ?_
        have ci114 : CI E S (hw [(131, 1), (131, 2), (131, 5), (131, 6), (131, 7), (131, 8)] (hw [(131, 1), (131, 2), (131, 5), (131, 6), (131, 7), (131, 8)] (hw [(131, 1), (131, 2), (131, 5), (131, 6), (131, 7), (131, 8)] G G2) G100) G105) := (ci_hw (ci_hw (ci_hw ci rfl) rfl) rfl)
        refine r_callV gd hX hP rfl cv_X6_206_131 hS (d' := 1) (mc' := 0) (ms' := 0) (as' := [(0, 6), (0, (-1)), (0, tf6), (0, 0)]) (st := []) (by omega) (by omega) (by omega) rfl rfl (Nat.le_of_ble_eq_true rfl) (c_X6_store E S (hw [(131, 1), (131, 2), (131, 5), (131, 6), (131, 7), (131, 8)] (hw [(131, 1), (131, 2), (131, 5), (131, 6), (131, 7), (131, 8)] (hw [(131, 1), (131, 2), (131, 5), (131, 6), (131, 7), (131, 8)] G G2) G100) G105) this 6 (-1) tf6 0 hS tx tx_e tx_s s0 s0_e flh107 flh107e (by omega) (by omega) (by omega) (by omega) (by omega) (by omega) (by omega) (by omega) (by omega) ci114) ?_
        rintro _ _ _ ⟨rfl, ⟨G115, rfl⟩, rfl, sih116, sih116e, f117, ci118⟩
        refine r_peekI hX (tl_136 0 rfl (by decide)) tx_s (fun o119 o119e o119a o119b => ?_)
        obtain rfl : sih116 = o119 := sih116e.trans o119e.symm
        refine r_ex hX hP 4 (pc' := 68) (st' := [(0, (s0 * 2)), (2, this)]) (lo' := [(0, (2, this)), (1, (0, tf6)), (2, (0, (-1))), (3, (0, s0))]) rfl ?_
        refine r_callV gd hX hP rfl cv_X6_113_131 hS (d' := 3) (mc' := 0) (ms' := 0) (as' := [(0, (s0 * 2))]) (st := []) (by omega) (by omega) (by omega) rfl rfl (Nat.le_of_ble_eq_true rfl) (c_X6_push E S (hw [(119, -1), (120, -1), (121, -1), (122, -1), (123, -1), (136, 0)] (hw [(131, 1), (131, 2), (131, 5), (131, 6), (131, 7), (131, 8)] (hw [(131, 1), (131, 2), (131, 5), (131, 6), (131, 7), (131, 8)] (hw [(131, 1), (131, 2), (131, 5), (131, 6), (131, 7), (131, 8)] G G2) G100) G105) G115) this (s0 * 2) hS (by omega) (by omega)) ?_
        rintro _ _ _ ⟨rfl, ⟨G120, rfl⟩, rfl, -⟩
        have ci121 : CI E S (hw [(106, -1), (131, 1), (131, 2), (131, 5), (131, 6), (131, 7), (131, 8), (131, 11)] (hw [(119, -1), (120, -1), (121, -1), (122, -1), (123, -1), (136, 0)] (hw [(131, 1), (131, 2), (131, 5), (131, 6), (131, 7), (131, 8)] (hw [(131, 1), (131, 2), (131, 5), (131, 6), (131, 7), (131, 8)] (hw [(131, 1), (131, 2), (131, 5), (131, 6), (131, 7), (131, 8)] G G2) G100) G105) G115) G120) := (ci_hw ci118 rfl)
        exact r_retV hX hP rfl rfl (by omega) (by omega) ⟨rfl, ⟨_, (hw_sub (hw_sub (hw_sub (hw_sub (hw_sub (hw_refl _ _) rfl) rfl) rfl) rfl) rfl).symm⟩, rfl, sih116, sih116e, (by omega), ci121⟩
      · skip
        refine r_peekI hX (tl_131 1 rfl (by decide)) hS (fun o122 o122e o122a o122b => ?_)
        obtain rfl : flh107 = o122 := flh107e.trans o122e.symm
        refine r_ex hX hP 2 (pc' := 48) (st' := [(2, this)]) (lo' := [(0, (2, this)), (1, (0, tf6)), (2, (0, z106))]) rfl ?_
        refine r_getKN hX hP rfl fl_X6_54_131 hS (x := tx) tx_e ?_
        refine r_getKI hX hP rfl fl_X6_176_136 tx_s (x := s0) s0_e ?_
        refine r_ex hX hP 6 (pc' := 61) (st' := [(0, 0), (0, tf6), (0, z106), (0, 6), (2, this)]) (lo' := [(0, (2, this)), (1, (0, tf6)), (2, (0, z106)), (3, (0, s0))]) rfl ?_
        have ci123 : CI E S (hw [(131, 1), (131, 2), (131, 5), (131, 6), (131, 7), (131, 8)] (hw [(131, 1), (131, 2), (131, 5), (131, 6), (131, 7), (131, 8)] (hw [(131, 1), (131, 2), (131, 5), (131, 6), (131, 7), (131, 8)] G G2) G100) G105) := (ci_hw (ci_hw (ci_hw ci rfl) rfl) rfl)
        refine r_callV gd hX hP rfl cv_X6_206_131 hS (d' := 1) (mc' := 0) (ms' := 0) (as' := [(0, 6), (0, z106), (0, tf6), (0, 0)]) (st := []) (by omega) (by omega) (by omega) rfl rfl (Nat.le_of_ble_eq_true rfl) (c_X6_store E S (hw [(131, 1), (131, 2), (131, 5), (131, 6), (131, 7), (131, 8)] (hw [(131, 1), (131, 2), (131, 5), (131, 6), (131, 7), (131, 8)] (hw [(131, 1), (131, 2), (131, 5), (131, 6), (131, 7), (131, 8)] G G2) G100) G105) this 6 z106 tf6 0 hS tx tx_e tx_s s0 s0_e flh107 flh107e (by omega) (by omega) (by omega) (by omega) (by omega) (by omega) (by omega) (by omega) (by omega) ci123) ?_
        rintro _ _ _ ⟨rfl, ⟨G124, rfl⟩, rfl, sih125, sih125e, f126, ci127⟩
        refine r_peekI hX (tl_136 0 rfl (by decide)) tx_s (fun o128 o128e o128a o128b => ?_)
        obtain rfl : sih125 = o128 := sih125e.trans o128e.symm
        refine r_ex hX hP 4 (pc' := 68) (st' := [(0, (s0 * 2)), (2, this)]) (lo' := [(0, (2, this)), (1, (0, tf6)), (2, (0, z106)), (3, (0, s0))]) rfl ?_
        refine r_callV gd hX hP rfl cv_X6_113_131 hS (d' := 3) (mc' := 0) (ms' := 0) (as' := [(0, (s0 * 2))]) (st := []) (by omega) (by omega) (by omega) rfl rfl (Nat.le_of_ble_eq_true rfl) (c_X6_push E S (hw [(119, -1), (120, -1), (121, -1), (122, -1), (123, -1), (136, 0)] (hw [(131, 1), (131, 2), (131, 5), (131, 6), (131, 7), (131, 8)] (hw [(131, 1), (131, 2), (131, 5), (131, 6), (131, 7), (131, 8)] (hw [(131, 1), (131, 2), (131, 5), (131, 6), (131, 7), (131, 8)] G G2) G100) G105) G124) this (s0 * 2) hS (by omega) (by omega)) ?_
        rintro _ _ _ ⟨rfl, ⟨G129, rfl⟩, rfl, -⟩
        have ci130 : CI E S (hw [(106, -1), (131, 1), (131, 2), (131, 5), (131, 6), (131, 7), (131, 8), (131, 11)] (hw [(119, -1), (120, -1), (121, -1), (122, -1), (123, -1), (136, 0)] (hw [(131, 1), (131, 2), (131, 5), (131, 6), (131, 7), (131, 8)] (hw [(131, 1), (131, 2), (131, 5), (131, 6), (131, 7), (131, 8)] (hw [(131, 1), (131, 2), (131, 5), (131, 6), (131, 7), (131, 8)] G G2) G100) G105) G124) G129) := (ci_hw ci127 rfl)
        exact r_retV hX hP rfl rfl (by omega) (by omega) ⟨rfl, ⟨_, (hw_sub (hw_sub (hw_sub (hw_sub (hw_sub (hw_refl _ _) rfl) rfl) rfl) rfl) rfl).symm⟩, rfl, sih125, sih125e, (by omega), ci130⟩
set_option maxRecDepth 100000 in
set_option maxHeartbeats 4000000 in
theorem c_X6_isName (E : En) (S : Sg) (G : Gh) (this : Int) (hS : S this = 131) : Calls E mX6_isName [(2, this)] S G 2 0 0 (fun r S' G' => S = S' ∧ (∃ G1, hw [(131, 1), (131, 2)] G G1 = G') ∧ ∃ z : Int, r = some (0, z) ∧ 0 ≤ z ∧ z ≤ 1) := by
  refine calls_by [(0, (2, this))] rfl rfl (Nat.le_of_ble_eq_true rfl) (fun X hX => ?_)
  have hP := hPX6_isName
  refine r_ex hX hP 2 (pc' := 2) (st' := [(0, 1), (2, this)]) (lo' := [(0, (2, this))]) rfl ?_
  refine r_peekI hX (tl_131 1 rfl (by decide)) hS (fun flp1 flp1e flp1a flp1b => ?_)
  refine r_callV gd hX hP rfl cv_X6_95_131 hS (d' := 1) (mc' := 0) (ms' := 0) (as' := [(0, 1)]) (st := []) (by omega) (by omega) (by omega) rfl rfl (Nat.le_of_ble_eq_true rfl) (c_X6_expect E S G this 1 hS flp1 flp1e (by omega) (by omega)) ?_
  rintro _ _ _ ⟨rfl, ⟨G2, rfl⟩, z3, rfl, flh4, flh4e, (⟨rfl, f5, f6⟩ | ⟨rfl, f7⟩)⟩
  · skip
    refine r_peekI hX (tl_131 1 rfl (by decide)) hS (fun o8 o8e o8a o8b => ?_)
    obtain rfl : flh4 = o8 := flh4e.trans o8e.symm
    refine r_if_ne hX hP rfl (tgt := 10) rfl (by omega) (by omega) (fun c9 => ?_) (fun c9 => ?_)
    · skip
      refine r_ex hX hP 1 (pc' := 11) (st' := [(2, this)]) (lo' := [(0, (2, this))]) rfl ?_
      refine r_getI hX hP rfl fl_X6_67_131 hS (fun af10 af10e af10a af10b => ?_)
      refine r_ex hX hP 1 (pc' := 15) (st' := [(2, this), (0, af10)]) (lo' := [(0, (2, this))]) rfl ?_
      refine r_getI hX hP rfl fl_X6_83_131 hS (fun sf11 sf11e sf11a sf11b => ?_)
      refine r_ex hX hP 2 (pc' := 21) (st' := [(0, 8), (0, (af10 - sf11))]) (lo' := [(0, (2, this))]) rfl ?_
      refine r_ic_le hX hP rfl (tgt := 32) rfl (by omega) (by omega) (by omega) (by omega) (fun c12 => ?_) (fun c12 => ?_)
      · skip
        refine r_ex hX hP 2 (pc' := 37) (st' := [(0, 1)]) (lo' := [(0, (2, this))]) rfl ?_
        exact r_retZ hX hP rfl rfl (by omega) (by omega) (by omega) (by omega) ⟨rfl, ⟨_, (hw_sub (hw_refl _ _) rfl).symm⟩, 1, rfl, (by omega)⟩
      · skip
        refine r_ex hX hP 2 (pc' := 26) (st' := [(0, 2), (2, this)]) (lo' := [(0, (2, this))]) rfl ?_
        refine r_callV gd hX hP rfl cv_X6_44_131 hS (d' := 0) (mc' := 0) (ms' := 0) (as' := [(0, 2)]) (st := []) (by omega) (by omega) (by omega) rfl rfl (Nat.le_of_ble_eq_true rfl) (c_X6_fail E S (hw [(131, 1), (131, 2)] G G2) this 2 hS (by omega) (by omega)) ?_
        rintro _ _ _ ⟨rfl, ⟨G13, rfl⟩, z14, rfl, flh15, flh15e, rfl, f16⟩
        refine r_peekI hX (tl_131 1 rfl (by decide)) hS (fun o17 o17e o17a o17b => ?_)
        obtain rfl : flh15 = o17 := flh15e.trans o17e.symm
        refine r_if_eq hX hP rfl (tgt := 36) rfl (by omega) (by omega) (fun c18 => ?_) (fun c18 => ?_)
        · skip
          refine r_ex hX hP 1 (pc' := 37) (st' := [(0, 0)]) (lo' := [(0, (2, this))]) rfl ?_
          exact r_retZ hX hP rfl rfl (by omega) (by omega) (by omega) (by omega) ⟨rfl, ⟨_, (hw_sub (hw_sub (hw_refl _ _) rfl) rfl).symm⟩, 0, rfl, (by omega)⟩
        · skip
          exfalso; omega
    · skip
      exfalso; omega
  · skip
    refine r_peekI hX (tl_131 1 rfl (by decide)) hS (fun o19 o19e o19a o19b => ?_)
    obtain rfl : flh4 = o19 := flh4e.trans o19e.symm
    refine r_if_ne hX hP rfl (tgt := 10) rfl (by omega) (by omega) (fun c20 => ?_) (fun c20 => ?_)
    · skip
      exfalso; omega
    · skip
      refine r_ex hX hP 1 (pc' := 9) (st' := [(0, 0)]) (lo' := [(0, (2, this))]) rfl ?_
      exact r_retZ hX hP rfl rfl (by omega) (by omega) (by omega) (by omega) ⟨rfl, ⟨_, (hw_sub (hw_refl _ _) rfl).symm⟩, 0, rfl, (by omega)⟩
set_option maxRecDepth 100000 in
set_option maxHeartbeats 4000000 in
theorem c_X6_named (E : En) (S : Sg) (G : Gh) (this : Int) (hS : S this = 131) (tx : Int) (tx_e : tx = G 131 this 9) (tx_s : S tx = 136) : Calls E mX6_named [(2, this)] S G 0 0 0 (fun r S' G' => S = S' ∧ G = G' ∧ ∃ z : Int, r = some (0, z) ∧ (-1) ≤ z ∧ z ≤ 2) := by
  refine calls_by [(0, (2, this))] rfl rfl (Nat.le_of_ble_eq_true rfl) (fun X hX => ?_)
  have hP := hPX6_named
  refine r_ex hX hP 2 (pc' := 2) (st' := []) (lo' := [(0, (2, this)), (1, (0, 0))]) rfl ?_
  have loop2 : ∀ (nF : Nat) (l1_h2 : Int), 0 ≤ l1_h2 → l1_h2 ≤ 3 → 3 - l1_h2 < (nF : Int) → X 0 0 2 [] [(0, (2, this)), (1, (0, l1_h2))] S G := by
    intro nF
    induction nF with
    | zero => intro l1_h2 yh2_0 yh2_1 ym2; exfalso; omega
    | succ nF ih2 =>
      intro l1_h2 yh2_0 yh2_1 ym2
      refine r_ex hX hP 2 (pc' := 4) (st' := [(2, this), (0, l1_h2)]) (lo' := [(0, (2, this)), (1, (0, l1_h2))]) rfl ?_
      refine r_getKN hX hP rfl fl_X6_54_131 hS (x := tx) tx_e ?_
      refine r_getI hX hP rfl fl_X6_173_136 tx_s (fun cf1 cf1e cf1a cf1b => ?_)
      refine r_ic_ge hX hP rfl (tgt := 114) rfl (by omega) (by omega) (by omega) (by omega) (fun c2 => ?_) (fun c2 => ?_)
      · skip
        refine r_ex hX hP 1 (pc' := 115) (st' := [(0, (-1))]) (lo' := [(0, (2, this)), (1, (0, l1_h2))]) rfl ?_
        exact r_retI hX hP rfl rfl (by omega) (by omega) ⟨rfl, rfl, (-1), rfl, (by omega)⟩
      · skip
        refine r_ex hX hP 1 (pc' := 14) (st' := [(2, this)]) (lo' := [(0, (2, this)), (1, (0, l1_h2))]) rfl ?_
        refine r_getI hX hP rfl fl_X6_67_131 hS (fun af3 af3e af3a af3b => ?_)
        refine r_ex hX hP 1 (pc' := 18) (st' := [(2, this), (0, af3)]) (lo' := [(0, (2, this)), (1, (0, l1_h2))]) rfl ?_
        refine r_getI hX hP rfl fl_X6_83_131 hS (fun sf4 sf4e sf4a sf4b => ?_)
        refine r_ex hX hP 2 (pc' := 23) (st' := [(2, this), (0, (af3 - sf4))]) (lo' := [(0, (2, this)), (1, (0, l1_h2))]) rfl ?_
        refine r_getR hX hP rfl fl_X6_28_131 hS (fun nf5 nf5e nf5s => ?_)
        refine r_ex hX hP 1 (pc' := 27) (st' := [(0, l1_h2), (2, nf5), (0, (af3 - sf4))]) (lo' := [(0, (2, this)), (1, (0, l1_h2))]) rfl ?_
        refine r_iald hX hP rfl al_107 nf5s (by omega) (by omega) (fun x6 x6e x6a x6b => ?_)
        refine r_ex hX hP 1 (pc' := 29) (st' := [(2, this), (0, x6), (0, (af3 - sf4))]) (lo' := [(0, (2, this)), (1, (0, l1_h2))]) rfl ?_
        refine r_getR hX hP rfl fl_X6_25_131 hS (fun nf7 nf7e nf7s => ?_)
        refine r_ex hX hP 1 (pc' := 33) (st' := [(0, l1_h2), (2, nf7), (0, x6), (0, (af3 - sf4))]) (lo' := [(0, (2, this)), (1, (0, l1_h2))]) rfl ?_
        refine r_iald hX hP rfl al_107 nf7s (by omega) (by omega) (fun x8 x8e x8a x8b => ?_)
        refine r_ex hX hP 1 (pc' := 35) (st' := [(0, (x6 - x8)), (0, (af3 - sf4))]) (lo' := [(0, (2, this)), (1, (0, l1_h2))]) rfl ?_
        refine r_ic_ne hX hP rfl (tgt := 42) rfl (by omega) (by omega) (by omega) (by omega) (fun c9 => ?_) (fun c9 => ?_)
        · skip
          refine r_ex hX hP 4 (pc' := 46) (st' := []) (lo' := [(0, (2, this)), (1, (0, l1_h2)), (2, (0, 0)), (3, (0, 0))]) rfl ?_
          have x102 : ∀ (l2_x102 l3_x102 : Int), 0 ≤ l2_x102 → l2_x102 ≤ 1 → 0 ≤ l3_x102 → l3_x102 ≤ 400 → (l2_x102 = 0 ∨ af3 - sf4 = x6 - x8) → X 0 0 102 [] [(0, (2, this)), (1, (0, l1_h2)), (2, (0, l2_x102)), (3, (0, l3_x102))] S G := by
            intro l2_x102 l3_x102 yx102_0 yx102_1 yx102_2 yx102_3 yx102_4
            refine r_ex hX hP 1 (pc' := 103) (st' := [(0, l2_x102)]) (lo' := [(0, (2, this)), (1, (0, l1_h2)), (2, (0, l2_x102)), (3, (0, l3_x102))]) rfl ?_
            refine r_if_eq hX hP rfl (tgt := 108) rfl (by omega) (by omega) (fun c10 => ?_) (fun c10 => ?_)
            · skip
              refine r_ex hX hP 2 (pc' := 2) (st' := []) (lo' := [(0, (2, this)), (1, (0, (l1_h2 + 1))), (2, (0, l2_x102)), (3, (0, l3_x102))]) rfl ?_
              refine r_pick hX [0, 1] (lo' := [(0, (2, this)), (1, (0, (l1_h2 + 1)))]) rfl ?_
              exact ih2 (l1_h2 + 1) (by omega) (by omega) (by omega)
            · skip
              refine r_ex hX hP 1 (pc' := 107) (st' := [(0, l1_h2)]) (lo' := [(0, (2, this)), (1, (0, l1_h2)), (2, (0, l2_x102)), (3, (0, l3_x102))]) rfl ?_
              exact r_retI hX hP rfl rfl (by omega) (by omega) ⟨rfl, rfl, l1_h2, rfl, (by omega)⟩
          have loop46 : ∀ (nF : Nat) (l2_h46 l3_h46 : Int), 0 ≤ l2_h46 → l2_h46 ≤ 1 → 0 ≤ l3_h46 → l3_h46 ≤ 400 → (l2_h46 = 0 ∨ af3 - sf4 = x6 - x8) → 400 - l3_h46 < (nF : Int) → X 0 0 46 [] [(0, (2, this)), (1, (0, l1_h2)), (2, (0, l2_h46)), (3, (0, l3_h46))] S G := by
            intro nF
            induction nF with
            | zero => intro l2_h46 l3_h46 yh46_0 yh46_1 yh46_2 yh46_3 yh46_4 ym46; exfalso; omega
            | succ nF ih46 =>
              intro l2_h46 l3_h46 yh46_0 yh46_1 yh46_2 yh46_3 yh46_4 ym46
              refine r_ex hX hP 1 (pc' := 47) (st' := [(0, l2_h46)]) (lo' := [(0, (2, this)), (1, (0, l1_h2)), (2, (0, l2_h46)), (3, (0, l3_h46))]) rfl ?_
              refine r_if_eq hX hP rfl (tgt := 102) rfl (by omega) (by omega) (fun c11 => ?_) (fun c11 => ?_)
              · skip
                exact x102 l2_h46 l3_h46 (by omega) (by omega) (by omega) (by omega) (by omega)
              · skip
                refine r_ex hX hP 2 (pc' := 52) (st' := [(2, this), (0, l3_h46)]) (lo' := [(0, (2, this)), (1, (0, l1_h2)), (2, (0, l2_h46)), (3, (0, l3_h46))]) rfl ?_
                refine r_getKI hX hP rfl fl_X6_67_131 hS (x := af3) af3e ?_
                refine r_ex hX hP 1 (pc' := 56) (st' := [(2, this), (0, af3), (0, l3_h46)]) (lo' := [(0, (2, this)), (1, (0, l1_h2)), (2, (0, l2_h46)), (3, (0, l3_h46))]) rfl ?_
                refine r_getKI hX hP rfl fl_X6_83_131 hS (x := sf4) sf4e ?_
                refine r_ex hX hP 1 (pc' := 60) (st' := [(0, (af3 - sf4)), (0, l3_h46)]) (lo' := [(0, (2, this)), (1, (0, l1_h2)), (2, (0, l2_h46)), (3, (0, l3_h46))]) rfl ?_
                refine r_ic_ge hX hP rfl (tgt := 102) rfl (by omega) (by omega) (by omega) (by omega) (fun c12 => ?_) (fun c12 => ?_)
                · skip
                  exact x102 l2_h46 l3_h46 (by omega) (by omega) (by omega) (by omega) (by omega)
                · skip
                  refine r_ex hX hP 1 (pc' := 64) (st' := [(2, this)]) (lo' := [(0, (2, this)), (1, (0, l1_h2)), (2, (0, l2_h46)), (3, (0, l3_h46))]) rfl ?_
                  refine r_getR hX hP rfl fl_X6_18_131 hS (fun tf13 tf13e tf13s => ?_)
                  refine r_ex hX hP 1 (pc' := 68) (st' := [(2, this), (2, tf13)]) (lo' := [(0, (2, this)), (1, (0, l1_h2)), (2, (0, l2_h46)), (3, (0, l3_h46))]) rfl ?_
                  refine r_getKI hX hP rfl fl_X6_83_131 hS (x := sf4) sf4e ?_
                  refine r_ex hX hP 2 (pc' := 73) (st' := [(0, (sf4 + l3_h46)), (2, tf13)]) (lo' := [(0, (2, this)), (1, (0, l1_h2)), (2, (0, l2_h46)), (3, (0, l3_h46))]) rfl ?_
                  refine r_iald hX hP rfl al_105 tf13s (by omega) (by omega) (fun x14 x14e x14a x14b => ?_)
                  refine r_ex hX hP 1 (pc' := 75) (st' := [(2, this), (0, x14)]) (lo' := [(0, (2, this)), (1, (0, l1_h2)), (2, (0, l2_h46)), (3, (0, l3_h46))]) rfl ?_
                  refine r_getKR hX hP rfl fl_X6_18_131 hS (x := tf13) tf13e ?_
                  refine r_ex hX hP 1 (pc' := 79) (st' := [(2, this), (2, tf13), (0, x14)]) (lo' := [(0, (2, this)), (1, (0, l1_h2)), (2, (0, l2_h46)), (3, (0, l3_h46))]) rfl ?_
                  refine r_getKR hX hP rfl fl_X6_25_131 hS (x := nf7) nf7e ?_
                  refine r_ex hX hP 1 (pc' := 83) (st' := [(0, l1_h2), (2, nf7), (2, tf13), (0, x14)]) (lo' := [(0, (2, this)), (1, (0, l1_h2)), (2, (0, l2_h46)), (3, (0, l3_h46))]) rfl ?_
                  refine r_ialdK hX hP rfl al_107 nf7s (by omega) (by omega) (x := x8) x8e ?_
                  refine r_ex hX hP 2 (pc' := 86) (st' := [(0, (x8 + l3_h46)), (2, tf13), (0, x14)]) (lo' := [(0, (2, this)), (1, (0, l1_h2)), (2, (0, l2_h46)), (3, (0, l3_h46))]) rfl ?_
                  refine r_iald hX hP rfl al_105 tf13s (by omega) (by omega) (fun x15 x15e x15a x15b => ?_)
                  refine r_ic_ne hX hP rfl (tgt := 94) rfl (by omega) (by omega) (by omega) (by omega) (fun c16 => ?_) (fun c16 => ?_)
                  · skip
                    refine r_ex hX hP 4 (pc' := 46) (st' := []) (lo' := [(0, (2, this)), (1, (0, l1_h2)), (2, (0, 0)), (3, (0, (l3_h46 + 1)))]) rfl ?_
                    exact ih46 0 (l3_h46 + 1) (by omega) (by omega) (by omega) (by omega) (by omega) (by omega)
                  · skip
                    refine r_ex hX hP 5 (pc' := 46) (st' := []) (lo' := [(0, (2, this)), (1, (0, l1_h2)), (2, (0, 1)), (3, (0, (l3_h46 + 1)))]) rfl ?_
                    exact ih46 1 (l3_h46 + 1) (by omega) (by omega) (by omega) (by omega) (by omega) (by omega)
          exact loop46 ((400 - 0) + 1 : Int).toNat 0 0 (by omega) (by omega) (by omega) (by omega) (by omega) (by omega)
        · skip
          refine r_ex hX hP 5 (pc' := 46) (st' := []) (lo' := [(0, (2, this)), (1, (0, l1_h2)), (2, (0, 1)), (3, (0, 0))]) rfl ?_
          have x102 : ∀ (l2_x102 l3_x102 : Int), 0 ≤ l2_x102 → l2_x102 ≤ 1 → 0 ≤ l3_x102 → l3_x102 ≤ 400 → (l2_x102 = 0 ∨ af3 - sf4 = x6 - x8) → X 0 0 102 [] [(0, (2, this)), (1, (0, l1_h2)), (2, (0, l2_x102)), (3, (0, l3_x102))] S G := by
            intro l2_x102 l3_x102 yx102_0 yx102_1 yx102_2 yx102_3 yx102_4
            refine r_ex hX hP 1 (pc' := 103) (st' := [(0, l2_x102)]) (lo' := [(0, (2, this)), (1, (0, l1_h2)), (2, (0, l2_x102)), (3, (0, l3_x102))]) rfl ?_
            refine r_if_eq hX hP rfl (tgt := 108) rfl (by omega) (by omega) (fun c17 => ?_) (fun c17 => ?_)
            · skip
              refine r_ex hX hP 2 (pc' := 2) (st' := []) (lo' := [(0, (2, this)), (1, (0, (l1_h2 + 1))), (2, (0, l2_x102)), (3, (0, l3_x102))]) rfl ?_
              refine r_pick hX [0, 1] (lo' := [(0, (2, this)), (1, (0, (l1_h2 + 1)))]) rfl ?_
              exact ih2 (l1_h2 + 1) (by omega) (by omega) (by omega)
            · skip
              refine r_ex hX hP 1 (pc' := 107) (st' := [(0, l1_h2)]) (lo' := [(0, (2, this)), (1, (0, l1_h2)), (2, (0, l2_x102)), (3, (0, l3_x102))]) rfl ?_
              exact r_retI hX hP rfl rfl (by omega) (by omega) ⟨rfl, rfl, l1_h2, rfl, (by omega)⟩
          have loop46 : ∀ (nF : Nat) (l2_h46 l3_h46 : Int), 0 ≤ l2_h46 → l2_h46 ≤ 1 → 0 ≤ l3_h46 → l3_h46 ≤ 400 → (l2_h46 = 0 ∨ af3 - sf4 = x6 - x8) → 400 - l3_h46 < (nF : Int) → X 0 0 46 [] [(0, (2, this)), (1, (0, l1_h2)), (2, (0, l2_h46)), (3, (0, l3_h46))] S G := by
            intro nF
            induction nF with
            | zero => intro l2_h46 l3_h46 yh46_0 yh46_1 yh46_2 yh46_3 yh46_4 ym46; exfalso; omega
            | succ nF ih46 =>
              intro l2_h46 l3_h46 yh46_0 yh46_1 yh46_2 yh46_3 yh46_4 ym46
              refine r_ex hX hP 1 (pc' := 47) (st' := [(0, l2_h46)]) (lo' := [(0, (2, this)), (1, (0, l1_h2)), (2, (0, l2_h46)), (3, (0, l3_h46))]) rfl ?_
              refine r_if_eq hX hP rfl (tgt := 102) rfl (by omega) (by omega) (fun c18 => ?_) (fun c18 => ?_)
              · skip
                exact x102 l2_h46 l3_h46 (by omega) (by omega) (by omega) (by omega) (by omega)
              · skip
                refine r_ex hX hP 2 (pc' := 52) (st' := [(2, this), (0, l3_h46)]) (lo' := [(0, (2, this)), (1, (0, l1_h2)), (2, (0, l2_h46)), (3, (0, l3_h46))]) rfl ?_
                refine r_getKI hX hP rfl fl_X6_67_131 hS (x := af3) af3e ?_
                refine r_ex hX hP 1 (pc' := 56) (st' := [(2, this), (0, af3), (0, l3_h46)]) (lo' := [(0, (2, this)), (1, (0, l1_h2)), (2, (0, l2_h46)), (3, (0, l3_h46))]) rfl ?_
                refine r_getKI hX hP rfl fl_X6_83_131 hS (x := sf4) sf4e ?_
                refine r_ex hX hP 1 (pc' := 60) (st' := [(0, (af3 - sf4)), (0, l3_h46)]) (lo' := [(0, (2, this)), (1, (0, l1_h2)), (2, (0, l2_h46)), (3, (0, l3_h46))]) rfl ?_
                refine r_ic_ge hX hP rfl (tgt := 102) rfl (by omega) (by omega) (by omega) (by omega) (fun c19 => ?_) (fun c19 => ?_)
                · skip
                  exact x102 l2_h46 l3_h46 (by omega) (by omega) (by omega) (by omega) (by omega)
                · skip
                  refine r_ex hX hP 1 (pc' := 64) (st' := [(2, this)]) (lo' := [(0, (2, this)), (1, (0, l1_h2)), (2, (0, l2_h46)), (3, (0, l3_h46))]) rfl ?_
                  refine r_getR hX hP rfl fl_X6_18_131 hS (fun tf20 tf20e tf20s => ?_)
                  refine r_ex hX hP 1 (pc' := 68) (st' := [(2, this), (2, tf20)]) (lo' := [(0, (2, this)), (1, (0, l1_h2)), (2, (0, l2_h46)), (3, (0, l3_h46))]) rfl ?_
                  refine r_getKI hX hP rfl fl_X6_83_131 hS (x := sf4) sf4e ?_
                  refine r_ex hX hP 2 (pc' := 73) (st' := [(0, (sf4 + l3_h46)), (2, tf20)]) (lo' := [(0, (2, this)), (1, (0, l1_h2)), (2, (0, l2_h46)), (3, (0, l3_h46))]) rfl ?_
                  refine r_iald hX hP rfl al_105 tf20s (by omega) (by omega) (fun x21 x21e x21a x21b => ?_)
                  refine r_ex hX hP 1 (pc' := 75) (st' := [(2, this), (0, x21)]) (lo' := [(0, (2, this)), (1, (0, l1_h2)), (2, (0, l2_h46)), (3, (0, l3_h46))]) rfl ?_
                  refine r_getKR hX hP rfl fl_X6_18_131 hS (x := tf20) tf20e ?_
                  refine r_ex hX hP 1 (pc' := 79) (st' := [(2, this), (2, tf20), (0, x21)]) (lo' := [(0, (2, this)), (1, (0, l1_h2)), (2, (0, l2_h46)), (3, (0, l3_h46))]) rfl ?_
                  refine r_getKR hX hP rfl fl_X6_25_131 hS (x := nf7) nf7e ?_
                  refine r_ex hX hP 1 (pc' := 83) (st' := [(0, l1_h2), (2, nf7), (2, tf20), (0, x21)]) (lo' := [(0, (2, this)), (1, (0, l1_h2)), (2, (0, l2_h46)), (3, (0, l3_h46))]) rfl ?_
                  refine r_ialdK hX hP rfl al_107 nf7s (by omega) (by omega) (x := x8) x8e ?_
                  refine r_ex hX hP 2 (pc' := 86) (st' := [(0, (x8 + l3_h46)), (2, tf20), (0, x21)]) (lo' := [(0, (2, this)), (1, (0, l1_h2)), (2, (0, l2_h46)), (3, (0, l3_h46))]) rfl ?_
                  refine r_iald hX hP rfl al_105 tf20s (by omega) (by omega) (fun x22 x22e x22a x22b => ?_)
                  refine r_ic_ne hX hP rfl (tgt := 94) rfl (by omega) (by omega) (by omega) (by omega) (fun c23 => ?_) (fun c23 => ?_)
                  · skip
                    refine r_ex hX hP 4 (pc' := 46) (st' := []) (lo' := [(0, (2, this)), (1, (0, l1_h2)), (2, (0, 0)), (3, (0, (l3_h46 + 1)))]) rfl ?_
                    exact ih46 0 (l3_h46 + 1) (by omega) (by omega) (by omega) (by omega) (by omega) (by omega)
                  · skip
                    refine r_ex hX hP 5 (pc' := 46) (st' := []) (lo' := [(0, (2, this)), (1, (0, l1_h2)), (2, (0, 1)), (3, (0, (l3_h46 + 1)))]) rfl ?_
                    exact ih46 1 (l3_h46 + 1) (by omega) (by omega) (by omega) (by omega) (by omega) (by omega)
          exact loop46 ((400 - 0) + 1 : Int).toNat 1 0 (by omega) (by omega) (by omega) (by omega) (by omega) (by omega)
  exact loop2 ((3 - 0) + 1 : Int).toNat 0 (by omega) (by omega) (by omega)
set_option maxRecDepth 100000 in
set_option maxHeartbeats 4000000 in
theorem c_X6_choice (E : En) (S : Sg) (G : Gh) (this : Int) (hS : S this = 131) (tx : Int) (tx_e : tx = G 131 this 9) (tx_s : S tx = 136) : Calls E mX6_choice [(2, this)] S G 4 0 0 (fun r S' G' => S = S' ∧ (∃ G1, hw [(106, -1), (107, -1), (131, 1), (131, 2), (131, 5), (131, 6), (131, 7), (131, 8), (131, 11), (136, 1)] G G1 = G') ∧ r = none ∧ True) := by
  refine calls_by [(0, (2, this))] rfl rfl (Nat.le_of_ble_eq_true rfl) (fun X hX => ?_)
  have hP := hPX6_choice
  refine r_ex hX hP 1 (pc' := 1) (st' := [(2, this)]) (lo' := [(0, (2, this))]) rfl ?_
  refine r_callV gd hX hP rfl cv_X6_223_131 hS (d' := 2) (mc' := 0) (ms' := 0) (as' := []) (st := []) (by omega) (by omega) (by omega) rfl rfl (Nat.le_of_ble_eq_true rfl) (c_X6_isName E S G this  hS) ?_
  rintro _ _ _ ⟨rfl, ⟨G1, rfl⟩, z2, rfl, z2a, z2b⟩
  refine r_if_ne hX hP rfl (tgt := 8) rfl (by omega) (by omega) (fun c3 => ?_) (fun c3 => ?_)
  · skip
    refine r_ex hX hP 1 (pc' := 9) (st' := [(2, this)]) (lo' := [(0, (2, this))]) rfl ?_
    refine r_getKN hX hP rfl fl_X6_54_131 hS (x := tx) tx_e ?_
    refine r_getI hX hP rfl fl_X6_173_136 tx_s (fun cf4 cf4e cf4a cf4b => ?_)
    refine r_ex hX hP 3 (pc' := 18) (st' := [(0, 3), (0, cf4)]) (lo' := [(0, (2, this)), (1, (0, cf4))]) rfl ?_
    refine r_ic_lt hX hP rfl (tgt := 30) rfl (by omega) (by omega) (by omega) (by omega) (fun c5 => ?_) (fun c5 => ?_)
    · skip
      refine r_ex hX hP 1 (pc' := 31) (st' := [(2, this)]) (lo' := [(0, (2, this)), (1, (0, cf4))]) rfl ?_
      refine r_callV gd hX hP rfl cv_X6_227_131 hS (d' := 0) (mc' := 0) (ms' := 0) (as' := []) (st := []) (by omega) (by omega) (by omega) rfl rfl (Nat.le_of_ble_eq_true rfl) (c_X6_named E S (hw [(131, 1), (131, 2)] G G1) this  hS tx tx_e tx_s) ?_
      rintro _ _ _ ⟨rfl, rfl, z6, rfl, z6a, z6b⟩
      refine r_ex hX hP 1 (pc' := 35) (st' := [(0, (-1)), (0, z6)]) (lo' := [(0, (2, this)), (1, (0, cf4))]) rfl ?_
      refine r_ic_eq hX hP rfl (tgt := 47) rfl (by omega) (by omega) (by omega) (by omega) (fun c7 => ?_) (fun c7 => ?_)
      · skip
        refine r_ex hX hP 1 (pc' := 48) (st' := [(2, this)]) (lo' := [(0, (2, this)), (1, (0, cf4))]) rfl ?_
        refine r_getR hX hP rfl fl_X6_25_131 hS (fun nf8 nf8e nf8s => ?_)
        refine r_ex hX hP 2 (pc' := 53) (st' := [(2, this), (0, cf4), (2, nf8)]) (lo' := [(0, (2, this)), (1, (0, cf4))]) rfl ?_
        refine r_getI hX hP rfl fl_X6_83_131 hS (fun sf9 sf9e sf9a sf9b => ?_)
        refine r_iastK hX hP rfl al_107 nf8s (by omega) (by omega) (by omega) (by omega) (fun h10 => ?_)
        refine r_ex hX hP 1 (pc' := 58) (st' := [(2, this)]) (lo' := [(0, (2, this)), (1, (0, cf4))]) rfl ?_
        refine r_getR hX hP rfl fl_X6_28_131 hS (fun nf11 nf11e nf11s => ?_)
        refine r_ex hX hP 2 (pc' := 63) (st' := [(2, this), (0, cf4), (2, nf11)]) (lo' := [(0, (2, this)), (1, (0, cf4))]) rfl ?_
        refine r_getI hX hP rfl fl_X6_67_131 hS (fun af12 af12e af12a af12b => ?_)
        refine r_iastK hX hP rfl al_107 nf11s (by omega) (by omega) (by omega) (by omega) (fun h13 => ?_)
        refine r_ex hX hP 1 (pc' := 68) (st' := [(2, this)]) (lo' := [(0, (2, this)), (1, (0, cf4))]) rfl ?_
        refine r_getKN hX hP rfl fl_X6_54_131 hS (x := tx) tx_e ?_
        refine r_ex hX hP 1 (pc' := 72) (st' := [(2, tx), (2, tx)]) (lo' := [(0, (2, this)), (1, (0, cf4))]) rfl ?_
        refine r_getKI hX hP rfl fl_X6_173_136 tx_s (x := cf4) cf4e ?_
        refine r_ex hX hP 2 (pc' := 77) (st' := [(0, (cf4 + 1)), (2, tx)]) (lo' := [(0, (2, this)), (1, (0, cf4))]) rfl ?_
        refine r_putIK hX hP rfl fp_X6_173_136 tx_s (by omega) (by omega) (fun h14 => ?_)
        refine r_ex hX hP 1 (pc' := 81) (st' := [(2, this)]) (lo' := [(0, (2, this)), (1, (0, cf4))]) rfl ?_
        refine r_callV gd hX hP rfl cv_X6_80_131 hS (d' := 1) (mc' := 0) (ms' := 0) (as' := []) (st := []) (by omega) (by omega) (by omega) rfl rfl (Nat.le_of_ble_eq_true rfl) (c_X6_advance E S (up (up (up (hw [(131, 1), (131, 2)] G G1) 107 nf8 cf4 sf9) 107 nf11 cf4 af12) 136 tx 1 (cf4 + 1)) this  hS) ?_
        rintro _ _ _ ⟨rfl, ⟨G15, rfl⟩, rfl, -⟩
        refine r_ex hX hP 2 (pc' := 86) (st' := [(0, (-1)), (2, this)]) (lo' := [(0, (2, this)), (1, (0, cf4))]) rfl ?_
        refine r_callV gd hX hP rfl cv_X6_113_131 hS (d' := 3) (mc' := 0) (ms' := 0) (as' := [(0, (-1))]) (st := []) (by omega) (by omega) (by omega) rfl rfl (Nat.le_of_ble_eq_true rfl) (c_X6_push E S (hw [(131, 5), (131, 6), (131, 7), (131, 8)] (up (up (up (hw [(131, 1), (131, 2)] G G1) 107 nf8 cf4 sf9) 107 nf11 cf4 af12) 136 tx 1 (cf4 + 1)) G15) this (-1) hS (by omega) (by omega)) ?_
        rintro _ _ _ ⟨rfl, ⟨G16, rfl⟩, rfl, -⟩
        exact r_retV hX hP rfl rfl (by omega) (by omega) ⟨rfl, ⟨_, (hw_sub (hw_sub (hw_up (hw_up (hw_up (hw_sub (hw_refl _ _) rfl) rfl) rfl) rfl) rfl) rfl).symm⟩, rfl, trivial⟩
      · skip
        refine r_ex hX hP 2 (pc' := 40) (st' := [(0, 5), (2, this)]) (lo' := [(0, (2, this)), (1, (0, cf4))]) rfl ?_
        refine r_callV gd hX hP rfl cv_X6_44_131 hS (d' := 0) (mc' := 0) (ms' := 0) (as' := [(0, 5)]) (st := []) (by omega) (by omega) (by omega) rfl rfl (Nat.le_of_ble_eq_true rfl) (c_X6_fail E S (hw [(131, 1), (131, 2)] G G1) this 5 hS (by omega) (by omega)) ?_
        rintro _ _ _ ⟨rfl, ⟨G17, rfl⟩, z18, rfl, flh19, flh19e, rfl, f20⟩
        refine r_peekI hX (tl_131 1 rfl (by decide)) hS (fun o21 o21e o21a o21b => ?_)
        obtain rfl : flh19 = o21 := flh19e.trans o21e.symm
        refine r_ex hX hP 2 (pc' := 89) (st' := []) (lo' := [(0, (2, this)), (1, (0, cf4))]) rfl ?_
        exact r_retV hX hP rfl rfl (by omega) (by omega) ⟨rfl, ⟨_, (hw_sub (hw_sub (hw_refl _ _) rfl) rfl).symm⟩, rfl, trivial⟩
    · skip
      refine r_ex hX hP 2 (pc' := 23) (st' := [(0, 3), (2, this)]) (lo' := [(0, (2, this)), (1, (0, cf4))]) rfl ?_
      refine r_callV gd hX hP rfl cv_X6_44_131 hS (d' := 0) (mc' := 0) (ms' := 0) (as' := [(0, 3)]) (st := []) (by omega) (by omega) (by omega) rfl rfl (Nat.le_of_ble_eq_true rfl) (c_X6_fail E S (hw [(131, 1), (131, 2)] G G1) this 3 hS (by omega) (by omega)) ?_
      rintro _ _ _ ⟨rfl, ⟨G22, rfl⟩, z23, rfl, flh24, flh24e, rfl, f25⟩
      refine r_peekI hX (tl_131 1 rfl (by decide)) hS (fun o26 o26e o26a o26b => ?_)
      obtain rfl : flh24 = o26 := flh24e.trans o26e.symm
      refine r_ex hX hP 2 (pc' := 89) (st' := []) (lo' := [(0, (2, this)), (1, (0, cf4))]) rfl ?_
      exact r_retV hX hP rfl rfl (by omega) (by omega) ⟨rfl, ⟨_, (hw_sub (hw_sub (hw_refl _ _) rfl) rfl).symm⟩, rfl, trivial⟩
  · skip
    exact r_retV hX hP rfl rfl (by omega) (by omega) ⟨rfl, ⟨_, (hw_sub (hw_refl _ _) rfl).symm⟩, rfl, trivial⟩
set_option maxRecDepth 100000 in
set_option maxHeartbeats 4000000 in
theorem c_X6_fallback (E : En) (S : Sg) (G : Gh) (this : Int) (hS : S this = 131) (tx : Int) (tx_e : tx = G 131 this 9) (tx_s : S tx = 136) : Calls E mX6_fallback [(2, this)] S G 3 0 0 (fun r S' G' => S = S' ∧ (∃ G1, hw [(131, 1), (131, 2), (131, 5), (131, 6), (131, 7), (131, 8), (136, 2)] G G1 = G') ∧ r = none ∧ True) := by
  refine calls_by [(0, (2, this))] rfl rfl (Nat.le_of_ble_eq_true rfl) (fun X hX => ?_)
  have hP := hPX6_fallback
  refine r_ex hX hP 1 (pc' := 1) (st' := [(2, this)]) (lo' := [(0, (2, this))]) rfl ?_
  refine r_callV gd hX hP rfl cv_X6_223_131 hS (d' := 2) (mc' := 0) (ms' := 0) (as' := []) (st := []) (by omega) (by omega) (by omega) rfl rfl (Nat.le_of_ble_eq_true rfl) (c_X6_isName E S G this  hS) ?_
  rintro _ _ _ ⟨rfl, ⟨G1, rfl⟩, z2, rfl, z2a, z2b⟩
  refine r_if_ne hX hP rfl (tgt := 8) rfl (by omega) (by omega) (fun c3 => ?_) (fun c3 => ?_)
  · skip
    refine r_ex hX hP 1 (pc' := 9) (st' := [(2, this)]) (lo' := [(0, (2, this))]) rfl ?_
    refine r_callV gd hX hP rfl cv_X6_227_131 hS (d' := 0) (mc' := 0) (ms' := 0) (as' := []) (st := []) (by omega) (by omega) (by omega) rfl rfl (Nat.le_of_ble_eq_true rfl) (c_X6_named E S (hw [(131, 1), (131, 2)] G G1) this  hS tx tx_e tx_s) ?_
    rintro _ _ _ ⟨rfl, rfl, z4, rfl, z4a, z4b⟩
    refine r_ex hX hP 3 (pc' := 15) (st' := [(0, (-1)), (0, z4)]) (lo' := [(0, (2, this)), (1, (0, z4))]) rfl ?_
    refine r_ic_ne hX hP rfl (tgt := 25) rfl (by omega) (by omega) (by omega) (by omega) (fun c5 => ?_) (fun c5 => ?_)
    · skip
      refine r_ex hX hP 1 (pc' := 26) (st' := [(2, this)]) (lo' := [(0, (2, this)), (1, (0, z4))]) rfl ?_
      refine r_getKN hX hP rfl fl_X6_54_131 hS (x := tx) tx_e ?_
      refine r_ex hX hP 1 (pc' := 30) (st' := [(0, z4), (2, tx)]) (lo' := [(0, (2, this)), (1, (0, z4))]) rfl ?_
      refine r_putIK hX hP rfl fp_X6_163_136 tx_s (by omega) (by omega) (fun h6 => ?_)
      refine r_ex hX hP 1 (pc' := 34) (st' := [(2, this)]) (lo' := [(0, (2, this)), (1, (0, z4))]) rfl ?_
      refine r_callV gd hX hP rfl cv_X6_80_131 hS (d' := 1) (mc' := 0) (ms' := 0) (as' := []) (st := []) (by omega) (by omega) (by omega) rfl rfl (Nat.le_of_ble_eq_true rfl) (c_X6_advance E S (up (hw [(131, 1), (131, 2)] G G1) 136 tx 2 z4) this  hS) ?_
      rintro _ _ _ ⟨rfl, ⟨G7, rfl⟩, rfl, -⟩
      refine r_ex hX hP 2 (pc' := 40) (st' := [(0, 59), (2, this)]) (lo' := [(0, (2, this)), (1, (0, z4))]) rfl ?_
      refine r_peekI hX (tl_131 1 rfl (by decide)) hS (fun flp8 flp8e flp8a flp8b => ?_)
      refine r_callV gd hX hP rfl cv_X6_116_131 hS (d' := 2) (mc' := 0) (ms' := 0) (as' := [(0, 59)]) (st := []) (by omega) (by omega) (by omega) rfl rfl (Nat.le_of_ble_eq_true rfl) (c_X6_sign E S (hw [(131, 5), (131, 6), (131, 7), (131, 8)] (up (hw [(131, 1), (131, 2)] G G1) 136 tx 2 z4) G7) this 59 hS flp8 flp8e (by omega) (by omega)) ?_
      rintro _ _ _ ⟨rfl, ⟨G9, rfl⟩, z10, rfl, flh11, flh11e, z10a, z10b, f12⟩
      refine r_peekI hX (tl_131 1 rfl (by decide)) hS (fun o13 o13e o13a o13b => ?_)
      obtain rfl : flh11 = o13 := flh11e.trans o13e.symm
      refine r_ex hX hP 1 (pc' := 44) (st' := []) (lo' := [(0, (2, this)), (1, (0, z4))]) rfl ?_
      exact r_retV hX hP rfl rfl (by omega) (by omega) ⟨rfl, ⟨_, (hw_sub (hw_sub (hw_up (hw_sub (hw_refl _ _) rfl) rfl) rfl) rfl).symm⟩, rfl, trivial⟩
    · skip
      refine r_ex hX hP 2 (pc' := 20) (st' := [(0, 5), (2, this)]) (lo' := [(0, (2, this)), (1, (0, z4))]) rfl ?_
      refine r_callV gd hX hP rfl cv_X6_44_131 hS (d' := 0) (mc' := 0) (ms' := 0) (as' := [(0, 5)]) (st := []) (by omega) (by omega) (by omega) rfl rfl (Nat.le_of_ble_eq_true rfl) (c_X6_fail E S (hw [(131, 1), (131, 2)] G G1) this 5 hS (by omega) (by omega)) ?_
      rintro _ _ _ ⟨rfl, ⟨G14, rfl⟩, z15, rfl, flh16, flh16e, rfl, f17⟩
      refine r_peekI hX (tl_131 1 rfl (by decide)) hS (fun o18 o18e o18a o18b => ?_)
      obtain rfl : flh16 = o18 := flh16e.trans o18e.symm
      refine r_ex hX hP 1 (pc' := 24) (st' := []) (lo' := [(0, (2, this)), (1, (0, z4))]) rfl ?_
      exact r_retV hX hP rfl rfl (by omega) (by omega) ⟨rfl, ⟨_, (hw_sub (hw_sub (hw_refl _ _) rfl) rfl).symm⟩, rfl, trivial⟩
  · skip
    exact r_retV hX hP rfl rfl (by omega) (by omega) ⟨rfl, ⟨_, (hw_sub (hw_refl _ _) rfl).symm⟩, rfl, trivial⟩
set_option maxRecDepth 100000 in
set_option maxHeartbeats 4000000 in
theorem c_X6_most (E : En) (S : Sg) (G : Gh) (this : Int) (hS : S this = 131) (tx : Int) (tx_e : tx = G 131 this 9) (tx_s : S tx = 136) : Calls E mX6_most [(2, this)] S G 6 0 0 (fun r S' G' => S = S' ∧ (∃ G1, hw [(124, -1), (131, 1), (131, 2), (131, 5), (131, 6), (131, 7), (131, 8)] G G1 = G') ∧ r = none ∧ True) := by
  refine calls_by [(0, (2, this))] rfl rfl (Nat.le_of_ble_eq_true rfl) (fun X hX => ?_)
  have hP := hPX6_most
  refine r_ex hX hP 1 (pc' := 1) (st' := [(2, this)]) (lo' := [(0, (2, this))]) rfl ?_
  refine r_callV gd hX hP rfl cv_X6_168_131 hS (d' := 0) (mc' := 0) (ms' := 0) (as' := []) (st := []) (by omega) (by omega) (by omega) rfl rfl (Nat.le_of_ble_eq_true rfl) (c_X6_row E S G this  hS tx tx_e tx_s) ?_
  rintro _ _ _ ⟨rfl, rfl, z1, rfl, z1a, z1b⟩
  refine r_ex hX hP 3 (pc' := 7) (st' := [(0, 0), (2, this)]) (lo' := [(0, (2, this)), (1, (0, z1))]) rfl ?_
  refine r_ldc hX hP rfl (v := 9999999) (tbg sg4 166 rfl rfl) ?_
  refine r_peekI hX (tl_131 1 rfl (by decide)) hS (fun flp2 flp2e flp2a flp2b => ?_)
  refine r_callV gd hX hP rfl cv_X6_196_131 hS (d' := 2) (mc' := 0) (ms' := 0) (as' := [(0, 0), (0, 9999999)]) (st := []) (by omega) (by omega) (by omega) rfl rfl (Nat.le_of_ble_eq_true rfl) (c_X6_number E S G this 0 9999999 hS flp2 flp2e (by omega) (by omega) (by omega) (by omega)) ?_
  rintro _ _ _ ⟨rfl, ⟨G3, rfl⟩, z4, rfl, flh5, flh5e, (⟨rfl, f6⟩ | ⟨z4a, z4b, f7, f8, f9, f10⟩)⟩
  · skip
    refine r_peekI hX (tl_131 1 rfl (by decide)) hS (fun o11 o11e o11a o11b => ?_)
    obtain rfl : flh5 = o11 := flh5e.trans o11e.symm
    refine r_ex hX hP 5 (pc' := 17) (st' := [(0, 1), (2, this)]) (lo' := [(0, (2, this)), (1, (0, z1)), (2, (0, (-1))), (3, (0, (-1)))]) rfl ?_
    refine r_callV gd hX hP rfl cv_X6_95_131 hS (d' := 1) (mc' := 0) (ms' := 0) (as' := [(0, 1)]) (st := []) (by omega) (by omega) (by omega) rfl rfl (Nat.le_of_ble_eq_true rfl) (c_X6_expect E S (hw [(131, 1), (131, 2), (131, 5), (131, 6), (131, 7), (131, 8)] G G3) this 1 hS flh5 flh5e (by omega) (by omega)) ?_
    rintro _ _ _ ⟨rfl, ⟨G12, rfl⟩, z13, rfl, flh14, flh14e, (⟨rfl, f15, f16⟩ | ⟨rfl, f17⟩)⟩
    · skip
      refine r_peekI hX (tl_131 1 rfl (by decide)) hS (fun o18 o18e o18a o18b => ?_)
      obtain rfl : flh14 = o18 := flh14e.trans o18e.symm
      refine r_if_eq hX hP rfl (tgt := 47) rfl (by omega) (by omega) (fun c19 => ?_) (fun c19 => ?_)
      · skip
        exfalso; omega
      · skip
        refine r_ex hX hP 1 (pc' := 24) (st' := [(2, this)]) (lo' := [(0, (2, this)), (1, (0, z1)), (2, (0, (-1))), (3, (0, (-1)))]) rfl ?_
        refine r_ldcS hX hP rfl (k := 16) (by decide) rfl rfl ?_
        refine r_peekI hX (tl_131 5 rfl (by decide)) hS (fun atp20 atp20e atp20a atp20b => ?_)
        refine r_peekI hX (tl_131 7 rfl (by decide)) hS (fun stp21 stp21e stp21a stp21b => ?_)
        refine r_callV gd hX hP rfl cv_X6_98_131 hS (d' := 4) (mc' := 0) (ms' := 0) (as' := [(2, (sK E 16))]) (st := []) (by omega) (by omega) (by omega) rfl rfl (Nat.le_of_ble_eq_true rfl) (c_X6_is E S (hw [(131, 1), (131, 2)] (hw [(131, 1), (131, 2), (131, 5), (131, 6), (131, 7), (131, 8)] G G3) G12) this 16 hS (by decide) atp20 atp20e stp21 stp21e) ?_
        rintro _ _ _ ⟨rfl, rfl, z22, rfl, z22a, z22b⟩
        refine r_if_eq hX hP rfl (tgt := 47) rfl (by omega) (by omega) (fun c23 => ?_) (fun c23 => ?_)
        · skip
          refine r_ex hX hP 1 (pc' := 48) (st' := [(2, this)]) (lo' := [(0, (2, this)), (1, (0, z1)), (2, (0, (-1))), (3, (0, (-1)))]) rfl ?_
          refine r_ldcS hX hP rfl (k := 17) (by decide) rfl rfl ?_
          refine r_callV gd hX hP rfl cv_X6_202_131 hS (d' := 5) (mc' := 0) (ms' := 0) (as' := [(2, (sK E 17))]) (st := []) (by omega) (by omega) (by omega) rfl rfl (Nat.le_of_ble_eq_true rfl) (c_X6_keyword E S (hw [(131, 1), (131, 2)] (hw [(131, 1), (131, 2), (131, 5), (131, 6), (131, 7), (131, 8)] G G3) G12) this 17 hS (by decide) flh14 flh14e) ?_
          rintro _ _ _ ⟨rfl, ⟨G24, rfl⟩, rfl, flh25, flh25e, f26⟩
          refine r_peekI hX (tl_131 1 rfl (by decide)) hS (fun o27 o27e o27a o27b => ?_)
          obtain rfl : flh25 = o27 := flh25e.trans o27e.symm
          refine r_ex hX hP 2 (pc' := 56) (st' := [(0, 59), (2, this)]) (lo' := [(0, (2, this)), (1, (0, z1)), (2, (0, (-1))), (3, (0, (-1)))]) rfl ?_
          refine r_callV gd hX hP rfl cv_X6_116_131 hS (d' := 2) (mc' := 0) (ms' := 0) (as' := [(0, 59)]) (st := []) (by omega) (by omega) (by omega) rfl rfl (Nat.le_of_ble_eq_true rfl) (c_X6_sign E S (hw [(131, 1), (131, 2), (131, 5), (131, 6), (131, 7), (131, 8)] (hw [(131, 1), (131, 2)] (hw [(131, 1), (131, 2), (131, 5), (131, 6), (131, 7), (131, 8)] G G3) G12) G24) this 59 hS flh25 flh25e (by omega) (by omega)) ?_
          rintro _ _ _ ⟨rfl, ⟨G28, rfl⟩, z29, rfl, flh30, flh30e, z29a, z29b, f31⟩
          refine r_peekI hX (tl_131 1 rfl (by decide)) hS (fun o32 o32e o32a o32b => ?_)
          obtain rfl : flh30 = o32 := flh30e.trans o32e.symm
          refine r_ex hX hP 3 (pc' := 62) (st' := [(0, 3), (0, z1)]) (lo' := [(0, (2, this)), (1, (0, z1)), (2, (0, (-1))), (3, (0, (-1)))]) rfl ?_
          refine r_ic_eq hX hP rfl (tgt := 85) rfl (by omega) (by omega) (by omega) (by omega) (fun c33 => ?_) (fun c33 => ?_)
          · skip
            exact r_retV hX hP rfl rfl (by omega) (by omega) ⟨rfl, ⟨_, (hw_sub (hw_sub (hw_sub (hw_sub (hw_refl _ _) rfl) rfl) rfl) rfl).symm⟩, rfl, trivial⟩
          · skip
            refine r_ex hX hP 1 (pc' := 66) (st' := [(2, this)]) (lo' := [(0, (2, this)), (1, (0, z1)), (2, (0, (-1))), (3, (0, (-1)))]) rfl ?_
            refine r_getKN hX hP rfl fl_X6_54_131 hS (x := tx) tx_e ?_
            refine r_getR hX hP rfl fl_X6_171_136 tx_s (fun mf34 mf34e mf34s => ?_)
            refine r_ex hX hP 2 (pc' := 74) (st' := [(0, (-1)), (0, z1), (2, mf34)]) (lo' := [(0, (2, this)), (1, (0, z1)), (2, (0, (-1))), (3, (0, (-1)))]) rfl ?_
            refine r_iastK hX hP rfl al_124 mf34s (by omega) (by omega) (by omega) (by omega) (fun h35 => ?_)
            refine r_ex hX hP 1 (pc' := 76) (st' := [(2, this)]) (lo' := [(0, (2, this)), (1, (0, z1)), (2, (0, (-1))), (3, (0, (-1)))]) rfl ?_
            refine r_getKN hX hP rfl fl_X6_54_131 hS (x := tx) tx_e ?_
            refine r_getR hX hP rfl fl_X6_234_136 tx_s (fun sf36 sf36e sf36s => ?_)
            refine r_ex hX hP 2 (pc' := 84) (st' := [(0, (-1)), (0, z1), (2, sf36)]) (lo' := [(0, (2, this)), (1, (0, z1)), (2, (0, (-1))), (3, (0, (-1)))]) rfl ?_
            refine r_iastK hX hP rfl al_124 sf36s (by omega) (by omega) (by omega) (by omega) (fun h37 => ?_)
            exact r_retV hX hP rfl rfl (by omega) (by omega) ⟨rfl, ⟨_, (hw_up (hw_up (hw_sub (hw_sub (hw_sub (hw_sub (hw_refl _ _) rfl) rfl) rfl) rfl) rfl) rfl).symm⟩, rfl, trivial⟩
        · skip
          refine r_ex hX hP 1 (pc' := 33) (st' := [(2, this)]) (lo' := [(0, (2, this)), (1, (0, z1)), (2, (0, (-1))), (3, (0, (-1)))]) rfl ?_
          refine r_callV gd hX hP rfl cv_X6_80_131 hS (d' := 1) (mc' := 0) (ms' := 0) (as' := []) (st := []) (by omega) (by omega) (by omega) rfl rfl (Nat.le_of_ble_eq_true rfl) (c_X6_advance E S (hw [(131, 1), (131, 2)] (hw [(131, 1), (131, 2), (131, 5), (131, 6), (131, 7), (131, 8)] G G3) G12) this  hS) ?_
          rintro _ _ _ ⟨rfl, ⟨G38, rfl⟩, rfl, -⟩
          refine r_ex hX hP 2 (pc' := 38) (st' := [(0, 0), (2, this)]) (lo' := [(0, (2, this)), (1, (0, z1)), (2, (0, (-1))), (3, (0, (-1)))]) rfl ?_
          refine r_ldc hX hP rfl (v := 9999999) (tbg sg4 166 rfl rfl) ?_
          refine r_callV gd hX hP rfl cv_X6_196_131 hS (d' := 2) (mc' := 0) (ms' := 0) (as' := [(0, 0), (0, 9999999)]) (st := []) (by omega) (by omega) (by omega) rfl rfl (Nat.le_of_ble_eq_true rfl) (c_X6_number E S (hw [(131, 5), (131, 6), (131, 7), (131, 8)] (hw [(131, 1), (131, 2)] (hw [(131, 1), (131, 2), (131, 5), (131, 6), (131, 7), (131, 8)] G G3) G12) G38) this 0 9999999 hS flh14 flh14e (by omega) (by omega) (by omega) (by omega)) ?_
          rintro _ _ _ ⟨rfl, ⟨G39, rfl⟩, z40, rfl, flh41, flh41e, (⟨rfl, f42⟩ | ⟨z40a, z40b, f43, f44, f45, f46⟩)⟩
          · skip
            refine r_peekI hX (tl_131 1 rfl (by decide)) hS (fun o47 o47e o47a o47b => ?_)
            obtain rfl : flh41 = o47 := flh41e.trans o47e.symm
            refine r_ex hX hP 4 (pc' := 56) (st' := [(0, 59), (2, this)]) (lo' := [(0, (2, this)), (1, (0, z1)), (2, (0, (-1))), (3, (0, (-1)))]) rfl ?_
            refine r_callV gd hX hP rfl cv_X6_116_131 hS (d' := 2) (mc' := 0) (ms' := 0) (as' := [(0, 59)]) (st := []) (by omega) (by omega) (by omega) rfl rfl (Nat.le_of_ble_eq_true rfl) (c_X6_sign E S (hw [(131, 1), (131, 2), (131, 5), (131, 6), (131, 7), (131, 8)] (hw [(131, 5), (131, 6), (131, 7), (131, 8)] (hw [(131, 1), (131, 2)] (hw [(131, 1), (131, 2), (131, 5), (131, 6), (131, 7), (131, 8)] G G3) G12) G38) G39) this 59 hS flh41 flh41e (by omega) (by omega)) ?_
            rintro _ _ _ ⟨rfl, ⟨G48, rfl⟩, z49, rfl, flh50, flh50e, z49a, z49b, f51⟩
            refine r_peekI hX (tl_131 1 rfl (by decide)) hS (fun o52 o52e o52a o52b => ?_)
            obtain rfl : flh50 = o52 := flh50e.trans o52e.symm
            refine r_ex hX hP 3 (pc' := 62) (st' := [(0, 3), (0, z1)]) (lo' := [(0, (2, this)), (1, (0, z1)), (2, (0, (-1))), (3, (0, (-1)))]) rfl ?_
            refine r_ic_eq hX hP rfl (tgt := 85) rfl (by omega) (by omega) (by omega) (by omega) (fun c53 => ?_) (fun c53 => ?_)
            · skip
              exact r_retV hX hP rfl rfl (by omega) (by omega) ⟨rfl, ⟨_, (hw_sub (hw_sub (hw_sub (hw_sub (hw_sub (hw_refl _ _) rfl) rfl) rfl) rfl) rfl).symm⟩, rfl, trivial⟩
            · skip
              refine r_ex hX hP 1 (pc' := 66) (st' := [(2, this)]) (lo' := [(0, (2, this)), (1, (0, z1)), (2, (0, (-1))), (3, (0, (-1)))]) rfl ?_
              refine r_getKN hX hP rfl fl_X6_54_131 hS (x := tx) tx_e ?_
              refine r_getR hX hP rfl fl_X6_171_136 tx_s (fun mf54 mf54e mf54s => ?_)
              refine r_ex hX hP 2 (pc' := 74) (st' := [(0, (-1)), (0, z1), (2, mf54)]) (lo' := [(0, (2, this)), (1, (0, z1)), (2, (0, (-1))), (3, (0, (-1)))]) rfl ?_
              refine r_iastK hX hP rfl al_124 mf54s (by omega) (by omega) (by omega) (by omega) (fun h55 => ?_)
              refine r_ex hX hP 1 (pc' := 76) (st' := [(2, this)]) (lo' := [(0, (2, this)), (1, (0, z1)), (2, (0, (-1))), (3, (0, (-1)))]) rfl ?_
              refine r_getKN hX hP rfl fl_X6_54_131 hS (x := tx) tx_e ?_
              refine r_getR hX hP rfl fl_X6_234_136 tx_s (fun sf56 sf56e sf56s => ?_)
              refine r_ex hX hP 2 (pc' := 84) (st' := [(0, (-1)), (0, z1), (2, sf56)]) (lo' := [(0, (2, this)), (1, (0, z1)), (2, (0, (-1))), (3, (0, (-1)))]) rfl ?_
              refine r_iastK hX hP rfl al_124 sf56s (by omega) (by omega) (by omega) (by omega) (fun h57 => ?_)
              exact r_retV hX hP rfl rfl (by omega) (by omega) ⟨rfl, ⟨_, (hw_up (hw_up (hw_sub (hw_sub (hw_sub (hw_sub (hw_sub (hw_refl _ _) rfl) rfl) rfl) rfl) rfl) rfl) rfl).symm⟩, rfl, trivial⟩
          · skip
            refine r_peekI hX (tl_131 1 rfl (by decide)) hS (fun o58 o58e o58a o58b => ?_)
            obtain rfl : flh41 = o58 := flh41e.trans o58e.symm
            refine r_ex hX hP 4 (pc' := 56) (st' := [(0, 59), (2, this)]) (lo' := [(0, (2, this)), (1, (0, z1)), (2, (0, (-1))), (3, (0, z40))]) rfl ?_
            refine r_callV gd hX hP rfl cv_X6_116_131 hS (d' := 2) (mc' := 0) (ms' := 0) (as' := [(0, 59)]) (st := []) (by omega) (by omega) (by omega) rfl rfl (Nat.le_of_ble_eq_true rfl) (c_X6_sign E S (hw [(131, 1), (131, 2), (131, 5), (131, 6), (131, 7), (131, 8)] (hw [(131, 5), (131, 6), (131, 7), (131, 8)] (hw [(131, 1), (131, 2)] (hw [(131, 1), (131, 2), (131, 5), (131, 6), (131, 7), (131, 8)] G G3) G12) G38) G39) this 59 hS flh41 flh41e (by omega) (by omega)) ?_
            rintro _ _ _ ⟨rfl, ⟨G59, rfl⟩, z60, rfl, flh61, flh61e, z60a, z60b, f62⟩
            refine r_peekI hX (tl_131 1 rfl (by decide)) hS (fun o63 o63e o63a o63b => ?_)
            obtain rfl : flh61 = o63 := flh61e.trans o63e.symm
            refine r_ex hX hP 3 (pc' := 62) (st' := [(0, 3), (0, z1)]) (lo' := [(0, (2, this)), (1, (0, z1)), (2, (0, (-1))), (3, (0, z40))]) rfl ?_
            refine r_ic_eq hX hP rfl (tgt := 85) rfl (by omega) (by omega) (by omega) (by omega) (fun c64 => ?_) (fun c64 => ?_)
            · skip
              exact r_retV hX hP rfl rfl (by omega) (by omega) ⟨rfl, ⟨_, (hw_sub (hw_sub (hw_sub (hw_sub (hw_sub (hw_refl _ _) rfl) rfl) rfl) rfl) rfl).symm⟩, rfl, trivial⟩
            · skip
              refine r_ex hX hP 1 (pc' := 66) (st' := [(2, this)]) (lo' := [(0, (2, this)), (1, (0, z1)), (2, (0, (-1))), (3, (0, z40))]) rfl ?_
              refine r_getKN hX hP rfl fl_X6_54_131 hS (x := tx) tx_e ?_
              refine r_getR hX hP rfl fl_X6_171_136 tx_s (fun mf65 mf65e mf65s => ?_)
              refine r_ex hX hP 2 (pc' := 74) (st' := [(0, (-1)), (0, z1), (2, mf65)]) (lo' := [(0, (2, this)), (1, (0, z1)), (2, (0, (-1))), (3, (0, z40))]) rfl ?_
              refine r_iastK hX hP rfl al_124 mf65s (by omega) (by omega) (by omega) (by omega) (fun h66 => ?_)
              refine r_ex hX hP 1 (pc' := 76) (st' := [(2, this)]) (lo' := [(0, (2, this)), (1, (0, z1)), (2, (0, (-1))), (3, (0, z40))]) rfl ?_
              refine r_getKN hX hP rfl fl_X6_54_131 hS (x := tx) tx_e ?_
              refine r_getR hX hP rfl fl_X6_234_136 tx_s (fun sf67 sf67e sf67s => ?_)
              refine r_ex hX hP 2 (pc' := 84) (st' := [(0, z40), (0, z1), (2, sf67)]) (lo' := [(0, (2, this)), (1, (0, z1)), (2, (0, (-1))), (3, (0, z40))]) rfl ?_
              refine r_iastK hX hP rfl al_124 sf67s (by omega) (by omega) (by omega) (by omega) (fun h68 => ?_)
              exact r_retV hX hP rfl rfl (by omega) (by omega) ⟨rfl, ⟨_, (hw_up (hw_up (hw_sub (hw_sub (hw_sub (hw_sub (hw_sub (hw_refl _ _) rfl) rfl) rfl) rfl) rfl) rfl) rfl).symm⟩, rfl, trivial⟩
    · skip
      refine r_peekI hX (tl_131 1 rfl (by decide)) hS (fun o69 o69e o69a o69b => ?_)
      obtain rfl : flh14 = o69 := flh14e.trans o69e.symm
      refine r_if_eq hX hP rfl (tgt := 47) rfl (by omega) (by omega) (fun c70 => ?_) (fun c70 => ?_)
      · skip
        refine r_ex hX hP 1 (pc' := 48) (st' := [(2, this)]) (lo' := [(0, (2, this)), (1, (0, z1)), (2, (0, (-1))), (3, (0, (-1)))]) rfl ?_
        refine r_ldcS hX hP rfl (k := 17) (by decide) rfl rfl ?_
        refine r_callV gd hX hP rfl cv_X6_202_131 hS (d' := 5) (mc' := 0) (ms' := 0) (as' := [(2, (sK E 17))]) (st := []) (by omega) (by omega) (by omega) rfl rfl (Nat.le_of_ble_eq_true rfl) (c_X6_keyword E S (hw [(131, 1), (131, 2)] (hw [(131, 1), (131, 2), (131, 5), (131, 6), (131, 7), (131, 8)] G G3) G12) this 17 hS (by decide) flh14 flh14e) ?_
        rintro _ _ _ ⟨rfl, ⟨G71, rfl⟩, rfl, flh72, flh72e, f73⟩
        refine r_peekI hX (tl_131 1 rfl (by decide)) hS (fun o74 o74e o74a o74b => ?_)
        obtain rfl : flh72 = o74 := flh72e.trans o74e.symm
        refine r_ex hX hP 2 (pc' := 56) (st' := [(0, 59), (2, this)]) (lo' := [(0, (2, this)), (1, (0, z1)), (2, (0, (-1))), (3, (0, (-1)))]) rfl ?_
        refine r_callV gd hX hP rfl cv_X6_116_131 hS (d' := 2) (mc' := 0) (ms' := 0) (as' := [(0, 59)]) (st := []) (by omega) (by omega) (by omega) rfl rfl (Nat.le_of_ble_eq_true rfl) (c_X6_sign E S (hw [(131, 1), (131, 2), (131, 5), (131, 6), (131, 7), (131, 8)] (hw [(131, 1), (131, 2)] (hw [(131, 1), (131, 2), (131, 5), (131, 6), (131, 7), (131, 8)] G G3) G12) G71) this 59 hS flh72 flh72e (by omega) (by omega)) ?_
        rintro _ _ _ ⟨rfl, ⟨G75, rfl⟩, z76, rfl, flh77, flh77e, z76a, z76b, f78⟩
        refine r_peekI hX (tl_131 1 rfl (by decide)) hS (fun o79 o79e o79a o79b => ?_)
        obtain rfl : flh77 = o79 := flh77e.trans o79e.symm
        refine r_ex hX hP 3 (pc' := 62) (st' := [(0, 3), (0, z1)]) (lo' := [(0, (2, this)), (1, (0, z1)), (2, (0, (-1))), (3, (0, (-1)))]) rfl ?_
        refine r_ic_eq hX hP rfl (tgt := 85) rfl (by omega) (by omega) (by omega) (by omega) (fun c80 => ?_) (fun c80 => ?_)
        · skip
          exact r_retV hX hP rfl rfl (by omega) (by omega) ⟨rfl, ⟨_, (hw_sub (hw_sub (hw_sub (hw_sub (hw_refl _ _) rfl) rfl) rfl) rfl).symm⟩, rfl, trivial⟩
        · skip
          refine r_ex hX hP 1 (pc' := 66) (st' := [(2, this)]) (lo' := [(0, (2, this)), (1, (0, z1)), (2, (0, (-1))), (3, (0, (-1)))]) rfl ?_
          refine r_getKN hX hP rfl fl_X6_54_131 hS (x := tx) tx_e ?_
          refine r_getR hX hP rfl fl_X6_171_136 tx_s (fun mf81 mf81e mf81s => ?_)
          refine r_ex hX hP 2 (pc' := 74) (st' := [(0, (-1)), (0, z1), (2, mf81)]) (lo' := [(0, (2, this)), (1, (0, z1)), (2, (0, (-1))), (3, (0, (-1)))]) rfl ?_
          refine r_iastK hX hP rfl al_124 mf81s (by omega) (by omega) (by omega) (by omega) (fun h82 => ?_)
          refine r_ex hX hP 1 (pc' := 76) (st' := [(2, this)]) (lo' := [(0, (2, this)), (1, (0, z1)), (2, (0, (-1))), (3, (0, (-1)))]) rfl ?_
          refine r_getKN hX hP rfl fl_X6_54_131 hS (x := tx) tx_e ?_
          refine r_getR hX hP rfl fl_X6_234_136 tx_s (fun sf83 sf83e sf83s => ?_)
          refine r_ex hX hP 2 (pc' := 84) (st' := [(0, (-1)), (0, z1), (2, sf83)]) (lo' := [(0, (2, this)), (1, (0, z1)), (2, (0, (-1))), (3, (0, (-1)))]) rfl ?_
          refine r_iastK hX hP rfl al_124 sf83s (by omega) (by omega) (by omega) (by omega) (fun h84 => ?_)
          exact r_retV hX hP rfl rfl (by omega) (by omega) ⟨rfl, ⟨_, (hw_up (hw_up (hw_sub (hw_sub (hw_sub (hw_sub (hw_refl _ _) rfl) rfl) rfl) rfl) rfl) rfl).symm⟩, rfl, trivial⟩
      · skip
        exfalso; omega
  · skip
    refine r_peekI hX (tl_131 1 rfl (by decide)) hS (fun o85 o85e o85a o85b => ?_)
    obtain rfl : flh5 = o85 := flh5e.trans o85e.symm
    refine r_ex hX hP 5 (pc' := 17) (st' := [(0, 1), (2, this)]) (lo' := [(0, (2, this)), (1, (0, z1)), (2, (0, z4)), (3, (0, (-1)))]) rfl ?_
    refine r_callV gd hX hP rfl cv_X6_95_131 hS (d' := 1) (mc' := 0) (ms' := 0) (as' := [(0, 1)]) (st := []) (by omega) (by omega) (by omega) rfl rfl (Nat.le_of_ble_eq_true rfl) (c_X6_expect E S (hw [(131, 1), (131, 2), (131, 5), (131, 6), (131, 7), (131, 8)] G G3) this 1 hS flh5 flh5e (by omega) (by omega)) ?_
    rintro _ _ _ ⟨rfl, ⟨G86, rfl⟩, z87, rfl, flh88, flh88e, (⟨rfl, f89, f90⟩ | ⟨rfl, f91⟩)⟩
    · skip
      refine r_peekI hX (tl_131 1 rfl (by decide)) hS (fun o92 o92e o92a o92b => ?_)
      obtain rfl : flh88 = o92 := flh88e.trans o92e.symm
      refine r_if_eq hX hP rfl (tgt := 47) rfl (by omega) (by omega) (fun c93 => ?_) (fun c93 => ?_)
      · skip
        exfalso; omega
      · skip
        refine r_ex hX hP 1 (pc' := 24) (st' := [(2, this)]) (lo' := [(0, (2, this)), (1, (0, z1)), (2, (0, z4)), (3, (0, (-1)))]) rfl ?_
        refine r_ldcS hX hP rfl (k := 16) (by decide) rfl rfl ?_
        refine r_peekI hX (tl_131 5 rfl (by decide)) hS (fun atp94 atp94e atp94a atp94b => ?_)
        refine r_peekI hX (tl_131 7 rfl (by decide)) hS (fun stp95 stp95e stp95a stp95b => ?_)
        refine r_callV gd hX hP rfl cv_X6_98_131 hS (d' := 4) (mc' := 0) (ms' := 0) (as' := [(2, (sK E 16))]) (st := []) (by omega) (by omega) (by omega) rfl rfl (Nat.le_of_ble_eq_true rfl) (c_X6_is E S (hw [(131, 1), (131, 2)] (hw [(131, 1), (131, 2), (131, 5), (131, 6), (131, 7), (131, 8)] G G3) G86) this 16 hS (by decide) atp94 atp94e stp95 stp95e) ?_
        rintro _ _ _ ⟨rfl, rfl, z96, rfl, z96a, z96b⟩
        refine r_if_eq hX hP rfl (tgt := 47) rfl (by omega) (by omega) (fun c97 => ?_) (fun c97 => ?_)
        · skip
          refine r_ex hX hP 1 (pc' := 48) (st' := [(2, this)]) (lo' := [(0, (2, this)), (1, (0, z1)), (2, (0, z4)), (3, (0, (-1)))]) rfl ?_
          refine r_ldcS hX hP rfl (k := 17) (by decide) rfl rfl ?_
          refine r_callV gd hX hP rfl cv_X6_202_131 hS (d' := 5) (mc' := 0) (ms' := 0) (as' := [(2, (sK E 17))]) (st := []) (by omega) (by omega) (by omega) rfl rfl (Nat.le_of_ble_eq_true rfl) (c_X6_keyword E S (hw [(131, 1), (131, 2)] (hw [(131, 1), (131, 2), (131, 5), (131, 6), (131, 7), (131, 8)] G G3) G86) this 17 hS (by decide) flh88 flh88e) ?_
          rintro _ _ _ ⟨rfl, ⟨G98, rfl⟩, rfl, flh99, flh99e, f100⟩
          refine r_peekI hX (tl_131 1 rfl (by decide)) hS (fun o101 o101e o101a o101b => ?_)
          obtain rfl : flh99 = o101 := flh99e.trans o101e.symm
          refine r_ex hX hP 2 (pc' := 56) (st' := [(0, 59), (2, this)]) (lo' := [(0, (2, this)), (1, (0, z1)), (2, (0, z4)), (3, (0, (-1)))]) rfl ?_
          refine r_callV gd hX hP rfl cv_X6_116_131 hS (d' := 2) (mc' := 0) (ms' := 0) (as' := [(0, 59)]) (st := []) (by omega) (by omega) (by omega) rfl rfl (Nat.le_of_ble_eq_true rfl) (c_X6_sign E S (hw [(131, 1), (131, 2), (131, 5), (131, 6), (131, 7), (131, 8)] (hw [(131, 1), (131, 2)] (hw [(131, 1), (131, 2), (131, 5), (131, 6), (131, 7), (131, 8)] G G3) G86) G98) this 59 hS flh99 flh99e (by omega) (by omega)) ?_
          rintro _ _ _ ⟨rfl, ⟨G102, rfl⟩, z103, rfl, flh104, flh104e, z103a, z103b, f105⟩
          refine r_peekI hX (tl_131 1 rfl (by decide)) hS (fun o106 o106e o106a o106b => ?_)
          obtain rfl : flh104 = o106 := flh104e.trans o106e.symm
          refine r_ex hX hP 3 (pc' := 62) (st' := [(0, 3), (0, z1)]) (lo' := [(0, (2, this)), (1, (0, z1)), (2, (0, z4)), (3, (0, (-1)))]) rfl ?_
          refine r_ic_eq hX hP rfl (tgt := 85) rfl (by omega) (by omega) (by omega) (by omega) (fun c107 => ?_) (fun c107 => ?_)
          · skip
            exact r_retV hX hP rfl rfl (by omega) (by omega) ⟨rfl, ⟨_, (hw_sub (hw_sub (hw_sub (hw_sub (hw_refl _ _) rfl) rfl) rfl) rfl).symm⟩, rfl, trivial⟩
          · skip
            refine r_ex hX hP 1 (pc' := 66) (st' := [(2, this)]) (lo' := [(0, (2, this)), (1, (0, z1)), (2, (0, z4)), (3, (0, (-1)))]) rfl ?_
            refine r_getKN hX hP rfl fl_X6_54_131 hS (x := tx) tx_e ?_
            refine r_getR hX hP rfl fl_X6_171_136 tx_s (fun mf108 mf108e mf108s => ?_)
            refine r_ex hX hP 2 (pc' := 74) (st' := [(0, z4), (0, z1), (2, mf108)]) (lo' := [(0, (2, this)), (1, (0, z1)), (2, (0, z4)), (3, (0, (-1)))]) rfl ?_
            refine r_iastK hX hP rfl al_124 mf108s (by omega) (by omega) (by omega) (by omega) (fun h109 => ?_)
            refine r_ex hX hP 1 (pc' := 76) (st' := [(2, this)]) (lo' := [(0, (2, this)), (1, (0, z1)), (2, (0, z4)), (3, (0, (-1)))]) rfl ?_
            refine r_getKN hX hP rfl fl_X6_54_131 hS (x := tx) tx_e ?_
            refine r_getR hX hP rfl fl_X6_234_136 tx_s (fun sf110 sf110e sf110s => ?_)
            refine r_ex hX hP 2 (pc' := 84) (st' := [(0, (-1)), (0, z1), (2, sf110)]) (lo' := [(0, (2, this)), (1, (0, z1)), (2, (0, z4)), (3, (0, (-1)))]) rfl ?_
            refine r_iastK hX hP rfl al_124 sf110s (by omega) (by omega) (by omega) (by omega) (fun h111 => ?_)
            exact r_retV hX hP rfl rfl (by omega) (by omega) ⟨rfl, ⟨_, (hw_up (hw_up (hw_sub (hw_sub (hw_sub (hw_sub (hw_refl _ _) rfl) rfl) rfl) rfl) rfl) rfl).symm⟩, rfl, trivial⟩
        · skip
          refine r_ex hX hP 1 (pc' := 33) (st' := [(2, this)]) (lo' := [(0, (2, this)), (1, (0, z1)), (2, (0, z4)), (3, (0, (-1)))]) rfl ?_
          refine r_callV gd hX hP rfl cv_X6_80_131 hS (d' := 1) (mc' := 0) (ms' := 0) (as' := []) (st := []) (by omega) (by omega) (by omega) rfl rfl (Nat.le_of_ble_eq_true rfl) (c_X6_advance E S (hw [(131, 1), (131, 2)] (hw [(131, 1), (131, 2), (131, 5), (131, 6), (131, 7), (131, 8)] G G3) G86) this  hS) ?_
          rintro _ _ _ ⟨rfl, ⟨G112, rfl⟩, rfl, -⟩
          refine r_ex hX hP 2 (pc' := 38) (st' := [(0, 0), (2, this)]) (lo' := [(0, (2, this)), (1, (0, z1)), (2, (0, z4)), (3, (0, (-1)))]) rfl ?_
          refine r_ldc hX hP rfl (v := 9999999) (tbg sg4 166 rfl rfl) ?_
          refine r_callV gd hX hP rfl cv_X6_196_131 hS (d' := 2) (mc' := 0) (ms' := 0) (as' := [(0, 0), (0, 9999999)]) (st := []) (by omega) (by omega) (by omega) rfl rfl (Nat.le_of_ble_eq_true rfl) (c_X6_number E S (hw [(131, 5), (131, 6), (131, 7), (131, 8)] (hw [(131, 1), (131, 2)] (hw [(131, 1), (131, 2), (131, 5), (131, 6), (131, 7), (131, 8)] G G3) G86) G112) this 0 9999999 hS flh88 flh88e (by omega) (by omega) (by omega) (by omega)) ?_
          rintro _ _ _ ⟨rfl, ⟨G113, rfl⟩, z114, rfl, flh115, flh115e, (⟨rfl, f116⟩ | ⟨z114a, z114b, f117, f118, f119, f120⟩)⟩
          · skip
            refine r_peekI hX (tl_131 1 rfl (by decide)) hS (fun o121 o121e o121a o121b => ?_)
            obtain rfl : flh115 = o121 := flh115e.trans o121e.symm
            refine r_ex hX hP 4 (pc' := 56) (st' := [(0, 59), (2, this)]) (lo' := [(0, (2, this)), (1, (0, z1)), (2, (0, z4)), (3, (0, (-1)))]) rfl ?_
            refine r_callV gd hX hP rfl cv_X6_116_131 hS (d' := 2) (mc' := 0) (ms' := 0) (as' := [(0, 59)]) (st := []) (by omega) (by omega) (by omega) rfl rfl (Nat.le_of_ble_eq_true rfl) (c_X6_sign E S (hw [(131, 1), (131, 2), (131, 5), (131, 6), (131, 7), (131, 8)] (hw [(131, 5), (131, 6), (131, 7), (131, 8)] (hw [(131, 1), (131, 2)] (hw [(131, 1), (131, 2), (131, 5), (131, 6), (131, 7), (131, 8)] G G3) G86) G112) G113) this 59 hS flh115 flh115e (by omega) (by omega)) ?_
            rintro _ _ _ ⟨rfl, ⟨G122, rfl⟩, z123, rfl, flh124, flh124e, z123a, z123b, f125⟩
            refine r_peekI hX (tl_131 1 rfl (by decide)) hS (fun o126 o126e o126a o126b => ?_)
            obtain rfl : flh124 = o126 := flh124e.trans o126e.symm
            refine r_ex hX hP 3 (pc' := 62) (st' := [(0, 3), (0, z1)]) (lo' := [(0, (2, this)), (1, (0, z1)), (2, (0, z4)), (3, (0, (-1)))]) rfl ?_
            refine r_ic_eq hX hP rfl (tgt := 85) rfl (by omega) (by omega) (by omega) (by omega) (fun c127 => ?_) (fun c127 => ?_)
            · skip
              exact r_retV hX hP rfl rfl (by omega) (by omega) ⟨rfl, ⟨_, (hw_sub (hw_sub (hw_sub (hw_sub (hw_sub (hw_refl _ _) rfl) rfl) rfl) rfl) rfl).symm⟩, rfl, trivial⟩
            · skip
              refine r_ex hX hP 1 (pc' := 66) (st' := [(2, this)]) (lo' := [(0, (2, this)), (1, (0, z1)), (2, (0, z4)), (3, (0, (-1)))]) rfl ?_
              refine r_getKN hX hP rfl fl_X6_54_131 hS (x := tx) tx_e ?_
              refine r_getR hX hP rfl fl_X6_171_136 tx_s (fun mf128 mf128e mf128s => ?_)
              refine r_ex hX hP 2 (pc' := 74) (st' := [(0, z4), (0, z1), (2, mf128)]) (lo' := [(0, (2, this)), (1, (0, z1)), (2, (0, z4)), (3, (0, (-1)))]) rfl ?_
              refine r_iastK hX hP rfl al_124 mf128s (by omega) (by omega) (by omega) (by omega) (fun h129 => ?_)
              refine r_ex hX hP 1 (pc' := 76) (st' := [(2, this)]) (lo' := [(0, (2, this)), (1, (0, z1)), (2, (0, z4)), (3, (0, (-1)))]) rfl ?_
              refine r_getKN hX hP rfl fl_X6_54_131 hS (x := tx) tx_e ?_
              refine r_getR hX hP rfl fl_X6_234_136 tx_s (fun sf130 sf130e sf130s => ?_)
              refine r_ex hX hP 2 (pc' := 84) (st' := [(0, (-1)), (0, z1), (2, sf130)]) (lo' := [(0, (2, this)), (1, (0, z1)), (2, (0, z4)), (3, (0, (-1)))]) rfl ?_
              refine r_iastK hX hP rfl al_124 sf130s (by omega) (by omega) (by omega) (by omega) (fun h131 => ?_)
              exact r_retV hX hP rfl rfl (by omega) (by omega) ⟨rfl, ⟨_, (hw_up (hw_up (hw_sub (hw_sub (hw_sub (hw_sub (hw_sub (hw_refl _ _) rfl) rfl) rfl) rfl) rfl) rfl) rfl).symm⟩, rfl, trivial⟩
          · skip
            refine r_peekI hX (tl_131 1 rfl (by decide)) hS (fun o132 o132e o132a o132b => ?_)
            obtain rfl : flh115 = o132 := flh115e.trans o132e.symm
            refine r_ex hX hP 4 (pc' := 56) (st' := [(0, 59), (2, this)]) (lo' := [(0, (2, this)), (1, (0, z1)), (2, (0, z4)), (3, (0, z114))]) rfl ?_
            refine r_callV gd hX hP rfl cv_X6_116_131 hS (d' := 2) (mc' := 0) (ms' := 0) (as' := [(0, 59)]) (st := []) (by omega) (by omega) (by omega) rfl rfl (Nat.le_of_ble_eq_true rfl) (c_X6_sign E S (hw [(131, 1), (131, 2), (131, 5), (131, 6), (131, 7), (131, 8)] (hw [(131, 5), (131, 6), (131, 7), (131, 8)] (hw [(131, 1), (131, 2)] (hw [(131, 1), (131, 2), (131, 5), (131, 6), (131, 7), (131, 8)] G G3) G86) G112) G113) this 59 hS flh115 flh115e (by omega) (by omega)) ?_
            rintro _ _ _ ⟨rfl, ⟨G133, rfl⟩, z134, rfl, flh135, flh135e, z134a, z134b, f136⟩
            refine r_peekI hX (tl_131 1 rfl (by decide)) hS (fun o137 o137e o137a o137b => ?_)
            obtain rfl : flh135 = o137 := flh135e.trans o137e.symm
            refine r_ex hX hP 3 (pc' := 62) (st' := [(0, 3), (0, z1)]) (lo' := [(0, (2, this)), (1, (0, z1)), (2, (0, z4)), (3, (0, z114))]) rfl ?_
            refine r_ic_eq hX hP rfl (tgt := 85) rfl (by omega) (by omega) (by omega) (by omega) (fun c138 => ?_) (fun c138 => ?_)
            · skip
              exact r_retV hX hP rfl rfl (by omega) (by omega) ⟨rfl, ⟨_, (hw_sub (hw_sub (hw_sub (hw_sub (hw_sub (hw_refl _ _) rfl) rfl) rfl) rfl) rfl).symm⟩, rfl, trivial⟩
            · skip
              refine r_ex hX hP 1 (pc' := 66) (st' := [(2, this)]) (lo' := [(0, (2, this)), (1, (0, z1)), (2, (0, z4)), (3, (0, z114))]) rfl ?_
              refine r_getKN hX hP rfl fl_X6_54_131 hS (x := tx) tx_e ?_
              refine r_getR hX hP rfl fl_X6_171_136 tx_s (fun mf139 mf139e mf139s => ?_)
              refine r_ex hX hP 2 (pc' := 74) (st' := [(0, z4), (0, z1), (2, mf139)]) (lo' := [(0, (2, this)), (1, (0, z1)), (2, (0, z4)), (3, (0, z114))]) rfl ?_
              refine r_iastK hX hP rfl al_124 mf139s (by omega) (by omega) (by omega) (by omega) (fun h140 => ?_)
              refine r_ex hX hP 1 (pc' := 76) (st' := [(2, this)]) (lo' := [(0, (2, this)), (1, (0, z1)), (2, (0, z4)), (3, (0, z114))]) rfl ?_
              refine r_getKN hX hP rfl fl_X6_54_131 hS (x := tx) tx_e ?_
              refine r_getR hX hP rfl fl_X6_234_136 tx_s (fun sf141 sf141e sf141s => ?_)
              refine r_ex hX hP 2 (pc' := 84) (st' := [(0, z114), (0, z1), (2, sf141)]) (lo' := [(0, (2, this)), (1, (0, z1)), (2, (0, z4)), (3, (0, z114))]) rfl ?_
              refine r_iastK hX hP rfl al_124 sf141s (by omega) (by omega) (by omega) (by omega) (fun h142 => ?_)
              exact r_retV hX hP rfl rfl (by omega) (by omega) ⟨rfl, ⟨_, (hw_up (hw_up (hw_sub (hw_sub (hw_sub (hw_sub (hw_sub (hw_refl _ _) rfl) rfl) rfl) rfl) rfl) rfl) rfl).symm⟩, rfl, trivial⟩
    · skip
      refine r_peekI hX (tl_131 1 rfl (by decide)) hS (fun o143 o143e o143a o143b => ?_)
      obtain rfl : flh88 = o143 := flh88e.trans o143e.symm
      refine r_if_eq hX hP rfl (tgt := 47) rfl (by omega) (by omega) (fun c144 => ?_) (fun c144 => ?_)
      · skip
        refine r_ex hX hP 1 (pc' := 48) (st' := [(2, this)]) (lo' := [(0, (2, this)), (1, (0, z1)), (2, (0, z4)), (3, (0, (-1)))]) rfl ?_
        refine r_ldcS hX hP rfl (k := 17) (by decide) rfl rfl ?_
        refine r_callV gd hX hP rfl cv_X6_202_131 hS (d' := 5) (mc' := 0) (ms' := 0) (as' := [(2, (sK E 17))]) (st := []) (by omega) (by omega) (by omega) rfl rfl (Nat.le_of_ble_eq_true rfl) (c_X6_keyword E S (hw [(131, 1), (131, 2)] (hw [(131, 1), (131, 2), (131, 5), (131, 6), (131, 7), (131, 8)] G G3) G86) this 17 hS (by decide) flh88 flh88e) ?_
        rintro _ _ _ ⟨rfl, ⟨G145, rfl⟩, rfl, flh146, flh146e, f147⟩
        refine r_peekI hX (tl_131 1 rfl (by decide)) hS (fun o148 o148e o148a o148b => ?_)
        obtain rfl : flh146 = o148 := flh146e.trans o148e.symm
        refine r_ex hX hP 2 (pc' := 56) (st' := [(0, 59), (2, this)]) (lo' := [(0, (2, this)), (1, (0, z1)), (2, (0, z4)), (3, (0, (-1)))]) rfl ?_
        refine r_callV gd hX hP rfl cv_X6_116_131 hS (d' := 2) (mc' := 0) (ms' := 0) (as' := [(0, 59)]) (st := []) (by omega) (by omega) (by omega) rfl rfl (Nat.le_of_ble_eq_true rfl) (c_X6_sign E S (hw [(131, 1), (131, 2), (131, 5), (131, 6), (131, 7), (131, 8)] (hw [(131, 1), (131, 2)] (hw [(131, 1), (131, 2), (131, 5), (131, 6), (131, 7), (131, 8)] G G3) G86) G145) this 59 hS flh146 flh146e (by omega) (by omega)) ?_
        rintro _ _ _ ⟨rfl, ⟨G149, rfl⟩, z150, rfl, flh151, flh151e, z150a, z150b, f152⟩
        refine r_peekI hX (tl_131 1 rfl (by decide)) hS (fun o153 o153e o153a o153b => ?_)
        obtain rfl : flh151 = o153 := flh151e.trans o153e.symm
        refine r_ex hX hP 3 (pc' := 62) (st' := [(0, 3), (0, z1)]) (lo' := [(0, (2, this)), (1, (0, z1)), (2, (0, z4)), (3, (0, (-1)))]) rfl ?_
        refine r_ic_eq hX hP rfl (tgt := 85) rfl (by omega) (by omega) (by omega) (by omega) (fun c154 => ?_) (fun c154 => ?_)
        · skip
          exact r_retV hX hP rfl rfl (by omega) (by omega) ⟨rfl, ⟨_, (hw_sub (hw_sub (hw_sub (hw_sub (hw_refl _ _) rfl) rfl) rfl) rfl).symm⟩, rfl, trivial⟩
        · skip
          refine r_ex hX hP 1 (pc' := 66) (st' := [(2, this)]) (lo' := [(0, (2, this)), (1, (0, z1)), (2, (0, z4)), (3, (0, (-1)))]) rfl ?_
          refine r_getKN hX hP rfl fl_X6_54_131 hS (x := tx) tx_e ?_
          refine r_getR hX hP rfl fl_X6_171_136 tx_s (fun mf155 mf155e mf155s => ?_)
          refine r_ex hX hP 2 (pc' := 74) (st' := [(0, z4), (0, z1), (2, mf155)]) (lo' := [(0, (2, this)), (1, (0, z1)), (2, (0, z4)), (3, (0, (-1)))]) rfl ?_
          refine r_iastK hX hP rfl al_124 mf155s (by omega) (by omega) (by omega) (by omega) (fun h156 => ?_)
          refine r_ex hX hP 1 (pc' := 76) (st' := [(2, this)]) (lo' := [(0, (2, this)), (1, (0, z1)), (2, (0, z4)), (3, (0, (-1)))]) rfl ?_
          refine r_getKN hX hP rfl fl_X6_54_131 hS (x := tx) tx_e ?_
          refine r_getR hX hP rfl fl_X6_234_136 tx_s (fun sf157 sf157e sf157s => ?_)
          refine r_ex hX hP 2 (pc' := 84) (st' := [(0, (-1)), (0, z1), (2, sf157)]) (lo' := [(0, (2, this)), (1, (0, z1)), (2, (0, z4)), (3, (0, (-1)))]) rfl ?_
          refine r_iastK hX hP rfl al_124 sf157s (by omega) (by omega) (by omega) (by omega) (fun h158 => ?_)
          exact r_retV hX hP rfl rfl (by omega) (by omega) ⟨rfl, ⟨_, (hw_up (hw_up (hw_sub (hw_sub (hw_sub (hw_sub (hw_refl _ _) rfl) rfl) rfl) rfl) rfl) rfl).symm⟩, rfl, trivial⟩
      · skip
        exfalso; omega
set_option maxRecDepth 100000 in
set_option maxHeartbeats 4000000 in
theorem c_X6_clause (E : En) (S : Sg) (G : Gh) (this : Int) (hS : S this = 131) (tx : Int) (tx_e : tx = G 131 this 9) (tx_s : S tx = 136) (s0 : Int) (s0_e : s0 = G 136 tx 0) (td : Int) (td_e : td = G 131 this 10) (pre0 : s0 ≤ td) (ci : CI E S G) : Calls E mX6_clause [(2, this)] S G 7 0 0 (fun r S' G' => S = S' ∧ (∃ G1, hw [(106, -1), (107, -1), (119, -1), (120, -1), (121, -1), (122, -1), (123, -1), (124, -1), (131, 1), (131, 2), (131, 5), (131, 6), (131, 7), (131, 8), (131, 10), (131, 11), (131, 13), (131, 14), (136, 0), (136, 1), (136, 2)] G G1 = G') ∧ r = none ∧ ∃ s1 : Int, s1 = G' 136 tx 0 ∧ ∃ t1 : Int, t1 = G' 131 this 10 ∧ s1 ≤ t1 ∧ CI E S G') := by
  refine calls_by [(0, (2, this))] rfl rfl (Nat.le_of_ble_eq_true rfl) (fun X hX => ?_)
  have hP := hPX6_clause
  refine r_peekI hX (tl_136 0 rfl (by decide)) tx_s (fun s0_o s0_oe s0_oa s0_ob => ?_)
  obtain rfl : s0 = s0_o := s0_e.trans s0_oe.symm
  refine r_peekI hX (tl_131 10 rfl (by decide)) hS (fun td_o td_oe td_oa td_ob => ?_)
  obtain rfl : td = td_o := td_e.trans td_oe.symm
  refine r_ex hX hP 2 (pc' := 2) (st' := [(0, 1), (2, this)]) (lo' := [(0, (2, this))]) rfl ?_
  refine r_peekI hX (tl_131 1 rfl (by decide)) hS (fun flp1 flp1e flp1a flp1b => ?_)
  refine r_callV gd hX hP rfl cv_X6_95_131 hS (d' := 1) (mc' := 0) (ms' := 0) (as' := [(0, 1)]) (st := []) (by omega) (by omega) (by omega) rfl rfl (Nat.le_of_ble_eq_true rfl) (c_X6_expect E S G this 1 hS flp1 flp1e (by omega) (by omega)) ?_
  rintro _ _ _ ⟨rfl, ⟨G2, rfl⟩, z3, rfl, flh4, flh4e, (⟨rfl, f5, f6⟩ | ⟨rfl, f7⟩)⟩
  · skip
    refine r_peekI hX (tl_131 1 rfl (by decide)) hS (fun o8 o8e o8a o8b => ?_)
    obtain rfl : flh4 = o8 := flh4e.trans o8e.symm
    refine r_if_ne hX hP rfl (tgt := 9) rfl (by omega) (by omega) (fun c9 => ?_) (fun c9 => ?_)
    · skip
      refine r_ex hX hP 1 (pc' := 10) (st' := [(2, this)]) (lo' := [(0, (2, this))]) rfl ?_
      refine r_callV gd hX hP rfl cv_X6_119_131 hS (d' := 5) (mc' := 0) (ms' := 0) (as' := []) (st := []) (by omega) (by omega) (by omega) rfl rfl (Nat.le_of_ble_eq_true rfl) (c_X6_clauseWord E S (hw [(131, 1), (131, 2)] G G2) this  hS) ?_
      rintro _ _ _ ⟨rfl, rfl, z10, rfl, z10a, z10b⟩
      refine r_ex hX hP 3 (pc' := 16) (st' := [(0, z10), (2, this)]) (lo' := [(0, (2, this)), (1, (0, z10))]) rfl ?_
      refine r_peekI hX (tl_131 11 rfl (by decide)) hS (fun dep11 dep11e dep11a dep11b => ?_)
      refine r_callV gd hX hP rfl cv_X6_122_131 hS (d' := 2) (mc' := 0) (ms' := 0) (as' := [(0, z10)]) (st := []) (by omega) (by omega) (by omega) rfl rfl (Nat.le_of_ble_eq_true rfl) (c_X6_wordFault E S (hw [(131, 1), (131, 2)] G G2) this z10 hS tx tx_e tx_s td td_e dep11 dep11e (by omega) (by omega)) ?_
      rintro _ _ _ ⟨rfl, rfl, z12, rfl, (⟨rfl, f13, f14, f15⟩ | ⟨z12a, z12b⟩)⟩
      · skip
        refine r_ex hX hP 2 (pc' := 21) (st' := [(0, 0)]) (lo' := [(0, (2, this)), (1, (0, z10)), (2, (0, 0))]) rfl ?_
        refine r_if_eq hX hP rfl (tgt := 31) rfl (by omega) (by omega) (fun c16 => ?_) (fun c16 => ?_)
        · skip
          refine r_ex hX hP 2 (pc' := 33) (st' := [(2, this), (2, this)]) (lo' := [(0, (2, this)), (1, (0, z10)), (2, (0, 0))]) rfl ?_
          refine r_getKI hX hP rfl fl_X6_70_131 hS (x := td) td_e ?_
          refine r_ex hX hP 2 (pc' := 38) (st' := [(0, (td + 1)), (2, this)]) (lo' := [(0, (2, this)), (1, (0, z10)), (2, (0, 0))]) rfl ?_
          refine r_putIK hX hP rfl fp_X6_70_131 hS (by omega) (by omega) (fun h17 => ?_)
          refine r_ex hX hP 1 (pc' := 42) (st' := [(2, this)]) (lo' := [(0, (2, this)), (1, (0, z10)), (2, (0, 0))]) rfl ?_
          refine r_callV gd hX hP rfl cv_X6_80_131 hS (d' := 1) (mc' := 0) (ms' := 0) (as' := []) (st := []) (by omega) (by omega) (by omega) rfl rfl (Nat.le_of_ble_eq_true rfl) (c_X6_advance E S (up (hw [(131, 1), (131, 2)] G G2) 131 this 10 (td + 1)) this  hS) ?_
          rintro _ _ _ ⟨rfl, ⟨G18, rfl⟩, rfl, -⟩
          refine r_ex hX hP 1 (pc' := 46) (st' := [(0, z10)]) (lo' := [(0, (2, this)), (1, (0, z10)), (2, (0, 0))]) rfl ?_
          rcases (by omega : z10 < 4 ∨ 9 < z10 ∨ z10 = 4 ∨ z10 = 5 ∨ z10 = 6 ∨ z10 = 7 ∨ z10 = 8 ∨ z10 = 9) with cT | cT | cT | cT | cT | cT | cT | cT
          · skip
            refine r_tsOut hX hP rfl (tgt := 126) (by omega) (by omega) (by omega) rfl ?_
            refine r_ex hX hP 2 (pc' := 128) (st' := [(0, z10), (2, this)]) (lo' := [(0, (2, this)), (1, (0, z10)), (2, (0, 0))]) rfl ?_
            have ci19 : CI E S (hw [(131, 5), (131, 6), (131, 7), (131, 8)] (up (hw [(131, 1), (131, 2)] G G2) 131 this 10 (td + 1)) G18) := (ci_hw (ci_up (ci_hw ci rfl) rfl) rfl)
            refine r_callV gd hX hP rfl cv_X6_144_131 hS (d' := 6) (mc' := 0) (ms' := 0) (as' := [(0, z10)]) (st := []) (by omega) (by omega) (by omega) rfl rfl (Nat.le_of_ble_eq_true rfl) (c_X6_ratio E S (hw [(131, 5), (131, 6), (131, 7), (131, 8)] (up (hw [(131, 1), (131, 2)] G G2) 131 this 10 (td + 1)) G18) this z10 hS tx tx_e tx_s s0 s0_e (td + 1) h17 (by omega) (by omega) (by omega) ci19) ?_
            rintro _ _ _ ⟨rfl, ⟨G20, rfl⟩, rfl, sih21, sih21e, f22, ci23⟩
            refine r_peekI hX (tl_136 0 rfl (by decide)) tx_s (fun o24 o24e o24a o24b => ?_)
            obtain rfl : sih21 = o24 := sih21e.trans o24e.symm
            exact r_retV hX hP rfl rfl (by omega) (by omega) ⟨rfl, ⟨_, (hw_sub (hw_sub (hw_up (hw_sub (hw_refl _ _) rfl) rfl) rfl) rfl).symm⟩, rfl, sih21, sih21e, (td + 1), h17, (by omega), ci23⟩
          · skip
            exfalso; omega
          · skip
            refine r_tsIn hX hP rfl (tgt := 84) (off := 38) (by omega) (by omega) (by omega) (by omega) (by rw [cT]; rfl) rfl ?_
            refine r_ex hX hP 1 (pc' := 85) (st' := [(2, this)]) (lo' := [(0, (2, this)), (1, (0, z10)), (2, (0, 0))]) rfl ?_
            have ci25 : CI E S (hw [(131, 5), (131, 6), (131, 7), (131, 8)] (up (hw [(131, 1), (131, 2)] G G2) 131 this 10 (td + 1)) G18) := (ci_hw (ci_up (ci_hw ci rfl) rfl) rfl)
            refine r_callV gd hX hP rfl cv_X6_126_131 hS (d' := 6) (mc' := 0) (ms' := 0) (as' := []) (st := []) (by omega) (by omega) (by omega) rfl rfl (Nat.le_of_ble_eq_true rfl) (c_X6_moveWorth E S (hw [(131, 5), (131, 6), (131, 7), (131, 8)] (up (hw [(131, 1), (131, 2)] G G2) 131 this 10 (td + 1)) G18) this  hS tx tx_e tx_s s0 s0_e (td + 1) h17 (by omega) ci25) ?_
            rintro _ _ _ ⟨rfl, ⟨G26, rfl⟩, rfl, sih27, sih27e, f28, ci29⟩
            refine r_peekI hX (tl_136 0 rfl (by decide)) tx_s (fun o30 o30e o30a o30b => ?_)
            obtain rfl : sih27 = o30 := sih27e.trans o30e.symm
            refine r_ex hX hP 1 (pc' := 131) (st' := []) (lo' := [(0, (2, this)), (1, (0, z10)), (2, (0, 0))]) rfl ?_
            exact r_retV hX hP rfl rfl (by omega) (by omega) ⟨rfl, ⟨_, (hw_sub (hw_sub (hw_up (hw_sub (hw_refl _ _) rfl) rfl) rfl) rfl).symm⟩, rfl, sih27, sih27e, (td + 1), h17, (by omega), ci29⟩
          · skip
            refine r_tsIn hX hP rfl (tgt := 91) (off := 45) (by omega) (by omega) (by omega) (by omega) (by rw [cT]; rfl) rfl ?_
            refine r_ex hX hP 1 (pc' := 92) (st' := [(2, this)]) (lo' := [(0, (2, this)), (1, (0, z10)), (2, (0, 0))]) rfl ?_
            have ci31 : CI E S (hw [(131, 5), (131, 6), (131, 7), (131, 8)] (up (hw [(131, 1), (131, 2)] G G2) 131 this 10 (td + 1)) G18) := (ci_hw (ci_up (ci_hw ci rfl) rfl) rfl)
            refine r_callV gd hX hP rfl cv_X6_129_131 hS (d' := 5) (mc' := 0) (ms' := 0) (as' := []) (st := []) (by omega) (by omega) (by omega) rfl rfl (Nat.le_of_ble_eq_true rfl) (c_X6_fraction E S (hw [(131, 5), (131, 6), (131, 7), (131, 8)] (up (hw [(131, 1), (131, 2)] G G2) 131 this 10 (td + 1)) G18) this  hS tx tx_e tx_s s0 s0_e (td + 1) h17 (by omega) ci31) ?_
            rintro _ _ _ ⟨rfl, ⟨G32, rfl⟩, rfl, sih33, sih33e, f34, ci35⟩
            refine r_peekI hX (tl_136 0 rfl (by decide)) tx_s (fun o36 o36e o36a o36b => ?_)
            obtain rfl : sih33 = o36 := sih33e.trans o36e.symm
            refine r_ex hX hP 1 (pc' := 131) (st' := []) (lo' := [(0, (2, this)), (1, (0, z10)), (2, (0, 0))]) rfl ?_
            exact r_retV hX hP rfl rfl (by omega) (by omega) ⟨rfl, ⟨_, (hw_sub (hw_sub (hw_up (hw_sub (hw_refl _ _) rfl) rfl) rfl) rfl).symm⟩, rfl, sih33, sih33e, (td + 1), h17, (by omega), ci35⟩
          · skip
            refine r_tsIn hX hP rfl (tgt := 98) (off := 52) (by omega) (by omega) (by omega) (by omega) (by rw [cT]; rfl) rfl ?_
            refine r_ex hX hP 1 (pc' := 99) (st' := [(2, this)]) (lo' := [(0, (2, this)), (1, (0, z10)), (2, (0, 0))]) rfl ?_
            have ci37 : CI E S (hw [(131, 5), (131, 6), (131, 7), (131, 8)] (up (hw [(131, 1), (131, 2)] G G2) 131 this 10 (td + 1)) G18) := (ci_hw (ci_up (ci_hw ci rfl) rfl) rfl)
            refine r_callV gd hX hP rfl cv_X6_132_131 hS (d' := 6) (mc' := 0) (ms' := 0) (as' := []) (st := []) (by omega) (by omega) (by omega) rfl rfl (Nat.le_of_ble_eq_true rfl) (c_X6_when E S (hw [(131, 5), (131, 6), (131, 7), (131, 8)] (up (hw [(131, 1), (131, 2)] G G2) 131 this 10 (td + 1)) G18) this  hS tx tx_e tx_s s0 s0_e (td + 1) h17 (by omega) ci37) ?_
            rintro _ _ _ ⟨rfl, ⟨G38, rfl⟩, rfl, sih39, sih39e, f40, ci41⟩
            refine r_peekI hX (tl_136 0 rfl (by decide)) tx_s (fun o42 o42e o42a o42b => ?_)
            obtain rfl : sih39 = o42 := sih39e.trans o42e.symm
            refine r_ex hX hP 1 (pc' := 131) (st' := []) (lo' := [(0, (2, this)), (1, (0, z10)), (2, (0, 0))]) rfl ?_
            exact r_retV hX hP rfl rfl (by omega) (by omega) ⟨rfl, ⟨_, (hw_sub (hw_sub (hw_up (hw_sub (hw_refl _ _) rfl) rfl) rfl) rfl).symm⟩, rfl, sih39, sih39e, (td + 1), h17, (by omega), ci41⟩
          · skip
            refine r_tsIn hX hP rfl (tgt := 105) (off := 59) (by omega) (by omega) (by omega) (by omega) (by rw [cT]; rfl) rfl ?_
            refine r_ex hX hP 1 (pc' := 106) (st' := [(2, this)]) (lo' := [(0, (2, this)), (1, (0, z10)), (2, (0, 0))]) rfl ?_
            refine r_callV gd hX hP rfl cv_X6_135_131 hS (d' := 4) (mc' := 0) (ms' := 0) (as' := []) (st := []) (by omega) (by omega) (by omega) rfl rfl (Nat.le_of_ble_eq_true rfl) (c_X6_choice E S (hw [(131, 5), (131, 6), (131, 7), (131, 8)] (up (hw [(131, 1), (131, 2)] G G2) 131 this 10 (td + 1)) G18) this  hS tx tx_e tx_s) ?_
            rintro _ _ _ ⟨rfl, ⟨G43, rfl⟩, rfl, -⟩
            refine r_ex hX hP 1 (pc' := 131) (st' := []) (lo' := [(0, (2, this)), (1, (0, z10)), (2, (0, 0))]) rfl ?_
            have ci44 : CI E S (hw [(106, -1), (107, -1), (131, 1), (131, 2), (131, 5), (131, 6), (131, 7), (131, 8), (131, 11), (136, 1)] (hw [(131, 5), (131, 6), (131, 7), (131, 8)] (up (hw [(131, 1), (131, 2)] G G2) 131 this 10 (td + 1)) G18) G43) := (ci_hw (ci_hw (ci_up (ci_hw ci rfl) rfl) rfl) rfl)
            exact r_retV hX hP rfl rfl (by omega) (by omega) ⟨rfl, ⟨_, (hw_sub (hw_sub (hw_up (hw_sub (hw_refl _ _) rfl) rfl) rfl) rfl).symm⟩, rfl, s0, s0_e, (td + 1), h17, (by omega), ci44⟩
          · skip
            refine r_tsIn hX hP rfl (tgt := 112) (off := 66) (by omega) (by omega) (by omega) (by omega) (by rw [cT]; rfl) rfl ?_
            refine r_ex hX hP 1 (pc' := 113) (st' := [(2, this)]) (lo' := [(0, (2, this)), (1, (0, z10)), (2, (0, 0))]) rfl ?_
            refine r_callV gd hX hP rfl cv_X6_138_131 hS (d' := 3) (mc' := 0) (ms' := 0) (as' := []) (st := []) (by omega) (by omega) (by omega) rfl rfl (Nat.le_of_ble_eq_true rfl) (c_X6_fallback E S (hw [(131, 5), (131, 6), (131, 7), (131, 8)] (up (hw [(131, 1), (131, 2)] G G2) 131 this 10 (td + 1)) G18) this  hS tx tx_e tx_s) ?_
            rintro _ _ _ ⟨rfl, ⟨G45, rfl⟩, rfl, -⟩
            refine r_ex hX hP 1 (pc' := 131) (st' := []) (lo' := [(0, (2, this)), (1, (0, z10)), (2, (0, 0))]) rfl ?_
            have ci46 : CI E S (hw [(131, 1), (131, 2), (131, 5), (131, 6), (131, 7), (131, 8), (136, 2)] (hw [(131, 5), (131, 6), (131, 7), (131, 8)] (up (hw [(131, 1), (131, 2)] G G2) 131 this 10 (td + 1)) G18) G45) := (ci_hw (ci_hw (ci_up (ci_hw ci rfl) rfl) rfl) rfl)
            exact r_retV hX hP rfl rfl (by omega) (by omega) ⟨rfl, ⟨_, (hw_sub (hw_sub (hw_up (hw_sub (hw_refl _ _) rfl) rfl) rfl) rfl).symm⟩, rfl, s0, s0_e, (td + 1), h17, (by omega), ci46⟩
          · skip
            refine r_tsIn hX hP rfl (tgt := 119) (off := 73) (by omega) (by omega) (by omega) (by omega) (by rw [cT]; rfl) rfl ?_
            refine r_ex hX hP 1 (pc' := 120) (st' := [(2, this)]) (lo' := [(0, (2, this)), (1, (0, z10)), (2, (0, 0))]) rfl ?_
            refine r_callV gd hX hP rfl cv_X6_141_131 hS (d' := 6) (mc' := 0) (ms' := 0) (as' := []) (st := []) (by omega) (by omega) (by omega) rfl rfl (Nat.le_of_ble_eq_true rfl) (c_X6_most E S (hw [(131, 5), (131, 6), (131, 7), (131, 8)] (up (hw [(131, 1), (131, 2)] G G2) 131 this 10 (td + 1)) G18) this  hS tx tx_e tx_s) ?_
            rintro _ _ _ ⟨rfl, ⟨G47, rfl⟩, rfl, -⟩
            refine r_ex hX hP 1 (pc' := 131) (st' := []) (lo' := [(0, (2, this)), (1, (0, z10)), (2, (0, 0))]) rfl ?_
            have ci48 : CI E S (hw [(124, -1), (131, 1), (131, 2), (131, 5), (131, 6), (131, 7), (131, 8)] (hw [(131, 5), (131, 6), (131, 7), (131, 8)] (up (hw [(131, 1), (131, 2)] G G2) 131 this 10 (td + 1)) G18) G47) := (ci_hw (ci_hw (ci_up (ci_hw ci rfl) rfl) rfl) rfl)
            exact r_retV hX hP rfl rfl (by omega) (by omega) ⟨rfl, ⟨_, (hw_sub (hw_sub (hw_up (hw_sub (hw_refl _ _) rfl) rfl) rfl) rfl).symm⟩, rfl, s0, s0_e, (td + 1), h17, (by omega), ci48⟩
        · skip
          exfalso; omega
      · skip
        refine r_ex hX hP 2 (pc' := 21) (st' := [(0, z12)]) (lo' := [(0, (2, this)), (1, (0, z10)), (2, (0, z12))]) rfl ?_
        refine r_if_eq hX hP rfl (tgt := 31) rfl (by omega) (by omega) (fun c49 => ?_) (fun c49 => ?_)
        · skip
          exfalso; omega
        · skip
          refine r_ex hX hP 2 (pc' := 26) (st' := [(0, z12), (2, this)]) (lo' := [(0, (2, this)), (1, (0, z10)), (2, (0, z12))]) rfl ?_
          refine r_callV gd hX hP rfl cv_X6_44_131 hS (d' := 0) (mc' := 0) (ms' := 0) (as' := [(0, z12)]) (st := []) (by omega) (by omega) (by omega) rfl rfl (Nat.le_of_ble_eq_true rfl) (c_X6_fail E S (hw [(131, 1), (131, 2)] G G2) this z12 hS (by omega) (by omega)) ?_
          rintro _ _ _ ⟨rfl, ⟨G50, rfl⟩, z51, rfl, flh52, flh52e, rfl, f53⟩
          refine r_peekI hX (tl_131 1 rfl (by decide)) hS (fun o54 o54e o54a o54b => ?_)
          obtain rfl : flh52 = o54 := flh52e.trans o54e.symm
          refine r_ex hX hP 1 (pc' := 30) (st' := []) (lo' := [(0, (2, this)), (1, (0, z10)), (2, (0, z12))]) rfl ?_
          have ci55 : CI E S (hw [(131, 1), (131, 2)] (hw [(131, 1), (131, 2)] G G2) G50) := (ci_hw (ci_hw ci rfl) rfl)
          exact r_retV hX hP rfl rfl (by omega) (by omega) ⟨rfl, ⟨_, (hw_sub (hw_sub (hw_refl _ _) rfl) rfl).symm⟩, rfl, s0, s0_e, td, td_e, (by omega), ci55⟩
    · skip
      exfalso; omega
  · skip
    refine r_peekI hX (tl_131 1 rfl (by decide)) hS (fun o56 o56e o56a o56b => ?_)
    obtain rfl : flh4 = o56 := flh4e.trans o56e.symm
    refine r_if_ne hX hP rfl (tgt := 9) rfl (by omega) (by omega) (fun c57 => ?_) (fun c57 => ?_)
    · skip
      exfalso; omega
    · skip
      have ci58 : CI E S (hw [(131, 1), (131, 2)] G G2) := (ci_hw ci rfl)
      exact r_retV hX hP rfl rfl (by omega) (by omega) ⟨rfl, ⟨_, (hw_sub (hw_refl _ _) rfl).symm⟩, rfl, s0, s0_e, td, td_e, (by omega), ci58⟩
