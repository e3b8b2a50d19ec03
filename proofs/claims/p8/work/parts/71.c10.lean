theorem fl_X6_67_131 : Fl RX6 67 131 5 (0, 0, 400) := ⟨7, 17, fs_131, RX6, TX6, rfl, rfl, by decide, rfl, by decide, rfl, cf_X6, (tbg sg2 38 rfl rfl)⟩
theorem fl_X6_83_131 : Fl RX6 83 131 7 (0, 0, 400) := ⟨7, 17, fs_131, RX6, TX6, rfl, rfl, by decide, rfl, by decide, rfl, cf_X6, (tbg sg2 40 rfl rfl)⟩
theorem fp_X6_83_131 : Fp RX6 83 131 7 (0, 0, 400) := ⟨fl_X6_83_131, 7, 17, fs_131, RX6, TX6, .int, rfl, rfl, rfl, by decide +kernel, fun E S x h => ⟨rfl, rfl⟩⟩
theorem fl_X6_64_131 : Fl RX6 64 131 4 (0, 0, 400) := ⟨7, 17, fs_131, RX6, TX6, rfl, rfl, by decide, rfl, by decide, rfl, cf_X6, (tbg sg2 37 rfl rfl)⟩
theorem co_X6_isLetter : Co mX6_isLetter 1 := ⟨(tbg sg4 34 rfl rfl), (tbg sg1 8 rfl rfl), by decide, by decide, by decide +kernel, by decide⟩
theorem cv_X6_86_131 : Cv RX6 86 mX6_isLetter 131 1 := ⟨co_X6_isLetter, (tbg sg4 31 rfl rfl), (tbg sg4 33 rfl rfl), 7, 17, fs_131, RX6, TX6, rfl, by decide, rfl, (tbm 8 (by decide +kernel) rfl)⟩
theorem co_X6_isDigit : Co mX6_isDigit 1 := ⟨(tbg sg4 38 rfl rfl), (tbg sg1 8 rfl rfl), by decide, by decide, by decide +kernel, by decide⟩
theorem cv_X6_89_131 : Cv RX6 89 mX6_isDigit 131 1 := ⟨co_X6_isDigit, (tbg sg4 35 rfl rfl), (tbg sg4 37 rfl rfl), 7, 17, fs_131, RX6, TX6, rfl, by decide, rfl, (tbm 9 (by decide +kernel) rfl)⟩
theorem fl_X6_38_131 : Fl RX6 38 131 6 (0, (-2147483648), 2147483647) := ⟨7, 17, fs_131, RX6, TX6, rfl, rfl, by decide, rfl, by decide, rfl, cf_X6, (tbg sg2 39 rfl rfl)⟩
theorem fp_X6_38_131 : Fp RX6 38 131 6 (0, (-2147483648), 2147483647) := ⟨fl_X6_38_131, 7, 17, fs_131, RX6, TX6, .int, rfl, rfl, rfl, by decide +kernel, fun E S x h => ⟨rfl, rfl⟩⟩
theorem fp_X6_67_131 : Fp RX6 67 131 5 (0, 0, 400) := ⟨fl_X6_67_131, 7, 17, fs_131, RX6, TX6, .int, rfl, rfl, rfl, by decide +kernel, fun E S x h => ⟨rfl, rfl⟩⟩
theorem fl_X6_92_131 : Fl RX6 92 131 8 (0, (-2147483648), 2147483647) := ⟨7, 17, fs_131, RX6, TX6, rfl, rfl, by decide, rfl, by decide, rfl, cf_X6, (tbg sg2 41 rfl rfl)⟩
theorem fp_X6_92_131 : Fp RX6 92 131 8 (0, (-2147483648), 2147483647) := ⟨fl_X6_92_131, 7, 17, fs_131, RX6, TX6, .int, rfl, rfl, rfl, by decide +kernel, fun E S x h => ⟨rfl, rfl⟩⟩
theorem tl_131 (j : Nat) {t : Ty} (h : fs_131.getD j (0, 0, 0) = t) (hj : j < fs_131.length) : Tl 131 j t := ⟨7, fs_131, rfl, hj, h, by decide⟩
theorem fl_X6_9_131 : Fl RX6 9 131 1 (0, (-2147483648), 2147483647) := ⟨7, 17, fs_131, RX6, TX6, rfl, rfl, by decide, rfl, by decide, rfl, cf_X6, (tbg sg2 32 rfl rfl)⟩
theorem fp_X6_9_131 : Fp RX6 9 131 1 (0, (-2147483648), 2147483647) := ⟨fl_X6_9_131, 7, 17, fs_131, RX6, TX6, .int, rfl, rfl, rfl, by decide +kernel, fun E S x h => ⟨rfl, rfl⟩⟩
theorem fl_X6_15_131 : Fl RX6 15 131 2 (0, (-2147483648), 2147483647) := ⟨7, 17, fs_131, RX6, TX6, rfl, rfl, by decide, rfl, by decide, rfl, cf_X6, (tbg sg2 34 rfl rfl)⟩
theorem fp_X6_15_131 : Fp RX6 15 131 2 (0, (-2147483648), 2147483647) := ⟨fl_X6_15_131, 7, 17, fs_131, RX6, TX6, .int, rfl, rfl, rfl, by decide +kernel, fun E S x h => ⟨rfl, rfl⟩⟩
theorem co_X6_fail : Co mX6_fail 1 := ⟨(tbg sg4 42 rfl rfl), (tbg sg1 8 rfl rfl), by decide, by decide, by decide +kernel, by decide⟩
theorem cv_X6_44_131 : Cv RX6 44 mX6_fail 131 1 := ⟨co_X6_fail, (tbg sg4 39 rfl rfl), (tbg sg4 41 rfl rfl), 7, 17, fs_131, RX6, TX6, rfl, by decide, rfl, (tbm 10 (by decide +kernel) rfl)⟩
theorem co_X6_expect : Co mX6_expect 1 := ⟨(tbg sg4 111 rfl rfl), (tbg sg1 8 rfl rfl), by decide, by decide, by decide +kernel, by decide⟩
theorem cv_X6_95_131 : Cv RX6 95 mX6_expect 131 1 := ⟨co_X6_expect, (tbg sg4 108 rfl rfl), (tbg sg4 110 rfl rfl), 7, 17, fs_131, RX6, TX6, rfl, by decide, rfl, (tbm 15 (by decide +kernel) rfl)⟩
theorem co_X6_advance : Co mX6_advance 0 := ⟨(tbg sg4 30 rfl rfl), (tbg sg1 8 rfl rfl), by decide, by decide, by decide +kernel, by decide⟩
theorem cv_X6_80_131 : Cv RX6 80 mX6_advance 131 0 := ⟨co_X6_advance, (tbg sg4 27 rfl rfl), (tbg sg4 29 rfl rfl), 7, 17, fs_131, RX6, TX6, rfl, by decide, rfl, (tbm 7 (by decide +kernel) rfl)⟩
theorem co_J0_length_8abf5 : Co mJ0_length_8abf5 0 := ⟨(tbg sg4 55 rfl rfl), (tbg sg1 18 rfl rfl), by decide, by decide, by decide +kernel, by decide⟩
theorem ct_X6_102 : Ct RX6 102 mJ0_length_8abf5 0 := ⟨co_J0_length_8abf5, (tbg sg4 52 rfl rfl), (tbg sg4 53 rfl rfl), (tbg sg4 54 rfl rfl)⟩
theorem co_J0_charAt_5068e : Co mJ0_charAt_5068e 1 := ⟨(tbg sg4 65 rfl rfl), (tbg sg1 18 rfl rfl), by decide, by decide, by decide +kernel, by decide⟩
theorem ct_X6_107 : Ct RX6 107 mJ0_charAt_5068e 1 := ⟨co_J0_charAt_5068e, (tbg sg4 62 rfl rfl), (tbg sg4 63 rfl rfl), (tbg sg4 64 rfl rfl)⟩
theorem co_X6_is : Co mX6_is 1 := ⟨(tbg sg4 51 rfl rfl), (tbg sg1 8 rfl rfl), by decide, by decide, by decide +kernel, by decide⟩
theorem cv_X6_98_131 : Cv RX6 98 mX6_is 131 1 := ⟨co_X6_is, (tbg sg4 48 rfl rfl), (tbg sg4 50 rfl rfl), 7, 17, fs_131, RX6, TX6, rfl, by decide, rfl, (tbm 12 (by decide +kernel) rfl)⟩
theorem co_X6_sign : Co mX6_sign 1 := ⟨(tbg sg4 107 rfl rfl), (tbg sg1 8 rfl rfl), by decide, by decide, by decide +kernel, by decide⟩
theorem cv_X6_116_131 : Cv RX6 116 mX6_sign 131 1 := ⟨co_X6_sign, (tbg sg4 104 rfl rfl), (tbg sg4 106 rfl rfl), 7, 17, fs_131, RX6, TX6, rfl, by decide, rfl, (tbm 14 (by decide +kernel) rfl)⟩
theorem fl_X6_41_131 : Fl RX6 41 131 11 (0, 0, 3) := ⟨7, 17, fs_131, RX6, TX6, rfl, rfl, by decide, rfl, by decide, rfl, cf_X6, (tbg sg2 44 rfl rfl)⟩
theorem fl_X6_22_131 : Fl RX6 22 131 12 (2, 106, 0) := ⟨7, 17, fs_131, RX6, TX6, rfl, rfl, by decide, rfl, by decide, rfl, cf_X6, (tbg sg2 45 rfl rfl)⟩
theorem al_106 : Al 106 0 3 (0, (-1), 59) := ⟨rfl, by decide, by decide⟩
theorem fp_X6_41_131 : Fp RX6 41 131 11 (0, 0, 3) := ⟨fl_X6_41_131, 7, 17, fs_131, RX6, TX6, .int, rfl, rfl, rfl, by decide +kernel, fun E S x h => ⟨rfl, rfl⟩⟩
theorem co_X6_push : Co mX6_push 1 := ⟨(tbg sg4 103 rfl rfl), (tbg sg1 8 rfl rfl), by decide, by decide, by decide +kernel, by decide⟩
theorem cv_X6_113_131 : Cv RX6 113 mX6_push 131 1 := ⟨co_X6_push, (tbg sg4 100 rfl rfl), (tbg sg4 102 rfl rfl), 7, 17, fs_131, RX6, TX6, rfl, by decide, rfl, (tbm 13 (by decide +kernel) rfl)⟩
theorem fl_X6_54_131 : Fl RX6 54 131 9 (3, 136, 0) := ⟨7, 17, fs_131, RX6, TX6, rfl, rfl, by decide, rfl, by decide, rfl, cf_X6, (tbg sg2 42 rfl rfl)⟩
theorem fl_X6_173_136 : Fl RX6 173 136 1 (0, 0, 3) := ⟨10, 16, fs_136, RX9, TX9, rfl, rfl, by decide, rfl, by decide, rfl, cf_X9, (tbg sg3 178 rfl rfl)⟩
theorem co_X6_row : Co mX6_row 0 := ⟨(tbg sg4 141 rfl rfl), (tbg sg1 8 rfl rfl), by decide, by decide, by decide +kernel, by decide⟩
theorem cv_X6_168_131 : Cv RX6 168 mX6_row 131 0 := ⟨co_X6_row, (tbg sg4 138 rfl rfl), (tbg sg4 140 rfl rfl), 7, 17, fs_131, RX6, TX6, rfl, by decide, rfl, (tbm 20 (by decide +kernel) rfl)⟩
theorem fl_X6_77_131 : Fl RX6 77 131 14 (0, 0, 1) := ⟨7, 17, fs_131, RX6, TX6, rfl, rfl, by decide, rfl, by decide, rfl, cf_X6, (tbg sg2 47 rfl rfl)⟩
theorem fl_X6_73_131 : Fl RX6 73 131 13 (0, 0, 1) := ⟨7, 17, fs_131, RX6, TX6, rfl, rfl, by decide, rfl, by decide, rfl, cf_X6, (tbg sg2 46 rfl rfl)⟩
theorem fl_X6_171_136 : Fl RX6 171 136 9 (2, 124, 0) := ⟨10, 16, fs_136, RX9, TX9, rfl, rfl, by decide, rfl, by decide, rfl, cf_X9, (tbg sg3 211 rfl rfl)⟩
theorem fl_X6_70_131 : Fl RX6 70 131 10 (0, 0, 30) := ⟨7, 17, fs_131, RX6, TX6, rfl, rfl, by decide, rfl, by decide, rfl, cf_X6, (tbg sg2 43 rfl rfl)⟩
theorem co_X6_isMisplaced : Co mX6_isMisplaced 1 := ⟨(tbg sg4 137 rfl rfl), (tbg sg1 8 rfl rfl), by decide, by decide, by decide +kernel, by decide⟩
theorem cv_X6_165_131 : Cv RX6 165 mX6_isMisplaced 131 1 := ⟨co_X6_isMisplaced, (tbg sg4 134 rfl rfl), (tbg sg4 136 rfl rfl), 7, 17, fs_131, RX6, TX6, rfl, by decide, rfl, (tbm 19 (by decide +kernel) rfl)⟩
theorem fl_X6_163_136 : Fl RX6 163 136 2 (0, (-1), 2) := ⟨10, 16, fs_136, RX9, TX9, rfl, rfl, by decide, rfl, by decide, rfl, cf_X9, (tbg sg3 182 rfl rfl)⟩
theorem fl_X6_176_136 : Fl RX6 176 136 0 (0, 0, 30) := ⟨10, 16, fs_136, RX9, TX9, rfl, rfl, by decide, rfl, by decide, rfl, cf_X9, (tbg sg3 172 rfl rfl)⟩
theorem fl_X6_179_136 : Fl RX6 179 136 7 (2, 122, 0) := ⟨10, 16, fs_136, RX9, TX9, rfl, rfl, by decide, rfl, by decide, rfl, cf_X9, (tbg sg3 205 rfl rfl)⟩
theorem fl_X6_181_136 : Fl RX6 181 136 8 (2, 123, 0) := ⟨10, 16, fs_136, RX9, TX9, rfl, rfl, by decide, rfl, by decide, rfl, cf_X9, (tbg sg3 207 rfl rfl)⟩
theorem fl_X6_184_136 : Fl RX6 184 136 3 (2, 120, 0) := ⟨10, 16, fs_136, RX9, TX9, rfl, rfl, by decide, rfl, by decide, rfl, cf_X9, (tbg sg3 186 rfl rfl)⟩
theorem fl_X6_187_136 : Fl RX6 187 136 4 (2, 119, 0) := ⟨10, 16, fs_136, RX9, TX9, rfl, rfl, by decide, rfl, by decide, rfl, cf_X9, (tbg sg3 191 rfl rfl)⟩
theorem fl_X6_190_136 : Fl RX6 190 136 5 (2, 121, 0) := ⟨10, 16, fs_136, RX9, TX9, rfl, rfl, by decide, rfl, by decide, rfl, cf_X9, (tbg sg3 196 rfl rfl)⟩
theorem fl_X6_193_136 : Fl RX6 193 136 6 (2, 119, 0) := ⟨10, 16, fs_136, RX9, TX9, rfl, rfl, by decide, rfl, by decide, rfl, cf_X9, (tbg sg3 200 rfl rfl)⟩
theorem fp_X6_176_136 : Fp RX6 176 136 0 (0, 0, 30) := ⟨fl_X6_176_136, 10, 16, fs_136, RX9, TX9, .int, rfl, rfl, rfl, by decide +kernel, fun E S x h => ⟨rfl, rfl⟩⟩
theorem co_X6_number : Co mX6_number 2 := ⟨(tbg sg4 149 rfl rfl), (tbg sg1 8 rfl rfl), by decide, by decide, by decide +kernel, by decide⟩
theorem cv_X6_196_131 : Cv RX6 196 mX6_number 131 2 := ⟨co_X6_number, (tbg sg4 146 rfl rfl), (tbg sg4 148 rfl rfl), 7, 17, fs_131, RX6, TX6, rfl, by decide, rfl, (tbm 22 (by decide +kernel) rfl)⟩
theorem co_X6_keyword : Co mX6_keyword 1 := ⟨(tbg sg4 154 rfl rfl), (tbg sg1 8 rfl rfl), by decide, by decide, by decide +kernel, by decide⟩
theorem cv_X6_202_131 : Cv RX6 202 mX6_keyword 131 1 := ⟨co_X6_keyword, (tbg sg4 151 rfl rfl), (tbg sg4 153 rfl rfl), 7, 17, fs_131, RX6, TX6, rfl, by decide, rfl, (tbm 23 (by decide +kernel) rfl)⟩
theorem co_X6_store : Co mX6_store 4 := ⟨(tbg sg4 158 rfl rfl), (tbg sg1 8 rfl rfl), by decide, by decide, by decide +kernel, by decide⟩
theorem cv_X6_206_131 : Cv RX6 206 mX6_store 131 4 := ⟨co_X6_store, (tbg sg4 155 rfl rfl), (tbg sg4 157 rfl rfl), 7, 17, fs_131, RX6, TX6, rfl, by decide, rfl, (tbm 24 (by decide +kernel) rfl)⟩
theorem fp_X6_77_131 : Fp RX6 77 131 14 (0, 0, 1) := ⟨fl_X6_77_131, 7, 17, fs_131, RX6, TX6, .boolean, rfl, rfl, rfl, by decide +kernel, fun E S x h => zfit h⟩
theorem fp_X6_73_131 : Fp RX6 73 131 13 (0, 0, 1) := ⟨fl_X6_73_131, 7, 17, fs_131, RX6, TX6, .boolean, rfl, rfl, rfl, by decide +kernel, fun E S x h => zfit h⟩
theorem fl_X6_28_131 : Fl RX6 28 131 16 (2, 107, 0) := ⟨7, 17, fs_131, RX6, TX6, rfl, rfl, by decide, rfl, by decide, rfl, cf_X6, (tbg sg2 49 rfl rfl)⟩
theorem al_107 : Al 107 0 3 (0, 0, 400) := ⟨rfl, by decide, by decide⟩
theorem fl_X6_25_131 : Fl RX6 25 131 15 (2, 107, 0) := ⟨7, 17, fs_131, RX6, TX6, rfl, rfl, by decide, rfl, by decide, rfl, cf_X6, (tbg sg2 48 rfl rfl)⟩
theorem co_X6_isName : Co mX6_isName 0 := ⟨(tbg sg4 179 rfl rfl), (tbg sg1 8 rfl rfl), by decide, by decide, by decide +kernel, by decide⟩
theorem cv_X6_223_131 : Cv RX6 223 mX6_isName 131 0 := ⟨co_X6_isName, (tbg sg4 176 rfl rfl), (tbg sg4 178 rfl rfl), 7, 17, fs_131, RX6, TX6, rfl, by decide, rfl, (tbm 28 (by decide +kernel) rfl)⟩
theorem co_X6_named : Co mX6_named 0 := ⟨(tbg sg4 183 rfl rfl), (tbg sg1 8 rfl rfl), by decide, by decide, by decide +kernel, by decide⟩
theorem cv_X6_227_131 : Cv RX6 227 mX6_named 131 0 := ⟨co_X6_named, (tbg sg4 180 rfl rfl), (tbg sg4 182 rfl rfl), 7, 17, fs_131, RX6, TX6, rfl, by decide, rfl, (tbm 29 (by decide +kernel) rfl)⟩
theorem fp_X6_173_136 : Fp RX6 173 136 1 (0, 0, 3) := ⟨fl_X6_173_136, 10, 16, fs_136, RX9, TX9, .int, rfl, rfl, rfl, by decide +kernel, fun E S x h => ⟨rfl, rfl⟩⟩
theorem fp_X6_163_136 : Fp RX6 163 136 2 (0, (-1), 2) := ⟨fl_X6_163_136, 10, 16, fs_136, RX9, TX9, .int, rfl, rfl, rfl, by decide +kernel, fun E S x h => ⟨rfl, rfl⟩⟩
theorem fl_X6_234_136 : Fl RX6 234 136 10 (2, 124, 0) := ⟨10, 16, fs_136, RX9, TX9, rfl, rfl, by decide, rfl, by decide, rfl, cf_X9, (tbg sg3 215 rfl rfl)⟩
theorem co_X6_clauseWord : Co mX6_clauseWord 0 := ⟨(tbg sg4 119 rfl rfl), (tbg sg1 8 rfl rfl), by decide, by decide, by decide +kernel, by decide⟩
theorem cv_X6_119_131 : Cv RX6 119 mX6_clauseWord 131 0 := ⟨co_X6_clauseWord, (tbg sg4 116 rfl rfl), (tbg sg4 118 rfl rfl), 7, 17, fs_131, RX6, TX6, rfl, by decide, rfl, (tbm 17 (by decide +kernel) rfl)⟩
theorem co_X6_wordFault : Co mX6_wordFault 1 := ⟨(tbg sg4 133 rfl rfl), (tbg sg1 8 rfl rfl), by decide, by decide, by decide +kernel, by decide⟩
theorem cv_X6_122_131 : Cv RX6 122 mX6_wordFault 131 1 := ⟨co_X6_wordFault, (tbg sg4 130 rfl rfl), (tbg sg4 132 rfl rfl), 7, 17, fs_131, RX6, TX6, rfl, by decide, rfl, (tbm 18 (by decide +kernel) rfl)⟩
theorem fp_X6_70_131 : Fp RX6 70 131 10 (0, 0, 30) := ⟨fl_X6_70_131, 7, 17, fs_131, RX6, TX6, .int, rfl, rfl, rfl, by decide +kernel, fun E S x h => ⟨rfl, rfl⟩⟩
theorem co_X6_ratio : Co mX6_ratio 1 := ⟨(tbg sg4 197 rfl rfl), (tbg sg1 8 rfl rfl), by decide, by decide, by decide +kernel, by decide⟩
theorem cv_X6_144_131 : Cv RX6 144 mX6_ratio 131 1 := ⟨co_X6_ratio, (tbg sg4 194 rfl rfl), (tbg sg4 196 rfl rfl), 7, 17, fs_131, RX6, TX6, rfl, by decide, rfl, (tbm 32 (by decide +kernel) rfl)⟩
theorem co_X6_moveWorth : Co mX6_moveWorth 0 := ⟨(tbg sg4 145 rfl rfl), (tbg sg1 8 rfl rfl), by decide, by decide, by decide +kernel, by decide⟩
theorem cv_X6_126_131 : Cv RX6 126 mX6_moveWorth 131 0 := ⟨co_X6_moveWorth, (tbg sg4 142 rfl rfl), (tbg sg4 144 rfl rfl), 7, 17, fs_131, RX6, TX6, rfl, by decide, rfl, (tbm 21 (by decide +kernel) rfl)⟩
theorem co_X6_fraction : Co mX6_fraction 0 := ⟨(tbg sg4 162 rfl rfl), (tbg sg1 8 rfl rfl), by decide, by decide, by decide +kernel, by decide⟩
theorem cv_X6_129_131 : Cv RX6 129 mX6_fraction 131 0 := ⟨co_X6_fraction, (tbg sg4 159 rfl rfl), (tbg sg4 161 rfl rfl), 7, 17, fs_131, RX6, TX6, rfl, by decide, rfl, (tbm 25 (by decide +kernel) rfl)⟩
theorem co_X6_when : Co mX6_when 0 := ⟨(tbg sg4 170 rfl rfl), (tbg sg1 8 rfl rfl), by decide, by decide, by decide +kernel, by decide⟩
theorem cv_X6_132_131 : Cv RX6 132 mX6_when 131 0 := ⟨co_X6_when, (tbg sg4 167 rfl rfl), (tbg sg4 169 rfl rfl), 7, 17, fs_131, RX6, TX6, rfl, by decide, rfl, (tbm 26 (by decide +kernel) rfl)⟩
theorem co_X6_choice : Co mX6_choice 0 := ⟨(tbg sg4 175 rfl rfl), (tbg sg1 8 rfl rfl), by decide, by decide, by decide +kernel, by decide⟩
theorem cv_X6_135_131 : Cv RX6 135 mX6_choice 131 0 := ⟨co_X6_choice, (tbg sg4 172 rfl rfl), (tbg sg4 174 rfl rfl), 7, 17, fs_131, RX6, TX6, rfl, by decide, rfl, (tbm 27 (by decide +kernel) rfl)⟩
theorem co_X6_fallback : Co mX6_fallback 0 := ⟨(tbg sg4 187 rfl rfl), (tbg sg1 8 rfl rfl), by decide, by decide, by decide +kernel, by decide⟩
theorem cv_X6_138_131 : Cv RX6 138 mX6_fallback 131 0 := ⟨co_X6_fallback, (tbg sg4 184 rfl rfl), (tbg sg4 186 rfl rfl), 7, 17, fs_131, RX6, TX6, rfl, by decide, rfl, (tbm 30 (by decide +kernel) rfl)⟩
theorem co_X6_most : Co mX6_most 0 := ⟨(tbg sg4 191 rfl rfl), (tbg sg1 8 rfl rfl), by decide, by decide, by decide +kernel, by decide⟩
theorem cv_X6_141_131 : Cv RX6 141 mX6_most 131 0 := ⟨co_X6_most, (tbg sg4 188 rfl rfl), (tbg sg4 190 rfl rfl), 7, 17, fs_131, RX6, TX6, rfl, by decide, rfl, (tbm 31 (by decide +kernel) rfl)⟩
